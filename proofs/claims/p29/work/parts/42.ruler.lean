set_option maxHeartbeats 8000000 in
set_option maxRecDepth 100000 in
theorem c_X4_isAndOr (l : Launch) (X : zq_X) (zk zn : Nat) (I : zq_M) (L : zq_L X)  (p1 : Nat) (k_p1 : zq_k X p1 = 12)  : Met l yX4_isAndOr (zt_w yX4_isAndOr cX4_isAndOr 1 (some .boolean)) (zq_rm (0)) (va_Pc [.ref p1] (zq_W X (zk, zn) I)) (va_Qi (fun (r : Int32) I2 => I2 = I ∧ (0 ≤ r.toInt ∧ r.toInt ≤ 1)) (zq_E X (zk, zn)) (zq_A X)) 0 0 (zq_A X) := by
  refine Met.ofW (cc := cX4_isAndOr) (maxL := 1) (ret := (some .boolean)) (by decide) rfl ?_
  intro p e s m args below meth c s₁ B hml hv
  obtain ⟨hargs, hM, hZ⟩ := hv
  have hown : s.vm.findClass RX4 = some m.cls := findClass_of_methodNamed B.named
  have hts := atoms_spec (ws := zt_w yX4_isAndOr cX4_isAndOr 1 (some .boolean)) B.pre
  have E : CallFix p m c cX4_isAndOr 1 s args (Cond.code yX4_isAndOr cX4_isAndOr 1 (some .boolean) :: zt) RX4 := ⟨B.exec, B.bytes, hml, hown, hts⟩
  have hx := B.exec
  have hb := B.bytes
  have hr := B.returns
  have hlocks := B.notSynchronized
  clear B
  have hS : va_S (zq_A X) s.heap s.heap [] := va_S.rf
  have hl := lv_entry ([.ref p1]) (n := 1) (by exact Nat.le_of_ble_eq_true rfl)
  have hg : entryFrame m args 1 = F0 m 0 ((lg_sl ([.ref p1]) ++ List.replicate (1 - (lg_sl ([.ref p1])).length) Slot.unset).toArray) [] := by rw [hargs]; exact lg_entry_eq m ([.ref p1]) 1
  rw [hg]
  clear hg hargs
  generalize (lg_sl ([.ref p1]) ++ List.replicate (1 - (lg_sl ([.ref p1])).length) Slot.unset).toArray = ls at hl ⊢
  have hl : lv_has ls 1 [(0, .ref p1)] := by exact hl
  obtain ⟨R, hRm⟩ : ∃ R : Room, R = (headSpec (zt_w yX4_isAndOr cX4_isAndOr 1 (some .boolean)) (zq_rm (0))).room := ⟨_, rfl⟩
  rw [← hRm]
  generalize hQ : MQ below _ args s 0 0 (zq_A X) = Q
  obtain ⟨H, hH⟩ : ∃ H, H = s.heap := ⟨_, rfl⟩
  obtain ⟨locs, hlo⟩ : ∃ x : List Loc, x = [] := ⟨_, rfl⟩
  rw [show W p l e R s m args below meth c s.heap [] 0 0 Q = W p l e R s m args below meth c H locs 0 0 Q by rw [hH, hlo]]
  have hM : zq_hm X (zk, zn) I H := by rw [hH]; exact hM
  have hS : va_S (zq_A X) s.heap H locs := by rw [hH, hlo]; exact hS
  clear hH hlo
  refine lv_aload_n hx hb dX4_isAndOr_0 rfl (lv_at hl 0 rfl) ?_
  refine zq_getw (nm := "AND") E hZ hM (by decide) (List.mem_cons_of_mem _ zLX4_124) dX4_isAndOr_1 (fun w101 kw101 => ?_)
  refine lv_acmp_eq (rx := some p1) (ry := some w101) (tgt := 14) hx hb dX4_isAndOr_4 (by decide) (fun b102 => ?_) (fun b102 => ?_)
  · clear b102
    refine lv_iconst (v := 1) hx hb dX4_isAndOr_14 (by decide +kernel) ?_
    refine lv_goto (tgt := 19) hx hb dX4_isAndOr_15 (by decide) ?_
    subst hQ
    exact zq_zret E hr hZ hM hS (show 0 ≤ (1 : Int32).toInt ∧ (1 : Int32).toInt ≤ 1 by decide +kernel) ⟨rfl, (by have := zl_1; omega)⟩ hlocks dX4_isAndOr_19
  · clear b102
    refine lv_aload_n hx hb dX4_isAndOr_7 rfl (lv_at hl 0 rfl) ?_
    refine zq_getw (nm := "OR") E hZ hM (by decide) (List.mem_cons_of_mem _ zLX4_81) dX4_isAndOr_8 (fun w103 kw103 => ?_)
    refine lv_acmp_ne (rx := some p1) (ry := some w103) (tgt := 18) hx hb dX4_isAndOr_11 (by decide) (fun b104 => ?_) (fun b104 => ?_)
    · clear b104
      refine lv_iconst (v := 0) hx hb dX4_isAndOr_18 (by decide +kernel) ?_
      subst hQ
      exact zq_zret E hr hZ hM hS (show 0 ≤ (0 : Int32).toInt ∧ (0 : Int32).toInt ≤ 1 by decide +kernel) ⟨rfl, (by have := zl_0; omega)⟩ hlocks dX4_isAndOr_19
    · clear b104
      refine lv_iconst (v := 1) hx hb dX4_isAndOr_14 (by decide +kernel) ?_
      refine lv_goto (tgt := 19) hx hb dX4_isAndOr_15 (by decide) ?_
      subst hQ
      exact zq_zret E hr hZ hM hS (show 0 ≤ (1 : Int32).toInt ∧ (1 : Int32).toInt ≤ 1 by decide +kernel) ⟨rfl, (by have := zl_1; omega)⟩ hlocks dX4_isAndOr_19
set_option maxHeartbeats 8000000 in
set_option maxRecDepth 100000 in
theorem c_X4_isComparison (l : Launch) (X : zq_X) (zk zn : Nat) (I : zq_M) (L : zq_L X)  (p1 : Int32)  : Met l yX4_isComparison (zt_w yX4_isComparison cX4_isComparison 1 (some .boolean)) (zq_rm (0)) (va_Pc [.int p1] (zq_W X (zk, zn) I)) (va_Qi (fun (r : Int32) I2 => I2 = I ∧ (0 ≤ r.toInt ∧ r.toInt ≤ 1)) (zq_E X (zk, zn)) (zq_A X)) 0 0 (zq_A X) := by
  refine Met.ofW (cc := cX4_isComparison) (maxL := 1) (ret := (some .boolean)) (by decide) rfl ?_
  intro p e s m args below meth c s₁ B hml hv
  obtain ⟨hargs, hM, hZ⟩ := hv
  have hown : s.vm.findClass RX4 = some m.cls := findClass_of_methodNamed B.named
  have hts := atoms_spec (ws := zt_w yX4_isComparison cX4_isComparison 1 (some .boolean)) B.pre
  have E : CallFix p m c cX4_isComparison 1 s args (Cond.code yX4_isComparison cX4_isComparison 1 (some .boolean) :: zt) RX4 := ⟨B.exec, B.bytes, hml, hown, hts⟩
  have hx := B.exec
  have hb := B.bytes
  have hr := B.returns
  have hlocks := B.notSynchronized
  clear B
  have hS : va_S (zq_A X) s.heap s.heap [] := va_S.rf
  have hl := lv_entry ([.int p1]) (n := 1) (by exact Nat.le_of_ble_eq_true rfl)
  have hg : entryFrame m args 1 = F0 m 0 ((lg_sl ([.int p1]) ++ List.replicate (1 - (lg_sl ([.int p1])).length) Slot.unset).toArray) [] := by rw [hargs]; exact lg_entry_eq m ([.int p1]) 1
  rw [hg]
  clear hg hargs
  generalize (lg_sl ([.int p1]) ++ List.replicate (1 - (lg_sl ([.int p1])).length) Slot.unset).toArray = ls at hl ⊢
  have hl : lv_has ls 1 [(0, .int p1)] := by exact hl
  obtain ⟨R, hRm⟩ : ∃ R : Room, R = (headSpec (zt_w yX4_isComparison cX4_isComparison 1 (some .boolean)) (zq_rm (0))).room := ⟨_, rfl⟩
  rw [← hRm]
  generalize hQ : MQ below _ args s 0 0 (zq_A X) = Q
  obtain ⟨H, hH⟩ : ∃ H, H = s.heap := ⟨_, rfl⟩
  obtain ⟨locs, hlo⟩ : ∃ x : List Loc, x = [] := ⟨_, rfl⟩
  rw [show W p l e R s m args below meth c s.heap [] 0 0 Q = W p l e R s m args below meth c H locs 0 0 Q by rw [hH, hlo]]
  have hM : zq_hm X (zk, zn) I H := by rw [hH]; exact hM
  have hS : va_S (zq_A X) s.heap H locs := by rw [hH, hlo]; exact hS
  clear hH hlo
  refine lv_iload_n hx hb dX4_isComparison_0 rfl (lv_at hl 0 rfl) ?_
  refine lv_bipush (v := 60) hx hb dX4_isComparison_1 (by decide +kernel) ?_
  refine lv_icmp_eq (tgt := 32) hx hb dX4_isComparison_3 (by decide) (fun b101 => ?_) (fun b101 => ?_)
  · have b101 := zi_eq b101 (rfl : p1.toInt = p1.toInt) (zl_60 : (60 : Int32).toInt = 60)
    refine lv_iconst (v := 1) hx hb dX4_isComparison_32 (by decide +kernel) ?_
    refine lv_goto (tgt := 37) hx hb dX4_isComparison_33 (by decide) ?_
    subst hQ
    exact zq_zret E hr hZ hM hS (show 0 ≤ (1 : Int32).toInt ∧ (1 : Int32).toInt ≤ 1 by decide +kernel) ⟨rfl, (by have := zl_1; omega)⟩ hlocks dX4_isComparison_37
  · have b101 := zi_ne b101 (rfl : p1.toInt = p1.toInt) (zl_60 : (60 : Int32).toInt = 60)
    refine lv_iload_n hx hb dX4_isComparison_6 rfl (lv_at hl 0 rfl) ?_
    refine lv_sipush (v := 256) hx hb dX4_isComparison_7 (by decide +kernel) ?_
    refine lv_icmp_eq (tgt := 32) hx hb dX4_isComparison_10 (by decide) (fun b102 => ?_) (fun b102 => ?_)
    · have b102 := zi_eq b102 (rfl : p1.toInt = p1.toInt) (zl_256 : (256 : Int32).toInt = 256)
      refine lv_iconst (v := 1) hx hb dX4_isComparison_32 (by decide +kernel) ?_
      refine lv_goto (tgt := 37) hx hb dX4_isComparison_33 (by decide) ?_
      subst hQ
      exact zq_zret E hr hZ hM hS (show 0 ≤ (1 : Int32).toInt ∧ (1 : Int32).toInt ≤ 1 by decide +kernel) ⟨rfl, (by have := zl_1; omega)⟩ hlocks dX4_isComparison_37
    · have b102 := zi_ne b102 (rfl : p1.toInt = p1.toInt) (zl_256 : (256 : Int32).toInt = 256)
      refine lv_iload_n hx hb dX4_isComparison_13 rfl (lv_at hl 0 rfl) ?_
      refine lv_bipush (v := 61) hx hb dX4_isComparison_14 (by decide +kernel) ?_
      refine lv_icmp_eq (tgt := 32) hx hb dX4_isComparison_16 (by decide) (fun b103 => ?_) (fun b103 => ?_)
      · have b103 := zi_eq b103 (rfl : p1.toInt = p1.toInt) (zl_61 : (61 : Int32).toInt = 61)
        refine lv_iconst (v := 1) hx hb dX4_isComparison_32 (by decide +kernel) ?_
        refine lv_goto (tgt := 37) hx hb dX4_isComparison_33 (by decide) ?_
        subst hQ
        exact zq_zret E hr hZ hM hS (show 0 ≤ (1 : Int32).toInt ∧ (1 : Int32).toInt ≤ 1 by decide +kernel) ⟨rfl, (by have := zl_1; omega)⟩ hlocks dX4_isComparison_37
      · have b103 := zi_ne b103 (rfl : p1.toInt = p1.toInt) (zl_61 : (61 : Int32).toInt = 61)
        refine lv_iload_n hx hb dX4_isComparison_19 rfl (lv_at hl 0 rfl) ?_
        refine lv_sipush (v := 257) hx hb dX4_isComparison_20 (by decide +kernel) ?_
        refine lv_icmp_eq (tgt := 32) hx hb dX4_isComparison_23 (by decide) (fun b104 => ?_) (fun b104 => ?_)
        · have b104 := zi_eq b104 (rfl : p1.toInt = p1.toInt) (zl_257 : (257 : Int32).toInt = 257)
          refine lv_iconst (v := 1) hx hb dX4_isComparison_32 (by decide +kernel) ?_
          refine lv_goto (tgt := 37) hx hb dX4_isComparison_33 (by decide) ?_
          subst hQ
          exact zq_zret E hr hZ hM hS (show 0 ≤ (1 : Int32).toInt ∧ (1 : Int32).toInt ≤ 1 by decide +kernel) ⟨rfl, (by have := zl_1; omega)⟩ hlocks dX4_isComparison_37
        · have b104 := zi_ne b104 (rfl : p1.toInt = p1.toInt) (zl_257 : (257 : Int32).toInt = 257)
          refine lv_iload_n hx hb dX4_isComparison_26 rfl (lv_at hl 0 rfl) ?_
          refine lv_bipush (v := 62) hx hb dX4_isComparison_27 (by decide +kernel) ?_
          refine lv_icmp_ne (tgt := 36) hx hb dX4_isComparison_29 (by decide) (fun b105 => ?_) (fun b105 => ?_)
          · have b105 := zi_ne b105 (rfl : p1.toInt = p1.toInt) (zl_62 : (62 : Int32).toInt = 62)
            refine lv_iconst (v := 0) hx hb dX4_isComparison_36 (by decide +kernel) ?_
            subst hQ
            exact zq_zret E hr hZ hM hS (show 0 ≤ (0 : Int32).toInt ∧ (0 : Int32).toInt ≤ 1 by decide +kernel) ⟨rfl, (by have := zl_0; omega)⟩ hlocks dX4_isComparison_37
          · have b105 := zi_eq b105 (rfl : p1.toInt = p1.toInt) (zl_62 : (62 : Int32).toInt = 62)
            refine lv_iconst (v := 1) hx hb dX4_isComparison_32 (by decide +kernel) ?_
            refine lv_goto (tgt := 37) hx hb dX4_isComparison_33 (by decide) ?_
            subst hQ
            exact zq_zret E hr hZ hM hS (show 0 ≤ (1 : Int32).toInt ∧ (1 : Int32).toInt ≤ 1 by decide +kernel) ⟨rfl, (by have := zl_1; omega)⟩ hlocks dX4_isComparison_37
set_option maxHeartbeats 8000000 in
set_option maxRecDepth 100000 in
theorem c_X4_isJoin (l : Launch) (X : zq_X) (zk zn : Nat) (I : zq_M) (L : zq_L X)  (p1 : Int32)  : Met l yX4_isJoin (zt_w yX4_isJoin cX4_isJoin 1 (some .boolean)) (zq_rm (0)) (va_Pc [.int p1] (zq_W X (zk, zn) I)) (va_Qi (fun (r : Int32) I2 => I2 = I ∧ (0 ≤ r.toInt ∧ r.toInt ≤ 1)) (zq_E X (zk, zn)) (zq_A X)) 0 0 (zq_A X) := by
  refine Met.ofW (cc := cX4_isJoin) (maxL := 1) (ret := (some .boolean)) (by decide) rfl ?_
  intro p e s m args below meth c s₁ B hml hv
  obtain ⟨hargs, hM, hZ⟩ := hv
  have hown : s.vm.findClass RX4 = some m.cls := findClass_of_methodNamed B.named
  have hts := atoms_spec (ws := zt_w yX4_isJoin cX4_isJoin 1 (some .boolean)) B.pre
  have E : CallFix p m c cX4_isJoin 1 s args (Cond.code yX4_isJoin cX4_isJoin 1 (some .boolean) :: zt) RX4 := ⟨B.exec, B.bytes, hml, hown, hts⟩
  have hx := B.exec
  have hb := B.bytes
  have hr := B.returns
  have hlocks := B.notSynchronized
  clear B
  have hS : va_S (zq_A X) s.heap s.heap [] := va_S.rf
  have hl := lv_entry ([.int p1]) (n := 1) (by exact Nat.le_of_ble_eq_true rfl)
  have hg : entryFrame m args 1 = F0 m 0 ((lg_sl ([.int p1]) ++ List.replicate (1 - (lg_sl ([.int p1])).length) Slot.unset).toArray) [] := by rw [hargs]; exact lg_entry_eq m ([.int p1]) 1
  rw [hg]
  clear hg hargs
  generalize (lg_sl ([.int p1]) ++ List.replicate (1 - (lg_sl ([.int p1])).length) Slot.unset).toArray = ls at hl ⊢
  have hl : lv_has ls 1 [(0, .int p1)] := by exact hl
  obtain ⟨R, hRm⟩ : ∃ R : Room, R = (headSpec (zt_w yX4_isJoin cX4_isJoin 1 (some .boolean)) (zq_rm (0))).room := ⟨_, rfl⟩
  rw [← hRm]
  generalize hQ : MQ below _ args s 0 0 (zq_A X) = Q
  obtain ⟨H, hH⟩ : ∃ H, H = s.heap := ⟨_, rfl⟩
  obtain ⟨locs, hlo⟩ : ∃ x : List Loc, x = [] := ⟨_, rfl⟩
  rw [show W p l e R s m args below meth c s.heap [] 0 0 Q = W p l e R s m args below meth c H locs 0 0 Q by rw [hH, hlo]]
  have hM : zq_hm X (zk, zn) I H := by rw [hH]; exact hM
  have hS : va_S (zq_A X) s.heap H locs := by rw [hH, hlo]; exact hS
  clear hH hlo
  refine lv_iload_n hx hb dX4_isJoin_0 rfl (lv_at hl 0 rfl) ?_
  refine lv_bipush (v := 43) hx hb dX4_isJoin_1 (by decide +kernel) ?_
  refine lv_icmp_eq (tgt := 30) hx hb dX4_isJoin_3 (by decide) (fun b101 => ?_) (fun b101 => ?_)
  · have b101 := zi_eq b101 (rfl : p1.toInt = p1.toInt) (zl_43 : (43 : Int32).toInt = 43)
    refine lv_iconst (v := 1) hx hb dX4_isJoin_30 (by decide +kernel) ?_
    refine lv_goto (tgt := 35) hx hb dX4_isJoin_31 (by decide) ?_
    subst hQ
    exact zq_zret E hr hZ hM hS (show 0 ≤ (1 : Int32).toInt ∧ (1 : Int32).toInt ≤ 1 by decide +kernel) ⟨rfl, (by have := zl_1; omega)⟩ hlocks dX4_isJoin_35
  · have b101 := zi_ne b101 (rfl : p1.toInt = p1.toInt) (zl_43 : (43 : Int32).toInt = 43)
    refine lv_iload_n hx hb dX4_isJoin_6 rfl (lv_at hl 0 rfl) ?_
    refine lv_bipush (v := 45) hx hb dX4_isJoin_7 (by decide +kernel) ?_
    refine lv_icmp_eq (tgt := 30) hx hb dX4_isJoin_9 (by decide) (fun b102 => ?_) (fun b102 => ?_)
    · have b102 := zi_eq b102 (rfl : p1.toInt = p1.toInt) (zl_45 : (45 : Int32).toInt = 45)
      refine lv_iconst (v := 1) hx hb dX4_isJoin_30 (by decide +kernel) ?_
      refine lv_goto (tgt := 35) hx hb dX4_isJoin_31 (by decide) ?_
      subst hQ
      exact zq_zret E hr hZ hM hS (show 0 ≤ (1 : Int32).toInt ∧ (1 : Int32).toInt ≤ 1 by decide +kernel) ⟨rfl, (by have := zl_1; omega)⟩ hlocks dX4_isJoin_35
    · have b102 := zi_ne b102 (rfl : p1.toInt = p1.toInt) (zl_45 : (45 : Int32).toInt = 45)
      refine lv_iload_n hx hb dX4_isJoin_12 rfl (lv_at hl 0 rfl) ?_
      refine lv_bipush (v := 42) hx hb dX4_isJoin_13 (by decide +kernel) ?_
      refine lv_icmp_eq (tgt := 30) hx hb dX4_isJoin_15 (by decide) (fun b103 => ?_) (fun b103 => ?_)
      · have b103 := zi_eq b103 (rfl : p1.toInt = p1.toInt) (zl_42 : (42 : Int32).toInt = 42)
        refine lv_iconst (v := 1) hx hb dX4_isJoin_30 (by decide +kernel) ?_
        refine lv_goto (tgt := 35) hx hb dX4_isJoin_31 (by decide) ?_
        subst hQ
        exact zq_zret E hr hZ hM hS (show 0 ≤ (1 : Int32).toInt ∧ (1 : Int32).toInt ≤ 1 by decide +kernel) ⟨rfl, (by have := zl_1; omega)⟩ hlocks dX4_isJoin_35
      · have b103 := zi_ne b103 (rfl : p1.toInt = p1.toInt) (zl_42 : (42 : Int32).toInt = 42)
        refine lv_iload_n hx hb dX4_isJoin_18 rfl (lv_at hl 0 rfl) ?_
        refine lv_bipush (v := 47) hx hb dX4_isJoin_19 (by decide +kernel) ?_
        refine lv_icmp_eq (tgt := 30) hx hb dX4_isJoin_21 (by decide) (fun b104 => ?_) (fun b104 => ?_)
        · have b104 := zi_eq b104 (rfl : p1.toInt = p1.toInt) (zl_47 : (47 : Int32).toInt = 47)
          refine lv_iconst (v := 1) hx hb dX4_isJoin_30 (by decide +kernel) ?_
          refine lv_goto (tgt := 35) hx hb dX4_isJoin_31 (by decide) ?_
          subst hQ
          exact zq_zret E hr hZ hM hS (show 0 ≤ (1 : Int32).toInt ∧ (1 : Int32).toInt ≤ 1 by decide +kernel) ⟨rfl, (by have := zl_1; omega)⟩ hlocks dX4_isJoin_35
        · have b104 := zi_ne b104 (rfl : p1.toInt = p1.toInt) (zl_47 : (47 : Int32).toInt = 47)
          refine lv_iload_n hx hb dX4_isJoin_24 rfl (lv_at hl 0 rfl) ?_
          refine lv_bipush (v := 37) hx hb dX4_isJoin_25 (by decide +kernel) ?_
          refine lv_icmp_ne (tgt := 34) hx hb dX4_isJoin_27 (by decide) (fun b105 => ?_) (fun b105 => ?_)
          · have b105 := zi_ne b105 (rfl : p1.toInt = p1.toInt) (zl_37 : (37 : Int32).toInt = 37)
            refine lv_iconst (v := 0) hx hb dX4_isJoin_34 (by decide +kernel) ?_
            subst hQ
            exact zq_zret E hr hZ hM hS (show 0 ≤ (0 : Int32).toInt ∧ (0 : Int32).toInt ≤ 1 by decide +kernel) ⟨rfl, (by have := zl_0; omega)⟩ hlocks dX4_isJoin_35
          · have b105 := zi_eq b105 (rfl : p1.toInt = p1.toInt) (zl_37 : (37 : Int32).toInt = 37)
            refine lv_iconst (v := 1) hx hb dX4_isJoin_30 (by decide +kernel) ?_
            refine lv_goto (tgt := 35) hx hb dX4_isJoin_31 (by decide) ?_
            subst hQ
            exact zq_zret E hr hZ hM hS (show 0 ≤ (1 : Int32).toInt ∧ (1 : Int32).toInt ≤ 1 by decide +kernel) ⟨rfl, (by have := zl_1; omega)⟩ hlocks dX4_isJoin_35
def zw_X4_readSum : List (Nat × Nat) := [(4, 3), (6, 8), (6, 9), (25, 999)]
set_option maxHeartbeats 8000000 in
set_option maxRecDepth 100000 in
theorem c_X4_readSum (l : Launch) (X : zq_X) (zk zn : Nat) (I : zq_M) (L : zq_L X)  (p1 : Nat) (k_p1 : zq_k X p1 = 6) (p2 : Nat) (k_p2 : zq_k X p2 = 4)  : Met l yX4_readSum (zt_w yX4_readSum cX4_readSum 7 (some .boolean)) (zq_rm (1)) (va_Pc [.ref p1, .ref p2] (zq_W X (zk, zn) I)) (va_Qi (fun (r : Int32) I2 => zq_fr (zf X zw_X4_readSum (fun _ => False)) I I2 ∧ (0 ≤ r.toInt ∧ r.toInt ≤ 1)) (zq_E X (zk, zn)) (zq_A X)) 0 0 (zq_A X) := by
  refine Met.ofW (cc := cX4_readSum) (maxL := 7) (ret := (some .boolean)) (by decide) rfl ?_
  intro p e s m args below meth c s₁ B hml hv
  obtain ⟨hargs, hM, hZ⟩ := hv
  have hown : s.vm.findClass RX4 = some m.cls := findClass_of_methodNamed B.named
  have hts := atoms_spec (ws := zt_w yX4_readSum cX4_readSum 7 (some .boolean)) B.pre
  have E : CallFix p m c cX4_readSum 7 s args (Cond.code yX4_readSum cX4_readSum 7 (some .boolean) :: zt) RX4 := ⟨B.exec, B.bytes, hml, hown, hts⟩
  have hx := B.exec
  have hb := B.bytes
  have hr := B.returns
  have hlocks := B.notSynchronized
  clear B
  have hS : va_S (zq_A X) s.heap s.heap [] := va_S.rf
  have hR : zq_fr (zf X zw_X4_readSum (fun _ => False)) I I := zq_fr.rf
  have hl := lv_entry ([.ref p1, .ref p2]) (n := 7) (by exact Nat.le_of_ble_eq_true rfl)
  have hg : entryFrame m args 7 = F0 m 0 ((lg_sl ([.ref p1, .ref p2]) ++ List.replicate (7 - (lg_sl ([.ref p1, .ref p2])).length) Slot.unset).toArray) [] := by rw [hargs]; exact lg_entry_eq m ([.ref p1, .ref p2]) 7
  rw [hg]
  clear hg hargs
  generalize (lg_sl ([.ref p1, .ref p2]) ++ List.replicate (7 - (lg_sl ([.ref p1, .ref p2])).length) Slot.unset).toArray = ls at hl ⊢
  have hl : lv_has ls 7 [(0, .ref p1), (1, .ref p2)] := by exact hl
  obtain ⟨R, hRm⟩ : ∃ R : Room, R = (headSpec (zt_w yX4_readSum cX4_readSum 7 (some .boolean)) (zq_rm (1))).room := ⟨_, rfl⟩
  rw [← hRm]
  have hro : ∀ d q : Nat, d + 1 ≤ 1 → q ≤ 45 → zq_rok d q R := fun d q h1 h2 => by rw [hRm]; exact zq_rokI h1 h2
  generalize hQ : MQ below _ args s 0 0 (zq_A X) = Q
  obtain ⟨H, hH⟩ : ∃ H, H = s.heap := ⟨_, rfl⟩
  obtain ⟨locs, hlo⟩ : ∃ x : List Loc, x = [] := ⟨_, rfl⟩
  rw [show W p l e R s m args below meth c s.heap [] 0 0 Q = W p l e R s m args below meth c H locs 0 0 Q by rw [hH, hlo]]
  have hM : zq_hm X (zk, zn) I H := by rw [hH]; exact hM
  have hS : va_S (zq_A X) s.heap H locs := by rw [hH, hlo]; exact hS
  clear hH hlo
  refine lv_bipush (v := 43) hx hb dX4_readSum_0 (by decide +kernel) ?_
  refine lv_istore_n (lv' := [(2, .int (43 : Int32)), (0, .ref p1), (1, .ref p2)]) hx hb dX4_readSum_2 rfl hl (by decide) rfl (fun ls hl => ?_)
  refine lv_iconst (v := 0) hx hb dX4_readSum_3 (by decide +kernel) ?_
  refine lv_istore_n (lv' := [(3, .int (0 : Int32)), (2, .int (43 : Int32)), (0, .ref p1), (1, .ref p2)]) hx hb dX4_readSum_4 rfl hl (by decide) rfl (fun ls hl => ?_)
  have J5 : ∀ (n354 : Nat) (I353 : zq_M) (H : Heap) (locs : List Loc) (ls : Array Slot) (j351 : Int32) (j352 : Int32), 400 + 1 - j351.toInt ≤ ((n354 : Nat) : Int) → (zq_hm X (zk, zn) I353 H) → (va_S (zq_A X) s.heap H locs) → (zq_fr (zf X zw_X4_readSum (fun _ => False)) I I353) → (0 ≤ j351.toInt ∧ j351.toInt ≤ 400) → (lv_has ls 7 [(3, .int j351), (2, .int j352), (0, .ref p1), (1, .ref p2)]) → W p l e R s m args below meth c H locs 0 0 Q (F0 m 5 ls []) := by
    intro n354
    induction n354 with
    | zero => intro I353 H locs ls j351 j352 mu355 hM hS hR gj351 hl; exfalso; have := zi_rng j351; omega
    | succ n354 ih5 =>
      intro I353 H locs ls j351 j352 mu355 hM hS hR gj351 hl
      refine lv_iload_n hx hb dX4_readSum_5 rfl (lv_at hl 0 rfl) ?_
      refine lv_sipush (v := 400) hx hb dX4_readSum_6 (by decide +kernel) ?_
      refine lv_icmp_ge (tgt := 138) hx hb dX4_readSum_9 (by decide) (fun b356 => ?_) (fun b356 => ?_)
      · have b356 := zi_le b356 (zl_400 : (400 : Int32).toInt = 400) (rfl : j351.toInt = j351.toInt)
        refine lv_aload_n hx hb dX4_readSum_138 rfl (lv_at hl 2 rfl) ?_
        refine lv_iconst (v := 0) hx hb dX4_readSum_139 (by decide +kernel) ?_
        refine zq_calli (zq_rV (As := [.int (0 : Int32)]) (rest := []) E hZ hM k_p1 (c_X6_fail l X zk (zn) I353 L p1 k_p1 (0 : Int32) (by rw [zl_0]; decide)) zmX4_33 zM_X6_fail (hro (0) 2 (by first | decide | omega) (by decide)) ⟨by decide, by decide⟩ rfl hl.1 rfl rfl (Nat.le_of_ble_eq_true rfl) dX4_readSum_140) hS (fun x358 I359 H locs h357 hM hS => ?_)
        obtain ⟨fr360, p361, p362, p363⟩ := h357
        have := zl_0
        have hR := zq_fr.call hR fr360 (zf_sub (by decide +kernel) (fun _ _ q => q.elim))
        subst hQ
        exact zq_zret E hr hZ hM hS (show 0 ≤ x358.toInt ∧ x358.toInt ≤ 1 from ⟨by omega, by omega⟩) ⟨hR, (by omega)⟩ hlocks dX4_readSum_143
      · have b356 := zi_nle b356 (zl_400 : (400 : Int32).toInt = 400) (rfl : j351.toInt = j351.toInt)
        refine lv_aload_n hx hb dX4_readSum_12 rfl (lv_at hl 2 rfl) ?_
        refine zq_pcalli (zq_rV (As := []) (rest := []) E hZ hM k_p1 (c_X6_kind l X zk (zn) I353 L p1 k_p1) zmX4_25 zM_X6_kind (hro (0) 1 (by first | decide | omega) (by decide)) ⟨by decide, by decide⟩ rfl hl.1 rfl rfl (Nat.le_of_ble_eq_true rfl) dX4_readSum_13) hS (fun x365 H locs h364 hM hS => ?_)
        clear h364
        refine lv_bipush (v := (-2)) hx hb dX4_readSum_16 (by decide +kernel) ?_
        have J26 : ∀ (ls : Array Slot) (j366 : Int32), (0 ≤ j366.toInt ∧ j366.toInt ≤ 1) → (lv_has ls 7 [(3, .int j351), (2, .int j352), (0, .ref p1), (1, .ref p2)]) → W p l e R s m args below meth c H locs 0 0 Q (F0 m 26 ls [.int j366]) := by
          intro ls j366 gj366 hl
          refine lv_istore (lv' := [(4, .int j366), (3, .int j351), (2, .int j352), (0, .ref p1), (1, .ref p2)]) hx hb dX4_readSum_26 hl (by decide) rfl (fun ls hl => ?_)
          refine lv_aload_n hx hb dX4_readSum_28 rfl (lv_at hl 3 rfl) ?_
          refine zq_pcalli (zq_rV (As := []) (rest := []) E hZ hM k_p1 (c_X6_number l X zk (zn) I353 L p1 k_p1) zmX4_107 zM_X6_number (hro (0) 1 (by first | decide | omega) (by decide)) ⟨by decide, by decide⟩ rfl hl.1 rfl rfl (Nat.le_of_ble_eq_true rfl) dX4_readSum_29) hS (fun x421 H locs h420 hM hS => ?_)
          clear h420
          refine lv_istore (lv' := [(5, .int x421), (4, .int j366), (3, .int j351), (2, .int j352), (0, .ref p1), (1, .ref p2)]) hx hb dX4_readSum_32 hl (by decide) rfl (fun ls hl => ?_)
          refine lv_aload_n hx hb dX4_readSum_34 rfl (lv_at hl 4 rfl) ?_
          refine zq_callr (zq_rV (As := []) (rest := []) E hZ hM k_p1 (c_X6_word l X zk (zn) I353 L p1 k_p1) zmX4_36 zM_X6_word (hro (0) 1 (by first | decide | omega) (by decide)) ⟨by decide, by decide⟩ rfl hl.1 rfl rfl (Nat.le_of_ble_eq_true rfl) dX4_readSum_35) hS (fun y423 I424 H locs h422 ky423 hM hS => ?_)
          obtain ⟨fr425, p426⟩ := h422
          rw [fr425] at hM
          refine zq_wval E hZ hM ky423 (List.mem_cons_of_mem _ zLX4_110) dX4_readSum_38 (fun x427 => ?_)
          refine lv_istore (lv' := [(6, .int x427), (5, .int x421), (4, .int j366), (3, .int j351), (2, .int j352), (0, .ref p1), (1, .ref p2)]) hx hb dX4_readSum_41 hl (by decide) rfl (fun ls hl => ?_)
          refine lv_iload hx hb dX4_readSum_43 (lv_at hl 2 rfl) ?_
          refine W.eq (g2 := F0 m 45 ls [.int j366]) rfl ?_
          have J60 : ∀ (ls : Array Slot), (lv_has ls 7 [(6, .int x427), (5, .int x421), (4, .int j366), (3, .int j351), (2, .int j352), (0, .ref p1), (1, .ref p2)]) → W p l e R s m args below meth c H locs 0 0 Q (F0 m 60 ls []) := by
            intro ls hl
            refine lv_iload hx hb dX4_readSum_60 (lv_at hl 2 rfl) ?_
            have J77 : ∀ (ls : Array Slot), (lv_has ls 7 [(6, .int x427), (5, .int x421), (4, .int j366), (3, .int j351), (2, .int j352), (0, .ref p1), (1, .ref p2)]) → W p l e R s m args below meth c H locs 0 0 Q (F0 m 77 ls []) := by
              intro ls hl
              refine lv_aload_n hx hb dX4_readSum_77 rfl (lv_at hl 6 rfl) ?_
              refine zq_pcalli (zq_rV (As := []) (rest := []) E hZ hM k_p2 (c_X3_hasRoomForPart l X zk (zn) I353 L p2 k_p2) zmX4_97 zM_X3_hasRoomForPart (hro (0) 1 (by first | decide | omega) (by decide)) ⟨by decide, by decide⟩ rfl hl.1 rfl rfl (Nat.le_of_ble_eq_true rfl) dX4_readSum_78) hS (fun x512 H locs h511 hM hS => ?_)
              have p513 := h511
              refine lv_if_ne (tgt := 90) hx hb dX4_readSum_81 (by decide) (fun b514 => ?_) (fun b514 => ?_)
              · have b514 := zi_ne b514 (rfl : x512.toInt = x512.toInt) (zl_0 : (0 : Int32).toInt = 0)
                refine lv_aload_n hx hb dX4_readSum_90 rfl (lv_at hl 6 rfl) ?_
                refine lv_iload_n hx hb dX4_readSum_91 rfl (lv_at hl 4 rfl) ?_
                refine lv_iload hx hb dX4_readSum_92 (lv_at hl 2 rfl) ?_
                have J107 : ∀ (H : Heap) (locs : List Loc) (ls : Array Slot) (j517 : Int32), (zq_hm X (zk, zn) I353 H) → (va_S (zq_A X) s.heap H locs) → (lv_has ls 7 [(6, .int x427), (5, .int x421), (4, .int j366), (3, .int j351), (2, .int j352), (0, .ref p1), (1, .ref p2)]) → W p l e R s m args below meth c H locs 0 0 Q (F0 m 107 ls [.int j517, .int j352, .ref p2]) := by
                  intro H locs ls j517 hM hS hl
                  refine zq_callv (zq_rV (As := [.int j352, .int j517]) (rest := []) E hZ hM k_p2 (c_X3_addValue l X zk (zn) I353 L p2 k_p2 j352 j517) zmX4_117 zM_X3_addValue (hro (0) 3 (by first | decide | omega) (by decide)) ⟨by decide, by decide⟩ rfl hl.1 rfl rfl (Nat.le_of_ble_eq_true rfl) dX4_readSum_107) hS (fun I538 H locs h536 hM hS => ?_)
                  have fr539 := h536
                  have hR := zq_fr.call hR fr539 (zf_sub (by decide +kernel) (fun _ _ q => q.elim))
                  refine lv_aload_n hx hb dX4_readSum_110 rfl (lv_at hl 5 rfl) ?_
                  refine zq_callv (zq_rV (As := []) (rest := []) E hZ hM k_p1 (c_X6_advance l X zk (zn) I538 L p1 k_p1) zmX4_50 zM_X6_advance (hro (0) 1 (by first | decide | omega) (by decide)) ⟨by decide, by decide⟩ rfl hl.1 rfl rfl (Nat.le_of_ble_eq_true rfl) dX4_readSum_111) hS (fun I542 H locs h540 hM hS => ?_)
                  have fr543 := h540
                  have hR := zq_fr.call hR fr543 (zf_sub (by decide +kernel) (fun _ _ q => q.elim))
                  refine lv_aload_n hx hb dX4_readSum_114 rfl (lv_at hl 5 rfl) ?_
                  refine zq_pcalli (zq_rV (As := []) (rest := []) E hZ hM k_p1 (c_X6_kind l X zk (zn) I542 L p1 k_p1) zmX4_25 zM_X6_kind (hro (0) 1 (by first | decide | omega) (by decide)) ⟨by decide, by decide⟩ rfl hl.1 rfl rfl (Nat.le_of_ble_eq_true rfl) dX4_readSum_115) hS (fun x545 H locs h544 hM hS => ?_)
                  clear h544
                  refine lv_istore_n (lv' := [(2, .int x545), (6, .int x427), (5, .int x421), (4, .int j366), (3, .int j351), (0, .ref p1), (1, .ref p2)]) hx hb dX4_readSum_118 rfl hl (by decide) rfl (fun ls hl => ?_)
                  refine lv_iload_n hx hb dX4_readSum_119 rfl (lv_at hl 0 rfl) ?_
                  refine zq_pcalli (zq_rS (As := [.int x545]) (rest := []) E hZ hM (c_X4_isJoin l X zk (zn) I542 L x545) zmX4_121 zM_X4_isJoin (hro (0) 1 (by first | decide | omega) (by decide)) hl.1 rfl rfl (Nat.le_of_ble_eq_true rfl) dX4_readSum_120) hS (fun x547 H locs h546 hM hS => ?_)
                  have p548 := h546
                  refine lv_if_ne (tgt := 128) hx hb dX4_readSum_123 (by decide) (fun b549 => ?_) (fun b549 => ?_)
                  · have b549 := zi_ne b549 (rfl : x547.toInt = x547.toInt) (zl_0 : (0 : Int32).toInt = 0)
                    refine lv_aload_n hx hb dX4_readSum_128 rfl (lv_at hl 5 rfl) ?_
                    refine zq_callv (zq_rV (As := []) (rest := []) E hZ hM k_p1 (c_X6_advance l X zk (zn) I542 L p1 k_p1) zmX4_50 zM_X6_advance (hro (0) 1 (by first | decide | omega) (by decide)) ⟨by decide, by decide⟩ rfl hl.1 rfl rfl (Nat.le_of_ble_eq_true rfl) dX4_readSum_129) hS (fun I552 H locs h550 hM hS => ?_)
                    have fr553 := h550
                    have hR := zq_fr.call hR fr553 (zf_sub (by decide +kernel) (fun _ _ q => q.elim))
                    obtain ⟨x554, ex554⟩ : ∃ y : Int32, y = j351 + 1 := ⟨_, rfl⟩
                    have tx554 := zi_add ex554 (rfl : j351.toInt = j351.toInt) zl_1 ⟨by omega, by omega⟩
                    refine lv_iinc (v := x554) (lv' := [(3, .int x554), (2, .int x545), (6, .int x427), (5, .int x421), (4, .int j366), (0, .ref p1), (1, .ref p2)]) hx hb dX4_readSum_132 hl (k := 4) rfl (by rw [ex554]; rfl) (by decide) rfl (fun ls hl => ?_)
                    refine lv_goto (tgt := 5) hx hb dX4_readSum_135 (by decide) ?_
                    exact ih5 I552 H locs ls x554 x545 (by omega) hM hS hR (⟨by omega, by omega⟩) (lv_sub hl [0, 1, 5, 6] rfl)
                  · have b549 := zi_eq b549 (rfl : x547.toInt = x547.toInt) (zl_0 : (0 : Int32).toInt = 0)
                    refine lv_iconst (v := 1) hx hb dX4_readSum_126 (by decide +kernel) ?_
                    subst hQ
                    exact zq_zret E hr hZ hM hS (show 0 ≤ (1 : Int32).toInt ∧ (1 : Int32).toInt ≤ 1 by decide +kernel) ⟨hR, (by have := zl_1; omega)⟩ hlocks dX4_readSum_127
                refine lv_if_eq (tgt := 105) hx hb dX4_readSum_94 (by decide) (fun b555 => ?_) (fun b555 => ?_)
                · have b555 := zi_eq b555 (rfl : j366.toInt = j366.toInt) (zl_0 : (0 : Int32).toInt = 0)
                  refine lv_iload hx hb dX4_readSum_105 (lv_at hl 0 rfl) ?_
                  exact J107 H locs ls x427 hM hS (lv_sub hl [0, 1, 2, 3, 4, 5, 6] rfl)
                · have b555 := zi_ne b555 (rfl : j366.toInt = j366.toInt) (zl_0 : (0 : Int32).toInt = 0)
                  refine lv_iload hx hb dX4_readSum_97 (lv_at hl 1 rfl) ?_
                  refine zq_pcalli (zq_rS (As := [.int x421]) (rest := [.int j352, .ref p2]) E hZ hM (c_X3_asOperand l X zk (zn) I353 L x421) zmX4_113 zM_X3_asOperand (hro (0) 1 (by first | decide | omega) (by decide)) hl.1 rfl rfl (Nat.le_of_ble_eq_true rfl) dX4_readSum_99) hS (fun x557 H locs h556 hM hS => ?_)
                  clear h556
                  refine lv_goto (tgt := 107) hx hb dX4_readSum_102 (by decide) ?_
                  exact J107 H locs ls x557 hM hS (lv_sub hl [0, 1, 2, 3, 4, 5, 6] rfl)
              · have b514 := zi_eq b514 (rfl : x512.toInt = x512.toInt) (zl_0 : (0 : Int32).toInt = 0)
                refine lv_aload_n hx hb dX4_readSum_84 rfl (lv_at hl 5 rfl) ?_
                refine lv_iconst (v := 3) hx hb dX4_readSum_85 (by decide +kernel) ?_
                refine zq_calli (zq_rV (As := [.int (3 : Int32)]) (rest := []) E hZ hM k_p1 (c_X6_fail l X zk (zn) I353 L p1 k_p1 (3 : Int32) (by rw [zl_3]; decide)) zmX4_33 zM_X6_fail (hro (0) 2 (by first | decide | omega) (by decide)) ⟨by decide, by decide⟩ rfl hl.1 rfl rfl (Nat.le_of_ble_eq_true rfl) dX4_readSum_86) hS (fun x559 I560 H locs h558 hM hS => ?_)
                obtain ⟨fr561, p562, p563, p564⟩ := h558
                have := zl_3
                have hR := zq_fr.call hR fr561 (zf_sub (by decide +kernel) (fun _ _ q => q.elim))
                subst hQ
                exact zq_zret E hr hZ hM hS (show 0 ≤ x559.toInt ∧ x559.toInt ≤ 1 from ⟨by omega, by omega⟩) ⟨hR, (by omega)⟩ hlocks dX4_readSum_89
            refine lv_if_eq (tgt := 77) hx hb dX4_readSum_62 (by decide) (fun b565 => ?_) (fun b565 => ?_)
            · have b565 := zi_eq b565 (rfl : j366.toInt = j366.toInt) (zl_0 : (0 : Int32).toInt = 0)
              exact J77 ls (lv_sub hl [0, 1, 2, 3, 4, 5, 6] rfl)
            · have b565 := zi_ne b565 (rfl : j366.toInt = j366.toInt) (zl_0 : (0 : Int32).toInt = 0)
              refine lv_iload hx hb dX4_readSum_65 (lv_at hl 1 rfl) ?_
              refine lv_iconst (v := (-1)) hx hb dX4_readSum_67 (by decide +kernel) ?_
              refine lv_icmp_ne (tgt := 77) hx hb dX4_readSum_68 (by decide) (fun b566 => ?_) (fun b566 => ?_)
              · have b566 := zi_ne b566 (rfl : x421.toInt = x421.toInt) (zl_m1 : (-1 : Int32).toInt = (-1))
                exact J77 ls (lv_sub hl [0, 1, 2, 3, 4, 5, 6] rfl)
              · have b566 := zi_eq b566 (rfl : x421.toInt = x421.toInt) (zl_m1 : (-1 : Int32).toInt = (-1))
                refine lv_aload_n hx hb dX4_readSum_71 rfl (lv_at hl 5 rfl) ?_
                refine lv_iconst (v := 1) hx hb dX4_readSum_72 (by decide +kernel) ?_
                refine zq_calli (zq_rV (As := [.int (1 : Int32)]) (rest := []) E hZ hM k_p1 (c_X6_fail l X zk (zn) I353 L p1 k_p1 (1 : Int32) (by rw [zl_1]; decide)) zmX4_33 zM_X6_fail (hro (0) 2 (by first | decide | omega) (by decide)) ⟨by decide, by decide⟩ rfl hl.1 rfl rfl (Nat.le_of_ble_eq_true rfl) dX4_readSum_73) hS (fun x568 I569 H locs h567 hM hS => ?_)
                obtain ⟨fr570, p571, p572, p573⟩ := h567
                have := zl_1
                have hR := zq_fr.call hR fr570 (zf_sub (by decide +kernel) (fun _ _ q => q.elim))
                subst hQ
                exact zq_zret E hr hZ hM hS (show 0 ≤ x568.toInt ∧ x568.toInt ≤ 1 from ⟨by omega, by omega⟩) ⟨hR, (by omega)⟩ hlocks dX4_readSum_76
          refine lv_if_ne (tgt := 60) hx hb dX4_readSum_45 (by decide) (fun b574 => ?_) (fun b574 => ?_)
          · have b574 := zi_ne b574 (rfl : j366.toInt = j366.toInt) (zl_0 : (0 : Int32).toInt = 0)
            exact J60 ls (lv_sub hl [0, 1, 2, 3, 4, 5, 6] rfl)
          · have b574 := zi_eq b574 (rfl : j366.toInt = j366.toInt) (zl_0 : (0 : Int32).toInt = 0)
            refine lv_iload hx hb dX4_readSum_48 (lv_at hl 0 rfl) ?_
            refine lv_iconst (v := (-1)) hx hb dX4_readSum_50 (by decide +kernel) ?_
            refine lv_icmp_ne (tgt := 60) hx hb dX4_readSum_51 (by decide) (fun b575 => ?_) (fun b575 => ?_)
            · have b575 := zi_ne b575 (rfl : x427.toInt = x427.toInt) (zl_m1 : (-1 : Int32).toInt = (-1))
              exact J60 ls (lv_sub hl [0, 1, 2, 3, 4, 5, 6] rfl)
            · have b575 := zi_eq b575 (rfl : x427.toInt = x427.toInt) (zl_m1 : (-1 : Int32).toInt = (-1))
              refine lv_aload_n hx hb dX4_readSum_54 rfl (lv_at hl 5 rfl) ?_
              refine lv_iconst (v := 0) hx hb dX4_readSum_55 (by decide +kernel) ?_
              refine zq_calli (zq_rV (As := [.int (0 : Int32)]) (rest := []) E hZ hM k_p1 (c_X6_fail l X zk (zn) I353 L p1 k_p1 (0 : Int32) (by rw [zl_0]; decide)) zmX4_33 zM_X6_fail (hro (0) 2 (by first | decide | omega) (by decide)) ⟨by decide, by decide⟩ rfl hl.1 rfl rfl (Nat.le_of_ble_eq_true rfl) dX4_readSum_56) hS (fun x577 I578 H locs h576 hM hS => ?_)
              obtain ⟨fr579, p580, p581, p582⟩ := h576
              have := zl_0
              have hR := zq_fr.call hR fr579 (zf_sub (by decide +kernel) (fun _ _ q => q.elim))
              subst hQ
              exact zq_zret E hr hZ hM hS (show 0 ≤ x577.toInt ∧ x577.toInt ≤ 1 from ⟨by omega, by omega⟩) ⟨hR, (by omega)⟩ hlocks dX4_readSum_59
        refine lv_icmp_ne (tgt := 25) hx hb dX4_readSum_18 (by decide) (fun b583 => ?_) (fun b583 => ?_)
        · have b583 := zi_ne b583 (rfl : x365.toInt = x365.toInt) (zl_m2 : (-2 : Int32).toInt = (-2))
          refine lv_iconst (v := 0) hx hb dX4_readSum_25 (by decide +kernel) ?_
          exact J26 ls (0 : Int32) (by rw [zl_0]; decide) (lv_sub hl [0, 1, 2, 3] rfl)
        · have b583 := zi_eq b583 (rfl : x365.toInt = x365.toInt) (zl_m2 : (-2 : Int32).toInt = (-2))
          refine lv_iconst (v := 1) hx hb dX4_readSum_21 (by decide +kernel) ?_
          refine lv_goto (tgt := 26) hx hb dX4_readSum_22 (by decide) ?_
          exact J26 ls (1 : Int32) (by rw [zl_1]; decide) (lv_sub hl [0, 1, 2, 3] rfl)
  exact J5 (400 + 1 - (0 : Int32).toInt).toNat I H locs ls (0 : Int32) (43 : Int32) (by omega) hM hS hR (by rw [zl_0]; decide) (lv_sub hl [0, 1, 2, 3] rfl)
def zw_X4_readComparison : List (Nat × Nat) := [(4, 3), (4, 8), (4, 10), (6, 8), (6, 9), (25, 999), (26, 999), (27, 999)]
set_option maxHeartbeats 8000000 in
set_option maxRecDepth 100000 in
theorem c_X4_readComparison (l : Launch) (X : zq_X) (zk zn : Nat) (I : zq_M) (L : zq_L X)  (p1 : Nat) (k_p1 : zq_k X p1 = 6) (p2 : Nat) (k_p2 : zq_k X p2 = 4)  : Met l yX4_readComparison (zt_w yX4_readComparison cX4_readComparison 5 (some .boolean)) (zq_rm (2)) (va_Pc [.ref p1, .ref p2] (zq_W X (zk, zn) I)) (va_Qi (fun (r : Int32) I2 => zq_fr (zf X zw_X4_readComparison (fun _ => False)) I I2 ∧ (0 ≤ r.toInt ∧ r.toInt ≤ 1)) (zq_E X (zk, zn)) (zq_A X)) 0 0 (zq_A X) := by
  refine Met.ofW (cc := cX4_readComparison) (maxL := 5) (ret := (some .boolean)) (by decide) rfl ?_
  intro p e s m args below meth c s₁ B hml hv
  obtain ⟨hargs, hM, hZ⟩ := hv
  have hown : s.vm.findClass RX4 = some m.cls := findClass_of_methodNamed B.named
  have hts := atoms_spec (ws := zt_w yX4_readComparison cX4_readComparison 5 (some .boolean)) B.pre
  have E : CallFix p m c cX4_readComparison 5 s args (Cond.code yX4_readComparison cX4_readComparison 5 (some .boolean) :: zt) RX4 := ⟨B.exec, B.bytes, hml, hown, hts⟩
  have hx := B.exec
  have hb := B.bytes
  have hr := B.returns
  have hlocks := B.notSynchronized
  clear B
  have hS : va_S (zq_A X) s.heap s.heap [] := va_S.rf
  have hR : zq_fr (zf X zw_X4_readComparison (fun _ => False)) I I := zq_fr.rf
  have hl := lv_entry ([.ref p1, .ref p2]) (n := 5) (by exact Nat.le_of_ble_eq_true rfl)
  have hg : entryFrame m args 5 = F0 m 0 ((lg_sl ([.ref p1, .ref p2]) ++ List.replicate (5 - (lg_sl ([.ref p1, .ref p2])).length) Slot.unset).toArray) [] := by rw [hargs]; exact lg_entry_eq m ([.ref p1, .ref p2]) 5
  rw [hg]
  clear hg hargs
  generalize (lg_sl ([.ref p1, .ref p2]) ++ List.replicate (5 - (lg_sl ([.ref p1, .ref p2])).length) Slot.unset).toArray = ls at hl ⊢
  have hl : lv_has ls 5 [(0, .ref p1), (1, .ref p2)] := by exact hl
  obtain ⟨R, hRm⟩ : ∃ R : Room, R = (headSpec (zt_w yX4_readComparison cX4_readComparison 5 (some .boolean)) (zq_rm (2))).room := ⟨_, rfl⟩
  rw [← hRm]
  have hro : ∀ d q : Nat, d + 1 ≤ 2 → q ≤ 45 → zq_rok d q R := fun d q h1 h2 => by rw [hRm]; exact zq_rokI h1 h2
  generalize hQ : MQ below _ args s 0 0 (zq_A X) = Q
  obtain ⟨H, hH⟩ : ∃ H, H = s.heap := ⟨_, rfl⟩
  obtain ⟨locs, hlo⟩ : ∃ x : List Loc, x = [] := ⟨_, rfl⟩
  rw [show W p l e R s m args below meth c s.heap [] 0 0 Q = W p l e R s m args below meth c H locs 0 0 Q by rw [hH, hlo]]
  have hM : zq_hm X (zk, zn) I H := by rw [hH]; exact hM
  have hS : va_S (zq_A X) s.heap H locs := by rw [hH, hlo]; exact hS
  clear hH hlo
  refine lv_aload_n hx hb dX4_readComparison_0 rfl (lv_at hl 1 rfl) ?_
  refine zq_gn E hM k_p2 (zFX4_53 E hZ) (Or.inl ⟨by decide, by decide, by decide, rfl⟩) dX4_readComparison_1 (fun x101 ex101 gx101 => ?_)
  replace gx101 : 0 ≤ x101.toInt ∧ x101.toInt ≤ 60 := gx101
  refine lv_istore_n (lv' := [(2, .int x101), (0, .ref p1), (1, .ref p2)]) hx hb dX4_readComparison_4 rfl hl (by decide) rfl (fun ls hl => ?_)
  refine lv_aload_n hx hb dX4_readComparison_5 rfl (lv_at hl 1 rfl) ?_
  refine lv_aload_n hx hb dX4_readComparison_6 rfl (lv_at hl 2 rfl) ?_
  refine zq_calli (zq_rS (As := [.ref p1, .ref p2]) (rest := []) E hZ hM (c_X4_readSum l X zk (zn) I L p1 k_p1 p2 k_p2) zmX4_60 zM_X4_readSum (hro (1) 7 (by first | decide | omega) (by decide)) hl.1 rfl rfl (Nat.le_of_ble_eq_true rfl) dX4_readComparison_7) hS (fun x103 I104 H locs h102 hM hS => ?_)
  obtain ⟨fr105, p106⟩ := h102
  have hR := zq_fr.call hR fr105 (zf_sub (by decide +kernel) (fun _ _ q => q.elim))
  refine lv_if_ne (tgt := 15) hx hb dX4_readComparison_10 (by decide) (fun b107 => ?_) (fun b107 => ?_)
  · have b107 := zi_ne b107 (rfl : x103.toInt = x103.toInt) (zl_0 : (0 : Int32).toInt = 0)
    refine lv_aload_n hx hb dX4_readComparison_15 rfl (lv_at hl 1 rfl) ?_
    refine zq_pcalli (zq_rV (As := []) (rest := []) E hZ hM k_p1 (c_X6_kind l X zk (zn) I104 L p1 k_p1) zmX4_25 zM_X6_kind (hro (0) 1 (by first | decide | omega) (by decide)) ⟨by decide, by decide⟩ rfl hl.1 rfl rfl (Nat.le_of_ble_eq_true rfl) dX4_readComparison_16) hS (fun x109 H locs h108 hM hS => ?_)
    clear h108
    refine lv_istore_n (lv' := [(3, .int x109), (2, .int x101), (0, .ref p1), (1, .ref p2)]) hx hb dX4_readComparison_19 rfl hl (by decide) rfl (fun ls hl => ?_)
    refine lv_iload_n hx hb dX4_readComparison_20 rfl (lv_at hl 0 rfl) ?_
    refine zq_pcalli (zq_rS (As := [.int x109]) (rest := []) E hZ hM (c_X4_isComparison l X zk (zn) I104 L x109) zmX4_94 zM_X4_isComparison (hro (0) 1 (by first | decide | omega) (by decide)) hl.1 rfl rfl (Nat.le_of_ble_eq_true rfl) dX4_readComparison_21) hS (fun x111 H locs h110 hM hS => ?_)
    have p112 := h110
    refine lv_if_ne (tgt := 33) hx hb dX4_readComparison_24 (by decide) (fun b113 => ?_) (fun b113 => ?_)
    · have b113 := zi_ne b113 (rfl : x111.toInt = x111.toInt) (zl_0 : (0 : Int32).toInt = 0)
      refine lv_aload_n hx hb dX4_readComparison_33 rfl (lv_at hl 3 rfl) ?_
      refine zq_pcalli (zq_rV (As := []) (rest := []) E hZ hM k_p2 (c_X3_hasRoomForPart l X zk (zn) I104 L p2 k_p2) zmX4_97 zM_X3_hasRoomForPart (hro (0) 1 (by first | decide | omega) (by decide)) ⟨by decide, by decide⟩ rfl hl.1 rfl rfl (Nat.le_of_ble_eq_true rfl) dX4_readComparison_34) hS (fun x115 H locs h114 hM hS => ?_)
      have p116 := h114
      refine lv_if_ne (tgt := 46) hx hb dX4_readComparison_37 (by decide) (fun b117 => ?_) (fun b117 => ?_)
      · have b117 := zi_ne b117 (rfl : x115.toInt = x115.toInt) (zl_0 : (0 : Int32).toInt = 0)
        refine lv_aload_n hx hb dX4_readComparison_46 rfl (lv_at hl 3 rfl) ?_
        refine lv_iload_n hx hb dX4_readComparison_47 rfl (lv_at hl 1 rfl) ?_
        refine lv_iload_n hx hb dX4_readComparison_48 rfl (lv_at hl 0 rfl) ?_
        refine zq_calli (zq_rV (As := [.int x101, .int x109]) (rest := []) E hZ hM k_p2 (c_X3_addFact l X zk (zn) I104 L p2 k_p2 x101 x109 ⟨by omega, by omega⟩) zmX4_100 zM_X3_addFact (hro (0) 3 (by first | decide | omega) (by decide)) ⟨by decide, by decide⟩ rfl hl.1 rfl rfl (Nat.le_of_ble_eq_true rfl) dX4_readComparison_49) hS (fun x119 I120 H locs h118 hM hS => ?_)
        obtain ⟨fr121, p122⟩ := h118
        have hR := zq_fr.call hR fr121 (zf_sub (by decide +kernel) (fun _ _ q => q.elim))
        refine lv_istore (lv' := [(4, .int x119), (3, .int x109), (2, .int x101), (0, .ref p1), (1, .ref p2)]) hx hb dX4_readComparison_52 hl (by decide) rfl (fun ls hl => ?_)
        refine lv_aload_n hx hb dX4_readComparison_54 rfl (lv_at hl 3 rfl) ?_
        refine zq_callv (zq_rV (As := []) (rest := []) E hZ hM k_p1 (c_X6_advance l X zk (zn) I120 L p1 k_p1) zmX4_50 zM_X6_advance (hro (0) 1 (by first | decide | omega) (by decide)) ⟨by decide, by decide⟩ rfl hl.1 rfl rfl (Nat.le_of_ble_eq_true rfl) dX4_readComparison_55) hS (fun I125 H locs h123 hM hS => ?_)
        have fr126 := h123
        have hR := zq_fr.call hR fr126 (zf_sub (by decide +kernel) (fun _ _ q => q.elim))
        refine lv_aload_n hx hb dX4_readComparison_58 rfl (lv_at hl 3 rfl) ?_
        refine lv_aload_n hx hb dX4_readComparison_59 rfl (lv_at hl 4 rfl) ?_
        refine W.eq (g2 := F0 m 60 ls [.ref p2, .ref p1]) rfl ?_
        refine zq_calli (zq_rS (As := [.ref p1, .ref p2]) (rest := []) E hZ hM (c_X4_readSum l X zk (zn) I125 L p1 k_p1 p2 k_p2) zmX4_60 zM_X4_readSum (hro (1) 7 (by first | decide | omega) (by decide)) hl.1 rfl rfl (Nat.le_of_ble_eq_true rfl) dX4_readComparison_60) hS (fun x128 I129 H locs h127 hM hS => ?_)
        obtain ⟨fr130, p131⟩ := h127
        have hR := zq_fr.call hR fr130 (zf_sub (by decide +kernel) (fun _ _ q => q.elim))
        refine lv_if_ne (tgt := 68) hx hb dX4_readComparison_63 (by decide) (fun b132 => ?_) (fun b132 => ?_)
        · have b132 := zi_ne b132 (rfl : x128.toInt = x128.toInt) (zl_0 : (0 : Int32).toInt = 0)
          refine lv_aload_n hx hb dX4_readComparison_68 rfl (lv_at hl 4 rfl) ?_
          refine lv_iload hx hb dX4_readComparison_69 (lv_at hl 0 rfl) ?_
          refine zq_callv (zq_rV (As := [.int x119]) (rest := []) E hZ hM k_p2 (c_X3_closeFact l X zk (zn) I129 L p2 k_p2 x119) zmX4_104 zM_X3_closeFact (hro (0) 2 (by first | decide | omega) (by decide)) ⟨by decide, by decide⟩ rfl hl.1 rfl rfl (Nat.le_of_ble_eq_true rfl) dX4_readComparison_71) hS (fun I135 H locs h133 hM hS => ?_)
          have fr136 := h133
          have hR := zq_fr.call hR fr136 (zf_sub (by decide +kernel) (fun _ _ q => q.elim))
          refine lv_aload_n hx hb dX4_readComparison_74 rfl (lv_at hl 4 rfl) ?_
          refine lv_iload hx hb dX4_readComparison_75 (lv_at hl 0 rfl) ?_
          refine zq_callv (zq_rV (As := [.int x119]) (rest := []) E hZ hM k_p2 (c_X3_addStep l X zk (zn) I135 L p2 k_p2 x119) zmX4_84 zM_X3_addStep (hro (0) 2 (by first | decide | omega) (by decide)) ⟨by decide, by decide⟩ rfl hl.1 rfl rfl (Nat.le_of_ble_eq_true rfl) dX4_readComparison_77) hS (fun I139 H locs h137 hM hS => ?_)
          have fr140 := h137
          have hR := zq_fr.call hR fr140 (zf_sub (by decide +kernel) (fun _ _ q => q.elim))
          refine lv_iconst (v := 1) hx hb dX4_readComparison_80 (by decide +kernel) ?_
          subst hQ
          exact zq_zret E hr hZ hM hS (show 0 ≤ (1 : Int32).toInt ∧ (1 : Int32).toInt ≤ 1 by decide +kernel) ⟨hR, (by have := zl_1; omega)⟩ hlocks dX4_readComparison_81
        · have b132 := zi_eq b132 (rfl : x128.toInt = x128.toInt) (zl_0 : (0 : Int32).toInt = 0)
          refine lv_iconst (v := 0) hx hb dX4_readComparison_66 (by decide +kernel) ?_
          subst hQ
          exact zq_zret E hr hZ hM hS (show 0 ≤ (0 : Int32).toInt ∧ (0 : Int32).toInt ≤ 1 by decide +kernel) ⟨hR, (by have := zl_0; omega)⟩ hlocks dX4_readComparison_67
      · have b117 := zi_eq b117 (rfl : x115.toInt = x115.toInt) (zl_0 : (0 : Int32).toInt = 0)
        refine lv_aload_n hx hb dX4_readComparison_40 rfl (lv_at hl 2 rfl) ?_
        refine lv_iconst (v := 3) hx hb dX4_readComparison_41 (by decide +kernel) ?_
        refine zq_calli (zq_rV (As := [.int (3 : Int32)]) (rest := []) E hZ hM k_p1 (c_X6_fail l X zk (zn) I104 L p1 k_p1 (3 : Int32) (by rw [zl_3]; decide)) zmX4_33 zM_X6_fail (hro (0) 2 (by first | decide | omega) (by decide)) ⟨by decide, by decide⟩ rfl hl.1 rfl rfl (Nat.le_of_ble_eq_true rfl) dX4_readComparison_42) hS (fun x142 I143 H locs h141 hM hS => ?_)
        obtain ⟨fr144, p145, p146, p147⟩ := h141
        have := zl_3
        have hR := zq_fr.call hR fr144 (zf_sub (by decide +kernel) (fun _ _ q => q.elim))
        subst hQ
        exact zq_zret E hr hZ hM hS (show 0 ≤ x142.toInt ∧ x142.toInt ≤ 1 from ⟨by omega, by omega⟩) ⟨hR, (by omega)⟩ hlocks dX4_readComparison_45
    · have b113 := zi_eq b113 (rfl : x111.toInt = x111.toInt) (zl_0 : (0 : Int32).toInt = 0)
      refine lv_aload_n hx hb dX4_readComparison_27 rfl (lv_at hl 2 rfl) ?_
      refine lv_iconst (v := 0) hx hb dX4_readComparison_28 (by decide +kernel) ?_
      refine zq_calli (zq_rV (As := [.int (0 : Int32)]) (rest := []) E hZ hM k_p1 (c_X6_fail l X zk (zn) I104 L p1 k_p1 (0 : Int32) (by rw [zl_0]; decide)) zmX4_33 zM_X6_fail (hro (0) 2 (by first | decide | omega) (by decide)) ⟨by decide, by decide⟩ rfl hl.1 rfl rfl (Nat.le_of_ble_eq_true rfl) dX4_readComparison_29) hS (fun x149 I150 H locs h148 hM hS => ?_)
      obtain ⟨fr151, p152, p153, p154⟩ := h148
      have := zl_0
      have hR := zq_fr.call hR fr151 (zf_sub (by decide +kernel) (fun _ _ q => q.elim))
      subst hQ
      exact zq_zret E hr hZ hM hS (show 0 ≤ x149.toInt ∧ x149.toInt ≤ 1 from ⟨by omega, by omega⟩) ⟨hR, (by omega)⟩ hlocks dX4_readComparison_32
  · have b107 := zi_eq b107 (rfl : x103.toInt = x103.toInt) (zl_0 : (0 : Int32).toInt = 0)
    refine lv_iconst (v := 0) hx hb dX4_readComparison_13 (by decide +kernel) ?_
    subst hQ
    exact zq_zret E hr hZ hM hS (show 0 ≤ (0 : Int32).toInt ∧ (0 : Int32).toInt ≤ 1 by decide +kernel) ⟨hR, (by have := zl_0; omega)⟩ hlocks dX4_readComparison_14
def zw_X4_readFact : List (Nat × Nat) := [(4, 3), (4, 8), (4, 10), (6, 8), (6, 9), (25, 999), (26, 999), (27, 999)]
def zr_X4_readFact (l : Launch) (n : Nat) : Prop := ∀ (X : zq_X) (zk zn : Nat) (I : zq_M) (L : zq_L X)  (p1 : Nat) (k_p1 : zq_k X p1 = 6) (p2 : Nat) (k_p2 : zq_k X p2 = 4) (p3 : Int32) (g_p3 : 0 ≤ p3.toInt ∧ p3.toInt ≤ 10) (q_0 : p3.toInt + ((n : Nat) : Int) = 10), Met l yX4_readFact (zt_w yX4_readFact cX4_readFact 4 (some .boolean)) (zq_rm (3 + 2 * n)) (va_Pc [.ref p1, .ref p2, .int p3] (zq_W X (zk, zn) I)) (va_Qi (fun (r : Int32) I2 => zq_fr (zf X zw_X4_readFact (fun _ => False)) I I2 ∧ (0 ≤ r.toInt ∧ r.toInt ≤ 1)) (zq_E X (zk, zn)) (zq_A X)) 0 0 (zq_A X)
def zw_X4_readTest : List (Nat × Nat) := [(4, 3), (4, 8), (4, 10), (6, 8), (6, 9), (25, 999), (26, 999), (27, 999)]
def zr_X4_readTest (l : Launch) (n : Nat) : Prop := ∀ (X : zq_X) (zk zn : Nat) (I : zq_M) (L : zq_L X)  (p1 : Nat) (k_p1 : zq_k X p1 = 6) (p2 : Nat) (k_p2 : zq_k X p2 = 4) (p3 : Int32) (g_p3 : 0 ≤ p3.toInt ∧ p3.toInt ≤ 10) (q_0 : p3.toInt + ((n : Nat) : Int) = 10), Met l yX4_readTest (zt_w yX4_readTest cX4_readTest 6 (some .boolean)) (zq_rm (4 + 2 * n)) (va_Pc [.ref p1, .ref p2, .int p3] (zq_W X (zk, zn) I)) (va_Qi (fun (r : Int32) I2 => zq_fr (zf X zw_X4_readTest (fun _ => False)) I I2 ∧ (0 ≤ r.toInt ∧ r.toInt ≤ 1)) (zq_E X (zk, zn)) (zq_A X)) 0 0 (zq_A X)
set_option maxHeartbeats 8000000 in
set_option maxRecDepth 100000 in
theorem zs_X4_readFact (l : Launch) (n : Nat) (IHt : ∀ k, n = k + 1 → zr_X4_readTest l k) (IHf : ∀ k, n = k + 1 → zr_X4_readFact l k) : zr_X4_readFact l n := by
  unfold zr_X4_readFact
  intro X zk zn I L p1 k_p1 p2 k_p2 p3 g_p3 q_0
  refine Met.ofW (cc := cX4_readFact) (maxL := 4) (ret := (some .boolean)) (by decide) rfl ?_
  intro p e s m args below meth c s₁ B hml hv
  obtain ⟨hargs, hM, hZ⟩ := hv
  have hown : s.vm.findClass RX4 = some m.cls := findClass_of_methodNamed B.named
  have hts := atoms_spec (ws := zt_w yX4_readFact cX4_readFact 4 (some .boolean)) B.pre
  have E : CallFix p m c cX4_readFact 4 s args (Cond.code yX4_readFact cX4_readFact 4 (some .boolean) :: zt) RX4 := ⟨B.exec, B.bytes, hml, hown, hts⟩
  have hx := B.exec
  have hb := B.bytes
  have hr := B.returns
  have hlocks := B.notSynchronized
  clear B
  have hS : va_S (zq_A X) s.heap s.heap [] := va_S.rf
  have hR : zq_fr (zf X zw_X4_readFact (fun _ => False)) I I := zq_fr.rf
  have hl := lv_entry ([.ref p1, .ref p2, .int p3]) (n := 4) (by exact Nat.le_of_ble_eq_true rfl)
  have hg : entryFrame m args 4 = F0 m 0 ((lg_sl ([.ref p1, .ref p2, .int p3]) ++ List.replicate (4 - (lg_sl ([.ref p1, .ref p2, .int p3])).length) Slot.unset).toArray) [] := by rw [hargs]; exact lg_entry_eq m ([.ref p1, .ref p2, .int p3]) 4
  rw [hg]
  clear hg hargs
  generalize (lg_sl ([.ref p1, .ref p2, .int p3]) ++ List.replicate (4 - (lg_sl ([.ref p1, .ref p2, .int p3])).length) Slot.unset).toArray = ls at hl ⊢
  have hl : lv_has ls 4 [(0, .ref p1), (1, .ref p2), (2, .int p3)] := by exact hl
  obtain ⟨R, hRm⟩ : ∃ R : Room, R = (headSpec (zt_w yX4_readFact cX4_readFact 4 (some .boolean)) (zq_rm (3 + 2 * n))).room := ⟨_, rfl⟩
  rw [← hRm]
  have hro : ∀ d q : Nat, d + 1 ≤ 3 + 2 * n → q ≤ 45 → zq_rok d q R := fun d q h1 h2 => by rw [hRm]; exact zq_rokI h1 h2
  generalize hQ : MQ below _ args s 0 0 (zq_A X) = Q
  obtain ⟨H, hH⟩ : ∃ H, H = s.heap := ⟨_, rfl⟩
  obtain ⟨locs, hlo⟩ : ∃ x : List Loc, x = [] := ⟨_, rfl⟩
  rw [show W p l e R s m args below meth c s.heap [] 0 0 Q = W p l e R s m args below meth c H locs 0 0 Q by rw [hH, hlo]]
  have hM : zq_hm X (zk, zn) I H := by rw [hH]; exact hM
  have hS : va_S (zq_A X) s.heap H locs := by rw [hH, hlo]; exact hS
  clear hH hlo
  refine lv_aload_n hx hb dX4_readFact_0 rfl (lv_at hl 0 rfl) ?_
  refine zq_callr (zq_rV (As := []) (rest := []) E hZ hM k_p1 (c_X6_word l X zk (zn) I L p1 k_p1) zmX4_36 zM_X6_word (hro (0) 1 (by first | decide | omega) (by decide)) ⟨by decide, by decide⟩ rfl hl.1 rfl rfl (Nat.le_of_ble_eq_true rfl) dX4_readFact_1) hS (fun y102 I103 H locs h101 ky102 hM hS => ?_)
  obtain ⟨fr104, p105⟩ := h101
  rw [fr104] at hM
  refine zq_getw (nm := "NOT") E hZ hM (by decide) (List.mem_cons_of_mem _ zLX4_88) dX4_readFact_4 (fun w106 kw106 => ?_)
  have J15 : ∀ (ls : Array Slot) (j107 : Int32), (0 ≤ j107.toInt ∧ j107.toInt ≤ 1) → (lv_has ls 4 [(0, .ref p1), (1, .ref p2), (2, .int p3)]) → W p l e R s m args below meth c H locs 0 0 Q (F0 m 15 ls [.int j107]) := by
    intro ls j107 gj107 hl
    refine lv_istore_n (lv' := [(3, .int j107), (0, .ref p1), (1, .ref p2), (2, .int p3)]) hx hb dX4_readFact_15 rfl hl (by decide) rfl (fun ls hl => ?_)
    refine lv_iload_n hx hb dX4_readFact_16 rfl (lv_at hl 0 rfl) ?_
    have J35 : ∀ (H : Heap) (locs : List Loc) (ls : Array Slot), (zq_hm X (zk, zn) I H) → (va_S (zq_A X) s.heap H locs) → (lv_has ls 4 [(3, .int j107), (0, .ref p1), (1, .ref p2), (2, .int p3)]) → W p l e R s m args below meth c H locs 0 0 Q (F0 m 35 ls []) := by
      intro H locs ls hM hS hl
      refine lv_iload_n hx hb dX4_readFact_35 rfl (lv_at hl 3 rfl) ?_
      refine lv_bipush (v := 10) hx hb dX4_readFact_36 (by decide +kernel) ?_
      refine lv_icmp_lt (tgt := 47) hx hb dX4_readFact_38 (by decide) (fun b188 => ?_) (fun b188 => ?_)
      · have b188 := zi_lt b188 (rfl : p3.toInt = p3.toInt) (zl_10 : (10 : Int32).toInt = 10)
        obtain ⟨k, hk⟩ : ∃ k, n = k + 1 := ⟨n - 1, by omega⟩
        refine lv_aload_n hx hb dX4_readFact_47 rfl (lv_at hl 1 rfl) ?_
        refine zq_callv (zq_rV (As := []) (rest := []) E hZ hM k_p1 (c_X6_advance l X zk (zn) I L p1 k_p1) zmX4_50 zM_X6_advance (hro (0) 1 (by first | decide | omega) (by decide)) ⟨by decide, by decide⟩ rfl hl.1 rfl rfl (Nat.le_of_ble_eq_true rfl) dX4_readFact_48) hS (fun I191 H locs h189 hM hS => ?_)
        have fr192 := h189
        have hR := zq_fr.call hR fr192 (zf_sub (by decide +kernel) (fun _ _ q => q.elim))
        refine lv_iload_n hx hb dX4_readFact_51 rfl (lv_at hl 0 rfl) ?_
        refine lv_if_ne (tgt := 81) hx hb dX4_readFact_52 (by decide) (fun b193 => ?_) (fun b193 => ?_)
        · have b193 := zi_ne b193 (rfl : j107.toInt = j107.toInt) (zl_0 : (0 : Int32).toInt = 0)
          refine lv_aload_n hx hb dX4_readFact_81 rfl (lv_at hl 1 rfl) ?_
          refine lv_aload_n hx hb dX4_readFact_82 rfl (lv_at hl 2 rfl) ?_
          refine lv_iload_n hx hb dX4_readFact_83 rfl (lv_at hl 3 rfl) ?_
          refine lv_iconst (v := 1) hx hb dX4_readFact_84 (by decide +kernel) ?_
          refine lv_iadd hx hb dX4_readFact_85 ?_
          refine lv_topi (fun x194 ex194 => ?_)
          have tx194 := zi_add ex194 (rfl : p3.toInt = p3.toInt) (zl_1 : (1 : Int32).toInt = 1) ⟨by omega, by omega⟩
          refine zq_calli (zq_rS (As := [.ref p1, .ref p2, .int x194]) (rest := []) E hZ hM (IHf k hk X zk (zn) I191 L p1 k_p1 p2 k_p2 x194 ⟨by omega, by omega⟩ (by omega)) zmX4_74 zM_X4_readFact (hro (3 + 2 * k) 4 (by first | decide | omega) (by decide)) hl.1 rfl rfl (Nat.le_of_ble_eq_true rfl) dX4_readFact_86) hS (fun x196 I197 H locs h195 hM hS => ?_)
          obtain ⟨fr198, p199⟩ := h195
          have hR := zq_fr.call hR fr198 (zf_sub (by decide +kernel) (fun _ _ q => q.elim))
          refine lv_if_ne (tgt := 94) hx hb dX4_readFact_89 (by decide) (fun b200 => ?_) (fun b200 => ?_)
          · have b200 := zi_ne b200 (rfl : x196.toInt = x196.toInt) (zl_0 : (0 : Int32).toInt = 0)
            refine lv_aload_n hx hb dX4_readFact_94 rfl (lv_at hl 2 rfl) ?_
            refine lv_iconst (v := (-1)) hx hb dX4_readFact_95 (by decide +kernel) ?_
            refine zq_callv (zq_rV (As := [.int (-1 : Int32)]) (rest := []) E hZ hM k_p2 (c_X3_addStep l X zk (zn) I197 L p2 k_p2 (-1 : Int32)) zmX4_84 zM_X3_addStep (hro (0) 2 (by first | decide | omega) (by decide)) ⟨by decide, by decide⟩ rfl hl.1 rfl rfl (Nat.le_of_ble_eq_true rfl) dX4_readFact_96) hS (fun I203 H locs h201 hM hS => ?_)
            have fr204 := h201
            have := zl_m1
            have hR := zq_fr.call hR fr204 (zf_sub (by decide +kernel) (fun _ _ q => q.elim))
            refine lv_iconst (v := 1) hx hb dX4_readFact_99 (by decide +kernel) ?_
            subst hQ
            exact zq_zret E hr hZ hM hS (show 0 ≤ (1 : Int32).toInt ∧ (1 : Int32).toInt ≤ 1 by decide +kernel) ⟨hR, (by have := zl_1; omega)⟩ hlocks dX4_readFact_100
          · have b200 := zi_eq b200 (rfl : x196.toInt = x196.toInt) (zl_0 : (0 : Int32).toInt = 0)
            refine lv_iconst (v := 0) hx hb dX4_readFact_92 (by decide +kernel) ?_
            subst hQ
            exact zq_zret E hr hZ hM hS (show 0 ≤ (0 : Int32).toInt ∧ (0 : Int32).toInt ≤ 1 by decide +kernel) ⟨hR, (by have := zl_0; omega)⟩ hlocks dX4_readFact_93
        · have b193 := zi_eq b193 (rfl : j107.toInt = j107.toInt) (zl_0 : (0 : Int32).toInt = 0)
          refine lv_aload_n hx hb dX4_readFact_55 rfl (lv_at hl 1 rfl) ?_
          refine lv_aload_n hx hb dX4_readFact_56 rfl (lv_at hl 2 rfl) ?_
          refine lv_iload_n hx hb dX4_readFact_57 rfl (lv_at hl 3 rfl) ?_
          refine lv_iconst (v := 1) hx hb dX4_readFact_58 (by decide +kernel) ?_
          refine lv_iadd hx hb dX4_readFact_59 ?_
          refine lv_topi (fun x205 ex205 => ?_)
          have tx205 := zi_add ex205 (rfl : p3.toInt = p3.toInt) (zl_1 : (1 : Int32).toInt = 1) ⟨by omega, by omega⟩
          refine zq_calli (zq_rS (As := [.ref p1, .ref p2, .int x205]) (rest := []) E hZ hM (IHt k hk X zk (zn) I191 L p1 k_p1 p2 k_p2 x205 ⟨by omega, by omega⟩ (by omega)) zmX4_66 zM_X4_readTest (hro (4 + 2 * k) 6 (by first | decide | omega) (by decide)) hl.1 rfl rfl (Nat.le_of_ble_eq_true rfl) dX4_readFact_60) hS (fun x207 I208 H locs h206 hM hS => ?_)
          obtain ⟨fr209, p210⟩ := h206
          have hR := zq_fr.call hR fr209 (zf_sub (by decide +kernel) (fun _ _ q => q.elim))
          refine lv_if_eq (tgt := 79) hx hb dX4_readFact_63 (by decide) (fun b211 => ?_) (fun b211 => ?_)
          · have b211 := zi_eq b211 (rfl : x207.toInt = x207.toInt) (zl_0 : (0 : Int32).toInt = 0)
            refine lv_iconst (v := 0) hx hb dX4_readFact_79 (by decide +kernel) ?_
            subst hQ
            exact zq_zret E hr hZ hM hS (show 0 ≤ (0 : Int32).toInt ∧ (0 : Int32).toInt ≤ 1 by decide +kernel) ⟨hR, (by have := zl_0; omega)⟩ hlocks dX4_readFact_80
          · have b211 := zi_ne b211 (rfl : x207.toInt = x207.toInt) (zl_0 : (0 : Int32).toInt = 0)
            refine lv_aload_n hx hb dX4_readFact_66 rfl (lv_at hl 1 rfl) ?_
            refine lv_bipush (v := 93) hx hb dX4_readFact_67 (by decide +kernel) ?_
            refine zq_calli (zq_rV (As := [.int (93 : Int32)]) (rest := []) E hZ hM k_p1 (c_X6_passes l X zk (zn) I208 L p1 k_p1 (93 : Int32)) zmX4_29 zM_X6_passes (hro (1) 2 (by first | decide | omega) (by decide)) ⟨by decide, by decide⟩ rfl hl.1 rfl rfl (Nat.le_of_ble_eq_true rfl) dX4_readFact_69) hS (fun x213 I214 H locs h212 hM hS => ?_)
            obtain ⟨fr215, p216, p217⟩ := h212
            have := zl_93
            have hR := zq_fr.call hR fr215 (zf_sub (by decide +kernel) (fun _ _ q => q.elim))
            refine lv_if_eq (tgt := 79) hx hb dX4_readFact_72 (by decide) (fun b218 => ?_) (fun b218 => ?_)
            · have b218 := zi_eq b218 (rfl : x213.toInt = x213.toInt) (zl_0 : (0 : Int32).toInt = 0)
              refine lv_iconst (v := 0) hx hb dX4_readFact_79 (by decide +kernel) ?_
              subst hQ
              exact zq_zret E hr hZ hM hS (show 0 ≤ (0 : Int32).toInt ∧ (0 : Int32).toInt ≤ 1 by decide +kernel) ⟨hR, (by have := zl_0; omega)⟩ hlocks dX4_readFact_80
            · have b218 := zi_ne b218 (rfl : x213.toInt = x213.toInt) (zl_0 : (0 : Int32).toInt = 0)
              refine lv_iconst (v := 1) hx hb dX4_readFact_75 (by decide +kernel) ?_
              refine lv_goto (tgt := 80) hx hb dX4_readFact_76 (by decide) ?_
              subst hQ
              exact zq_zret E hr hZ hM hS (show 0 ≤ (1 : Int32).toInt ∧ (1 : Int32).toInt ≤ 1 by decide +kernel) ⟨hR, (by have := zl_1; omega)⟩ hlocks dX4_readFact_80
      · have b188 := zi_nlt b188 (rfl : p3.toInt = p3.toInt) (zl_10 : (10 : Int32).toInt = 10)
        refine lv_aload_n hx hb dX4_readFact_41 rfl (lv_at hl 1 rfl) ?_
        refine lv_iconst (v := 2) hx hb dX4_readFact_42 (by decide +kernel) ?_
        refine zq_calli (zq_rV (As := [.int (2 : Int32)]) (rest := []) E hZ hM k_p1 (c_X6_fail l X zk (zn) I L p1 k_p1 (2 : Int32) (by rw [zl_2]; decide)) zmX4_33 zM_X6_fail (hro (0) 2 (by first | decide | omega) (by decide)) ⟨by decide, by decide⟩ rfl hl.1 rfl rfl (Nat.le_of_ble_eq_true rfl) dX4_readFact_43) hS (fun x220 I221 H locs h219 hM hS => ?_)
        obtain ⟨fr222, p223, p224, p225⟩ := h219
        have := zl_2
        have hR := zq_fr.call hR fr222 (zf_sub (by decide +kernel) (fun _ _ q => q.elim))
        subst hQ
        exact zq_zret E hr hZ hM hS (show 0 ≤ x220.toInt ∧ x220.toInt ≤ 1 from ⟨by omega, by omega⟩) ⟨hR, (by omega)⟩ hlocks dX4_readFact_46
    refine lv_if_ne (tgt := 35) hx hb dX4_readFact_17 (by decide) (fun b226 => ?_) (fun b226 => ?_)
    · have b226 := zi_ne b226 (rfl : j107.toInt = j107.toInt) (zl_0 : (0 : Int32).toInt = 0)
      exact J35 H locs ls hM hS (lv_sub hl [0, 1, 2, 3] rfl)
    · have b226 := zi_eq b226 (rfl : j107.toInt = j107.toInt) (zl_0 : (0 : Int32).toInt = 0)
      refine lv_aload_n hx hb dX4_readFact_20 rfl (lv_at hl 1 rfl) ?_
      refine zq_pcalli (zq_rV (As := []) (rest := []) E hZ hM k_p1 (c_X6_kind l X zk (zn) I L p1 k_p1) zmX4_25 zM_X6_kind (hro (0) 1 (by first | decide | omega) (by decide)) ⟨by decide, by decide⟩ rfl hl.1 rfl rfl (Nat.le_of_ble_eq_true rfl) dX4_readFact_21) hS (fun x228 H locs h227 hM hS => ?_)
      clear h227
      refine lv_bipush (v := 91) hx hb dX4_readFact_24 (by decide +kernel) ?_
      refine lv_icmp_eq (tgt := 35) hx hb dX4_readFact_26 (by decide) (fun b229 => ?_) (fun b229 => ?_)
      · have b229 := zi_eq b229 (rfl : x228.toInt = x228.toInt) (zl_91 : (91 : Int32).toInt = 91)
        exact J35 H locs ls hM hS (lv_sub hl [0, 1, 2, 3] rfl)
      · have b229 := zi_ne b229 (rfl : x228.toInt = x228.toInt) (zl_91 : (91 : Int32).toInt = 91)
        refine lv_aload_n hx hb dX4_readFact_29 rfl (lv_at hl 1 rfl) ?_
        refine lv_aload_n hx hb dX4_readFact_30 rfl (lv_at hl 2 rfl) ?_
        refine zq_calli (zq_rS (As := [.ref p1, .ref p2]) (rest := []) E hZ hM (c_X4_readComparison l X zk (zn) I L p1 k_p1 p2 k_p2) zmX4_91 zM_X4_readComparison (hro (2) 5 (by first | decide | omega) (by decide)) hl.1 rfl rfl (Nat.le_of_ble_eq_true rfl) dX4_readFact_31) hS (fun x231 I232 H locs h230 hM hS => ?_)
        obtain ⟨fr233, p234⟩ := h230
        have hR := zq_fr.call hR fr233 (zf_sub (by decide +kernel) (fun _ _ q => q.elim))
        subst hQ
        exact zq_zret E hr hZ hM hS (show 0 ≤ x231.toInt ∧ x231.toInt ≤ 1 from ⟨by omega, by omega⟩) ⟨hR, (by omega)⟩ hlocks dX4_readFact_34
  refine lv_acmp_ne (rx := some y102) (ry := some w106) (tgt := 14) hx hb dX4_readFact_7 (by decide) (fun b235 => ?_) (fun b235 => ?_)
  · clear b235
    refine lv_iconst (v := 0) hx hb dX4_readFact_14 (by decide +kernel) ?_
    exact J15 ls (0 : Int32) (by rw [zl_0]; decide) (lv_sub hl [0, 1, 2] rfl)
  · clear b235
    refine lv_iconst (v := 1) hx hb dX4_readFact_10 (by decide +kernel) ?_
    refine lv_goto (tgt := 15) hx hb dX4_readFact_11 (by decide) ?_
    exact J15 ls (1 : Int32) (by rw [zl_1]; decide) (lv_sub hl [0, 1, 2] rfl)
set_option maxHeartbeats 8000000 in
set_option maxRecDepth 100000 in
theorem zs_X4_readTest (l : Launch) (n : Nat) (IHf : zr_X4_readFact l n) : zr_X4_readTest l n := by
  unfold zr_X4_readTest
  intro X zk zn I L p1 k_p1 p2 k_p2 p3 g_p3 q_0
  refine Met.ofW (cc := cX4_readTest) (maxL := 6) (ret := (some .boolean)) (by decide) rfl ?_
  intro p e s m args below meth c s₁ B hml hv
  obtain ⟨hargs, hM, hZ⟩ := hv
  have hown : s.vm.findClass RX4 = some m.cls := findClass_of_methodNamed B.named
  have hts := atoms_spec (ws := zt_w yX4_readTest cX4_readTest 6 (some .boolean)) B.pre
  have E : CallFix p m c cX4_readTest 6 s args (Cond.code yX4_readTest cX4_readTest 6 (some .boolean) :: zt) RX4 := ⟨B.exec, B.bytes, hml, hown, hts⟩
  have hx := B.exec
  have hb := B.bytes
  have hr := B.returns
  have hlocks := B.notSynchronized
  clear B
  have hS : va_S (zq_A X) s.heap s.heap [] := va_S.rf
  have hR : zq_fr (zf X zw_X4_readTest (fun _ => False)) I I := zq_fr.rf
  have hl := lv_entry ([.ref p1, .ref p2, .int p3]) (n := 6) (by exact Nat.le_of_ble_eq_true rfl)
  have hg : entryFrame m args 6 = F0 m 0 ((lg_sl ([.ref p1, .ref p2, .int p3]) ++ List.replicate (6 - (lg_sl ([.ref p1, .ref p2, .int p3])).length) Slot.unset).toArray) [] := by rw [hargs]; exact lg_entry_eq m ([.ref p1, .ref p2, .int p3]) 6
  rw [hg]
  clear hg hargs
  generalize (lg_sl ([.ref p1, .ref p2, .int p3]) ++ List.replicate (6 - (lg_sl ([.ref p1, .ref p2, .int p3])).length) Slot.unset).toArray = ls at hl ⊢
  have hl : lv_has ls 6 [(0, .ref p1), (1, .ref p2), (2, .int p3)] := by exact hl
  obtain ⟨R, hRm⟩ : ∃ R : Room, R = (headSpec (zt_w yX4_readTest cX4_readTest 6 (some .boolean)) (zq_rm (4 + 2 * n))).room := ⟨_, rfl⟩
  rw [← hRm]
  have hro : ∀ d q : Nat, d + 1 ≤ 4 + 2 * n → q ≤ 45 → zq_rok d q R := fun d q h1 h2 => by rw [hRm]; exact zq_rokI h1 h2
  generalize hQ : MQ below _ args s 0 0 (zq_A X) = Q
  obtain ⟨H, hH⟩ : ∃ H, H = s.heap := ⟨_, rfl⟩
  obtain ⟨locs, hlo⟩ : ∃ x : List Loc, x = [] := ⟨_, rfl⟩
  rw [show W p l e R s m args below meth c s.heap [] 0 0 Q = W p l e R s m args below meth c H locs 0 0 Q by rw [hH, hlo]]
  have hM : zq_hm X (zk, zn) I H := by rw [hH]; exact hM
  have hS : va_S (zq_A X) s.heap H locs := by rw [hH, hlo]; exact hS
  clear hH hlo
  refine lv_aload_n hx hb dX4_readTest_0 rfl (lv_at hl 0 rfl) ?_
  refine lv_aload_n hx hb dX4_readTest_1 rfl (lv_at hl 1 rfl) ?_
  refine lv_iload_n hx hb dX4_readTest_2 rfl (lv_at hl 2 rfl) ?_
  refine zq_calli (zq_rS (As := [.ref p1, .ref p2, .int p3]) (rest := []) E hZ hM (IHf X zk (zn) I L p1 k_p1 p2 k_p2 p3 ⟨by omega, by omega⟩ (by omega)) zmX4_74 zM_X4_readFact (hro (3 + 2 * n) 4 (by first | decide | omega) (by decide)) hl.1 rfl rfl (Nat.le_of_ble_eq_true rfl) dX4_readTest_3) hS (fun x102 I103 H locs h101 hM hS => ?_)
  obtain ⟨fr104, p105⟩ := h101
  have hR := zq_fr.call hR fr104 (zf_sub (by decide +kernel) (fun _ _ q => q.elim))
  refine lv_if_ne (tgt := 11) hx hb dX4_readTest_6 (by decide) (fun b106 => ?_) (fun b106 => ?_)
  · have b106 := zi_ne b106 (rfl : x102.toInt = x102.toInt) (zl_0 : (0 : Int32).toInt = 0)
    refine lv_iconst (v := 0) hx hb dX4_readTest_11 (by decide +kernel) ?_
    refine lv_istore_n (lv' := [(3, .int (0 : Int32)), (0, .ref p1), (1, .ref p2), (2, .int p3)]) hx hb dX4_readTest_12 rfl hl (by decide) rfl (fun ls hl => ?_)
    refine lv_iconst (v := 0) hx hb dX4_readTest_13 (by decide +kernel) ?_
    refine lv_istore (lv' := [(4, .int (0 : Int32)), (3, .int (0 : Int32)), (0, .ref p1), (1, .ref p2), (2, .int p3)]) hx hb dX4_readTest_14 hl (by decide) rfl (fun ls hl => ?_)
    have J16 : ∀ (n273 : Nat) (I272 : zq_M) (H : Heap) (locs : List Loc) (ls : Array Slot) (j270 : Int32) (j271 : Int32), 400 + 1 - j270.toInt ≤ ((n273 : Nat) : Int) → (zq_hm X (zk, zn) I272 H) → (va_S (zq_A X) s.heap H locs) → (zq_fr (zf X zw_X4_readTest (fun _ => False)) I I272) → (0 ≤ j270.toInt ∧ j270.toInt ≤ 400) → (0 ≤ j271.toInt ∧ j271.toInt ≤ 1) → (lv_has ls 6 [(4, .int j270), (3, .int j271), (0, .ref p1), (1, .ref p2), (2, .int p3)]) → W p l e R s m args below meth c H locs 0 0 Q (F0 m 16 ls []) := by
      intro n273
      induction n273 with
      | zero => intro I272 H locs ls j270 j271 mu274 hM hS hR gj270 gj271 hl; exfalso; have := zi_rng j270; omega
      | succ n273 ih16 =>
        intro I272 H locs ls j270 j271 mu274 hM hS hR gj270 gj271 hl
        refine lv_iload hx hb dX4_readTest_16 (lv_at hl 0 rfl) ?_
        refine lv_sipush (v := 400) hx hb dX4_readTest_18 (by decide +kernel) ?_
        have J113 : ∀ (H : Heap) (locs : List Loc) (ls : Array Slot), (zq_hm X (zk, zn) I272 H) → (va_S (zq_A X) s.heap H locs) → (lv_has ls 6 [(4, .int j270), (3, .int j271), (0, .ref p1), (1, .ref p2), (2, .int p3)]) → W p l e R s m args below meth c H locs 0 0 Q (F0 m 113 ls []) := by
          intro H locs ls hM hS hl
          refine lv_iload_n hx hb dX4_readTest_113 rfl (lv_at hl 1 rfl) ?_
          refine lv_if_eq (tgt := 123) hx hb dX4_readTest_114 (by decide) (fun b315 => ?_) (fun b315 => ?_)
          · have b315 := zi_eq b315 (rfl : j271.toInt = j271.toInt) (zl_0 : (0 : Int32).toInt = 0)
            refine lv_iconst (v := 1) hx hb dX4_readTest_123 (by decide +kernel) ?_
            subst hQ
            exact zq_zret E hr hZ hM hS (show 0 ≤ (1 : Int32).toInt ∧ (1 : Int32).toInt ≤ 1 by decide +kernel) ⟨hR, (by have := zl_1; omega)⟩ hlocks dX4_readTest_124
          · have b315 := zi_ne b315 (rfl : j271.toInt = j271.toInt) (zl_0 : (0 : Int32).toInt = 0)
            refine lv_aload_n hx hb dX4_readTest_117 rfl (lv_at hl 3 rfl) ?_
            refine lv_bipush (v := (-3)) hx hb dX4_readTest_118 (by decide +kernel) ?_
            refine zq_callv (zq_rV (As := [.int (-3 : Int32)]) (rest := []) E hZ hM k_p2 (c_X3_addStep l X zk (zn) I272 L p2 k_p2 (-3 : Int32)) zmX4_84 zM_X3_addStep (hro (0) 2 (by first | decide | omega) (by decide)) ⟨by decide, by decide⟩ rfl hl.1 rfl rfl (Nat.le_of_ble_eq_true rfl) dX4_readTest_120) hS (fun I318 H locs h316 hM hS => ?_)
            have fr319 := h316
            have := zl_m3
            have hR := zq_fr.call hR fr319 (zf_sub (by decide +kernel) (fun _ _ q => q.elim))
            refine lv_iconst (v := 1) hx hb dX4_readTest_123 (by decide +kernel) ?_
            subst hQ
            exact zq_zret E hr hZ hM hS (show 0 ≤ (1 : Int32).toInt ∧ (1 : Int32).toInt ≤ 1 by decide +kernel) ⟨hR, (by have := zl_1; omega)⟩ hlocks dX4_readTest_124
        refine lv_icmp_ge (tgt := 113) hx hb dX4_readTest_21 (by decide) (fun b320 => ?_) (fun b320 => ?_)
        · have b320 := zi_le b320 (zl_400 : (400 : Int32).toInt = 400) (rfl : j270.toInt = j270.toInt)
          exact J113 H locs ls hM hS (lv_sub hl [0, 1, 2, 3, 4] rfl)
        · have b320 := zi_nle b320 (zl_400 : (400 : Int32).toInt = 400) (rfl : j270.toInt = j270.toInt)
          refine lv_aload_n hx hb dX4_readTest_24 rfl (lv_at hl 2 rfl) ?_
          refine zq_callr (zq_rV (As := []) (rest := []) E hZ hM k_p1 (c_X6_word l X zk (zn) I272 L p1 k_p1) zmX4_36 zM_X6_word (hro (0) 1 (by first | decide | omega) (by decide)) ⟨by decide, by decide⟩ rfl hl.1 rfl rfl (Nat.le_of_ble_eq_true rfl) dX4_readTest_25) hS (fun y322 I323 H locs h321 ky322 hM hS => ?_)
          obtain ⟨fr324, p325⟩ := h321
          rw [fr324] at hM
          refine zq_pcalli (zq_rS (As := [.ref y322]) (rest := []) E hZ hM (c_X4_isAndOr l X zk (zn) I272 L y322 ky322) zmX4_77 zM_X4_isAndOr (hro (0) 1 (by first | decide | omega) (by decide)) hl.1 rfl rfl (Nat.le_of_ble_eq_true rfl) dX4_readTest_28) hS (fun x327 H locs h326 hM hS => ?_)
          have p328 := h326
          refine lv_if_eq (tgt := 113) hx hb dX4_readTest_31 (by decide) (fun b329 => ?_) (fun b329 => ?_)
          · have b329 := zi_eq b329 (rfl : x327.toInt = x327.toInt) (zl_0 : (0 : Int32).toInt = 0)
            exact J113 H locs ls hM hS (lv_sub hl [0, 1, 2, 3, 4] rfl)
          · have b329 := zi_ne b329 (rfl : x327.toInt = x327.toInt) (zl_0 : (0 : Int32).toInt = 0)
            refine lv_aload_n hx hb dX4_readTest_34 rfl (lv_at hl 2 rfl) ?_
            refine zq_callr (zq_rV (As := []) (rest := []) E hZ hM k_p1 (c_X6_word l X zk (zn) I272 L p1 k_p1) zmX4_36 zM_X6_word (hro (0) 1 (by first | decide | omega) (by decide)) ⟨by decide, by decide⟩ rfl hl.1 rfl rfl (Nat.le_of_ble_eq_true rfl) dX4_readTest_35) hS (fun y331 I332 H locs h330 ky331 hM hS => ?_)
            obtain ⟨fr333, p334⟩ := h330
            rw [fr333] at hM
            refine zq_getw (nm := "OR") E hZ hM (by decide) (List.mem_cons_of_mem _ zLX4_81) dX4_readTest_38 (fun w335 kw335 => ?_)
            have J49 : ∀ (ls : Array Slot) (j336 : Int32), (0 ≤ j336.toInt ∧ j336.toInt ≤ 1) → (lv_has ls 6 [(4, .int j270), (3, .int j271), (0, .ref p1), (1, .ref p2), (2, .int p3)]) → W p l e R s m args below meth c H locs 0 0 Q (F0 m 49 ls [.int j336]) := by
              intro ls j336 gj336 hl
              refine lv_istore (lv' := [(5, .int j336), (4, .int j270), (3, .int j271), (0, .ref p1), (1, .ref p2), (2, .int p3)]) hx hb dX4_readTest_49 hl (by decide) rfl (fun ls hl => ?_)
              refine lv_iload hx hb dX4_readTest_51 (lv_at hl 0 rfl) ?_
              have J66 : ∀ (I362 : zq_M) (H : Heap) (locs : List Loc) (ls : Array Slot), (zq_hm X (zk, zn) I362 H) → (va_S (zq_A X) s.heap H locs) → (zq_fr (zf X zw_X4_readTest (fun _ => False)) I I362) → (lv_has ls 6 [(5, .int j336), (4, .int j270), (3, .int j271), (0, .ref p1), (1, .ref p2), (2, .int p3)]) → W p l e R s m args below meth c H locs 0 0 Q (F0 m 66 ls []) := by
                intro I362 H locs ls hM hS hR hl
                refine lv_iload_n hx hb dX4_readTest_66 rfl (lv_at hl 2 rfl) ?_
                have J80 : ∀ (ls : Array Slot) (j379 : Int32), (0 ≤ j379.toInt ∧ j379.toInt ≤ 1) → (lv_has ls 6 [(5, .int j336), (4, .int j270), (3, .int j271), (0, .ref p1), (1, .ref p2), (2, .int p3)]) → W p l e R s m args below meth c H locs 0 0 Q (F0 m 80 ls [.int j379]) := by
                  intro ls j379 gj379 hl
                  refine lv_istore_n (lv' := [(3, .int j379), (5, .int j336), (4, .int j270), (0, .ref p1), (1, .ref p2), (2, .int p3)]) hx hb dX4_readTest_80 rfl hl (by decide) rfl (fun ls hl => ?_)
                  refine lv_aload_n hx hb dX4_readTest_81 rfl (lv_at hl 3 rfl) ?_
                  refine zq_callv (zq_rV (As := []) (rest := []) E hZ hM k_p1 (c_X6_advance l X zk (zn) I362 L p1 k_p1) zmX4_50 zM_X6_advance (hro (0) 1 (by first | decide | omega) (by decide)) ⟨by decide, by decide⟩ rfl hl.1 rfl rfl (Nat.le_of_ble_eq_true rfl) dX4_readTest_82) hS (fun I397 H locs h395 hM hS => ?_)
                  have fr398 := h395
                  have hR := zq_fr.call hR fr398 (zf_sub (by decide +kernel) (fun _ _ q => q.elim))
                  refine lv_aload_n hx hb dX4_readTest_85 rfl (lv_at hl 3 rfl) ?_
                  refine lv_aload_n hx hb dX4_readTest_86 rfl (lv_at hl 4 rfl) ?_
                  refine lv_iload_n hx hb dX4_readTest_87 rfl (lv_at hl 5 rfl) ?_
                  refine zq_calli (zq_rS (As := [.ref p1, .ref p2, .int p3]) (rest := []) E hZ hM (IHf X zk (zn) I397 L p1 k_p1 p2 k_p2 p3 ⟨by omega, by omega⟩ (by omega)) zmX4_74 zM_X4_readFact (hro (3 + 2 * n) 4 (by first | decide | omega) (by decide)) hl.1 rfl rfl (Nat.le_of_ble_eq_true rfl) dX4_readTest_88) hS (fun x400 I401 H locs h399 hM hS => ?_)
                  obtain ⟨fr402, p403⟩ := h399
                  have hR := zq_fr.call hR fr402 (zf_sub (by decide +kernel) (fun _ _ q => q.elim))
                  refine lv_if_ne (tgt := 96) hx hb dX4_readTest_91 (by decide) (fun b404 => ?_) (fun b404 => ?_)
                  · have b404 := zi_ne b404 (rfl : x400.toInt = x400.toInt) (zl_0 : (0 : Int32).toInt = 0)
                    refine lv_iload hx hb dX4_readTest_96 (lv_at hl 1 rfl) ?_
                    have J107 : ∀ (I409 : zq_M) (H : Heap) (locs : List Loc) (ls : Array Slot), (zq_hm X (zk, zn) I409 H) → (va_S (zq_A X) s.heap H locs) → (zq_fr (zf X zw_X4_readTest (fun _ => False)) I I409) → (lv_has ls 6 [(3, .int j379), (5, .int j336), (4, .int j270), (0, .ref p1), (1, .ref p2), (2, .int p3)]) → W p l e R s m args below meth c H locs 0 0 Q (F0 m 107 ls []) := by
                      intro I409 H locs ls hM hS hR hl
                      obtain ⟨x411, ex411⟩ : ∃ y : Int32, y = j270 + 1 := ⟨_, rfl⟩
                      have tx411 := zi_add ex411 (rfl : j270.toInt = j270.toInt) zl_1 ⟨by omega, by omega⟩
                      refine lv_iinc (v := x411) (lv' := [(4, .int x411), (3, .int j379), (5, .int j336), (0, .ref p1), (1, .ref p2), (2, .int p3)]) hx hb dX4_readTest_107 hl (k := 2) rfl (by rw [ex411]; rfl) (by decide) rfl (fun ls hl => ?_)
                      refine lv_goto (tgt := 16) hx hb dX4_readTest_110 (by decide) ?_
                      exact ih16 I409 H locs ls x411 j379 (by omega) hM hS hR (⟨by omega, by omega⟩) (⟨by omega, by omega⟩) (lv_sub hl [0, 1, 3, 4, 5] rfl)
                    refine lv_if_ne (tgt := 107) hx hb dX4_readTest_98 (by decide) (fun b412 => ?_) (fun b412 => ?_)
                    · have b412 := zi_ne b412 (rfl : j336.toInt = j336.toInt) (zl_0 : (0 : Int32).toInt = 0)
                      exact J107 I401 H locs ls hM hS hR (lv_sub hl [0, 1, 2, 3, 4, 5] rfl)
                    · have b412 := zi_eq b412 (rfl : j336.toInt = j336.toInt) (zl_0 : (0 : Int32).toInt = 0)
                      refine lv_aload_n hx hb dX4_readTest_101 rfl (lv_at hl 4 rfl) ?_
                      refine lv_bipush (v := (-2)) hx hb dX4_readTest_102 (by decide +kernel) ?_
                      refine zq_callv (zq_rV (As := [.int (-2 : Int32)]) (rest := []) E hZ hM k_p2 (c_X3_addStep l X zk (zn) I401 L p2 k_p2 (-2 : Int32)) zmX4_84 zM_X3_addStep (hro (0) 2 (by first | decide | omega) (by decide)) ⟨by decide, by decide⟩ rfl hl.1 rfl rfl (Nat.le_of_ble_eq_true rfl) dX4_readTest_104) hS (fun I415 H locs h413 hM hS => ?_)
                      have fr416 := h413
                      have := zl_m2
                      have hR := zq_fr.call hR fr416 (zf_sub (by decide +kernel) (fun _ _ q => q.elim))
                      exact J107 I415 H locs ls hM hS hR (lv_sub hl [0, 1, 2, 3, 4, 5] rfl)
                  · have b404 := zi_eq b404 (rfl : x400.toInt = x400.toInt) (zl_0 : (0 : Int32).toInt = 0)
                    refine lv_iconst (v := 0) hx hb dX4_readTest_94 (by decide +kernel) ?_
                    subst hQ
                    exact zq_zret E hr hZ hM hS (show 0 ≤ (0 : Int32).toInt ∧ (0 : Int32).toInt ≤ 1 by decide +kernel) ⟨hR, (by have := zl_0; omega)⟩ hlocks dX4_readTest_95
                have J75 : ∀ (ls : Array Slot), (lv_has ls 6 [(5, .int j336), (4, .int j270), (3, .int j271), (0, .ref p1), (1, .ref p2), (2, .int p3)]) → W p l e R s m args below meth c H locs 0 0 Q (F0 m 75 ls []) := by
                  intro ls hl
                  refine lv_iconst (v := 1) hx hb dX4_readTest_75 (by decide +kernel) ?_
                  refine lv_goto (tgt := 80) hx hb dX4_readTest_76 (by decide) ?_
                  exact J80 ls (1 : Int32) (by rw [zl_1]; decide) (lv_sub hl [0, 1, 2, 3, 4, 5] rfl)
                refine lv_if_ne (tgt := 75) hx hb dX4_readTest_67 (by decide) (fun b417 => ?_) (fun b417 => ?_)
                · have b417 := zi_ne b417 (rfl : j271.toInt = j271.toInt) (zl_0 : (0 : Int32).toInt = 0)
                  exact J75 ls (lv_sub hl [0, 1, 2, 3, 4, 5] rfl)
                · have b417 := zi_eq b417 (rfl : j271.toInt = j271.toInt) (zl_0 : (0 : Int32).toInt = 0)
                  refine lv_iload hx hb dX4_readTest_70 (lv_at hl 0 rfl) ?_
                  refine lv_if_eq (tgt := 79) hx hb dX4_readTest_72 (by decide) (fun b418 => ?_) (fun b418 => ?_)
                  · have b418 := zi_eq b418 (rfl : j336.toInt = j336.toInt) (zl_0 : (0 : Int32).toInt = 0)
                    refine lv_iconst (v := 0) hx hb dX4_readTest_79 (by decide +kernel) ?_
                    exact J80 ls (0 : Int32) (by rw [zl_0]; decide) (lv_sub hl [0, 1, 2, 3, 4, 5] rfl)
                  · have b418 := zi_ne b418 (rfl : j336.toInt = j336.toInt) (zl_0 : (0 : Int32).toInt = 0)
                    exact J75 ls (lv_sub hl [0, 1, 2, 3, 4, 5] rfl)
              refine lv_if_eq (tgt := 66) hx hb dX4_readTest_53 (by decide) (fun b419 => ?_) (fun b419 => ?_)
              · have b419 := zi_eq b419 (rfl : j336.toInt = j336.toInt) (zl_0 : (0 : Int32).toInt = 0)
                exact J66 I272 H locs ls hM hS hR (lv_sub hl [0, 1, 2, 3, 4, 5] rfl)
              · have b419 := zi_ne b419 (rfl : j336.toInt = j336.toInt) (zl_0 : (0 : Int32).toInt = 0)
                refine lv_iload_n hx hb dX4_readTest_56 rfl (lv_at hl 2 rfl) ?_
                refine lv_if_eq (tgt := 66) hx hb dX4_readTest_57 (by decide) (fun b420 => ?_) (fun b420 => ?_)
                · have b420 := zi_eq b420 (rfl : j271.toInt = j271.toInt) (zl_0 : (0 : Int32).toInt = 0)
                  exact J66 I272 H locs ls hM hS hR (lv_sub hl [0, 1, 2, 3, 4, 5] rfl)
                · have b420 := zi_ne b420 (rfl : j271.toInt = j271.toInt) (zl_0 : (0 : Int32).toInt = 0)
                  refine lv_aload_n hx hb dX4_readTest_60 rfl (lv_at hl 4 rfl) ?_
                  refine lv_bipush (v := (-3)) hx hb dX4_readTest_61 (by decide +kernel) ?_
                  refine zq_callv (zq_rV (As := [.int (-3 : Int32)]) (rest := []) E hZ hM k_p2 (c_X3_addStep l X zk (zn) I272 L p2 k_p2 (-3 : Int32)) zmX4_84 zM_X3_addStep (hro (0) 2 (by first | decide | omega) (by decide)) ⟨by decide, by decide⟩ rfl hl.1 rfl rfl (Nat.le_of_ble_eq_true rfl) dX4_readTest_63) hS (fun I423 H locs h421 hM hS => ?_)
                  have fr424 := h421
                  have := zl_m3
                  have hR := zq_fr.call hR fr424 (zf_sub (by decide +kernel) (fun _ _ q => q.elim))
                  exact J66 I423 H locs ls hM hS hR (lv_sub hl [0, 1, 2, 3, 4, 5] rfl)
            refine lv_acmp_ne (rx := some y331) (ry := some w335) (tgt := 48) hx hb dX4_readTest_41 (by decide) (fun b425 => ?_) (fun b425 => ?_)
            · clear b425
              refine lv_iconst (v := 0) hx hb dX4_readTest_48 (by decide +kernel) ?_
              exact J49 ls (0 : Int32) (by rw [zl_0]; decide) (lv_sub hl [0, 1, 2, 3, 4] rfl)
            · clear b425
              refine lv_iconst (v := 1) hx hb dX4_readTest_44 (by decide +kernel) ?_
              refine lv_goto (tgt := 49) hx hb dX4_readTest_45 (by decide) ?_
              exact J49 ls (1 : Int32) (by rw [zl_1]; decide) (lv_sub hl [0, 1, 2, 3, 4] rfl)
    exact J16 (400 + 1 - (0 : Int32).toInt).toNat I103 H locs ls (0 : Int32) (0 : Int32) (by omega) hM hS hR (by rw [zl_0]; decide) (by rw [zl_0]; decide) (lv_sub hl [0, 1, 2, 3, 4] rfl)
  · have b106 := zi_eq b106 (rfl : x102.toInt = x102.toInt) (zl_0 : (0 : Int32).toInt = 0)
    refine lv_iconst (v := 0) hx hb dX4_readTest_9 (by decide +kernel) ?_
    subst hQ
    exact zq_zret E hr hZ hM hS (show 0 ≤ (0 : Int32).toInt ∧ (0 : Int32).toInt ≤ 1 by decide +kernel) ⟨hR, (by have := zl_0; omega)⟩ hlocks dX4_readTest_10
theorem zr_X4 (l : Launch) : ∀ n, zr_X4_readFact l n ∧ zr_X4_readTest l n
  | 0 => have h := zs_X4_readFact l 0 (fun k h => absurd h (by omega)) (fun k h => absurd h (by omega)); ⟨h, zs_X4_readTest l 0 h⟩
  | n + 1 => have q := zr_X4 l n; have h := zs_X4_readFact l (n + 1) (fun k h => by have : k = n := by omega
                                                                                    rw [this]; exact q.2) (fun k h => by have : k = n := by omega
                                                                                                                         rw [this]; exact q.1); ⟨h, zs_X4_readTest l (n + 1) h⟩
theorem c_X4_readTest (l : Launch) (X : zq_X) (zk zn : Nat) (I : zq_M) (L : zq_L X) (p1 : Nat) (k_p1 : zq_k X p1 = 6) (p2 : Nat) (k_p2 : zq_k X p2 = 4) (p3 : Int32) (g_p3 : 0 ≤ p3.toInt ∧ p3.toInt ≤ 10) (q_0 : p3.toInt = 0) : Met l yX4_readTest (zt_w yX4_readTest cX4_readTest 6 (some .boolean)) (zq_rm 24) (va_Pc [.ref p1, .ref p2, .int p3] (zq_W X (zk, zn) I)) (va_Qi (fun (r : Int32) I2 => zq_fr (zf X zw_X4_readTest (fun _ => False)) I I2 ∧ (0 ≤ r.toInt ∧ r.toInt ≤ 1)) (zq_E X (zk, zn)) (zq_A X)) 0 0 (zq_A X) := (zr_X4 l 10).2 X zk zn I L p1 k_p1 p2 k_p2 p3 g_p3 (by omega)
def zw_X4_readClause : List (Nat × Nat) := [(4, 3), (4, 8), (4, 10), (4, 15), (6, 8), (6, 9), (25, 999), (26, 999), (27, 999), (28, 999), (29, 999)]
set_option maxHeartbeats 8000000 in
set_option maxRecDepth 100000 in
theorem c_X4_readClause (l : Launch) (X : zq_X) (zk zn : Nat) (I : zq_M) (L : zq_L X)  (p1 : Nat) (k_p1 : zq_k X p1 = 6) (p2 : Nat) (k_p2 : zq_k X p2 = 4)  : Met l yX4_readClause (zt_w yX4_readClause cX4_readClause 5 (some .boolean)) (zq_rm (25)) (va_Pc [.ref p1, .ref p2] (zq_W X (zk, zn) I)) (va_Qi (fun (r : Int32) I2 => zq_fr (zf X zw_X4_readClause (fun _ => False)) I I2 ∧ (0 ≤ r.toInt ∧ r.toInt ≤ 1)) (zq_E X (zk, zn)) (zq_A X)) 0 0 (zq_A X) := by
  refine Met.ofW (cc := cX4_readClause) (maxL := 5) (ret := (some .boolean)) (by decide) rfl ?_
  intro p e s m args below meth c s₁ B hml hv
  obtain ⟨hargs, hM, hZ⟩ := hv
  have hown : s.vm.findClass RX4 = some m.cls := findClass_of_methodNamed B.named
  have hts := atoms_spec (ws := zt_w yX4_readClause cX4_readClause 5 (some .boolean)) B.pre
  have E : CallFix p m c cX4_readClause 5 s args (Cond.code yX4_readClause cX4_readClause 5 (some .boolean) :: zt) RX4 := ⟨B.exec, B.bytes, hml, hown, hts⟩
  have hx := B.exec
  have hb := B.bytes
  have hr := B.returns
  have hlocks := B.notSynchronized
  clear B
  have hS : va_S (zq_A X) s.heap s.heap [] := va_S.rf
  have hR : zq_fr (zf X zw_X4_readClause (fun _ => False)) I I := zq_fr.rf
  have hl := lv_entry ([.ref p1, .ref p2]) (n := 5) (by exact Nat.le_of_ble_eq_true rfl)
  have hg : entryFrame m args 5 = F0 m 0 ((lg_sl ([.ref p1, .ref p2]) ++ List.replicate (5 - (lg_sl ([.ref p1, .ref p2])).length) Slot.unset).toArray) [] := by rw [hargs]; exact lg_entry_eq m ([.ref p1, .ref p2]) 5
  rw [hg]
  clear hg hargs
  generalize (lg_sl ([.ref p1, .ref p2]) ++ List.replicate (5 - (lg_sl ([.ref p1, .ref p2])).length) Slot.unset).toArray = ls at hl ⊢
  have hl : lv_has ls 5 [(0, .ref p1), (1, .ref p2)] := by exact hl
  obtain ⟨R, hRm⟩ : ∃ R : Room, R = (headSpec (zt_w yX4_readClause cX4_readClause 5 (some .boolean)) (zq_rm (25))).room := ⟨_, rfl⟩
  rw [← hRm]
  have hro : ∀ d q : Nat, d + 1 ≤ 25 → q ≤ 45 → zq_rok d q R := fun d q h1 h2 => by rw [hRm]; exact zq_rokI h1 h2
  generalize hQ : MQ below _ args s 0 0 (zq_A X) = Q
  obtain ⟨H, hH⟩ : ∃ H, H = s.heap := ⟨_, rfl⟩
  obtain ⟨locs, hlo⟩ : ∃ x : List Loc, x = [] := ⟨_, rfl⟩
  rw [show W p l e R s m args below meth c s.heap [] 0 0 Q = W p l e R s m args below meth c H locs 0 0 Q by rw [hH, hlo]]
  have hM : zq_hm X (zk, zn) I H := by rw [hH]; exact hM
  have hS : va_S (zq_A X) s.heap H locs := by rw [hH, hlo]; exact hS
  clear hH hlo
  refine lv_aload_n hx hb dX4_readClause_0 rfl (lv_at hl 0 rfl) ?_
  refine zq_callr (zq_rV (As := []) (rest := []) E hZ hM k_p1 (c_X6_word l X zk (zn) I L p1 k_p1) zmX4_36 zM_X6_word (hro (0) 1 (by first | decide | omega) (by decide)) ⟨by decide, by decide⟩ rfl hl.1 rfl rfl (Nat.le_of_ble_eq_true rfl) dX4_readClause_1) hS (fun y102 I103 H locs h101 ky102 hM hS => ?_)
  obtain ⟨fr104, p105⟩ := h101
  rw [fr104] at hM
  refine zq_getw (nm := "SAIL") E hZ hM (by decide) (List.mem_cons_of_mem _ zLX4_40) dX4_readClause_4 (fun w106 kw106 => ?_)
  refine lv_acmp_eq (rx := some y102) (ry := some w106) (tgt := 16) hx hb dX4_readClause_7 (by decide) (fun b107 => ?_) (fun b107 => ?_)
  · clear b107
    refine lv_aload_n hx hb dX4_readClause_16 rfl (lv_at hl 1 rfl) ?_
    refine zq_pcalli (zq_rV (As := []) (rest := []) E hZ hM k_p2 (c_X3_hasRoomForClause l X zk (zn) I L p2 k_p2) zmX4_46 zM_X3_hasRoomForClause (hro (0) 1 (by first | decide | omega) (by decide)) ⟨by decide, by decide⟩ rfl hl.1 rfl rfl (Nat.le_of_ble_eq_true rfl) dX4_readClause_17) hS (fun x109 H locs h108 hM hS => ?_)
    have p110 := h108
    refine lv_if_ne (tgt := 29) hx hb dX4_readClause_20 (by decide) (fun b111 => ?_) (fun b111 => ?_)
    · have b111 := zi_ne b111 (rfl : x109.toInt = x109.toInt) (zl_0 : (0 : Int32).toInt = 0)
      refine lv_aload_n hx hb dX4_readClause_29 rfl (lv_at hl 0 rfl) ?_
      refine zq_callv (zq_rV (As := []) (rest := []) E hZ hM k_p1 (c_X6_advance l X zk (zn) I L p1 k_p1) zmX4_50 zM_X6_advance (hro (0) 1 (by first | decide | omega) (by decide)) ⟨by decide, by decide⟩ rfl hl.1 rfl rfl (Nat.le_of_ble_eq_true rfl) dX4_readClause_30) hS (fun I114 H locs h112 hM hS => ?_)
      have fr115 := h112
      have hR := zq_fr.call hR fr115 (zf_sub (by decide +kernel) (fun _ _ q => q.elim))
      refine lv_aload_n hx hb dX4_readClause_33 rfl (lv_at hl 1 rfl) ?_
      refine zq_gn E hM k_p2 (zFX4_53 E hZ) (Or.inl ⟨by decide, by decide, by decide, rfl⟩) dX4_readClause_34 (fun x116 ex116 gx116 => ?_)
      replace gx116 : 0 ≤ x116.toInt ∧ x116.toInt ≤ 60 := gx116
      refine lv_istore_n (lv' := [(2, .int x116), (0, .ref p1), (1, .ref p2)]) hx hb dX4_readClause_37 rfl hl (by decide) rfl (fun ls hl => ?_)
      refine lv_aload_n hx hb dX4_readClause_38 rfl (lv_at hl 2 rfl) ?_
      refine zq_gn E hM k_p2 (zFX4_57 E hZ) (Or.inl ⟨by decide, by decide, by decide, rfl⟩) dX4_readClause_39 (fun x117 ex117 gx117 => ?_)
      replace gx117 : 0 ≤ x117.toInt ∧ x117.toInt ≤ 400 := gx117
      refine lv_istore_n (lv' := [(3, .int x117), (2, .int x116), (0, .ref p1), (1, .ref p2)]) hx hb dX4_readClause_42 rfl hl (by decide) rfl (fun ls hl => ?_)
      refine lv_aload_n hx hb dX4_readClause_43 rfl (lv_at hl 2 rfl) ?_
      refine W.eq (g2 := F0 m 44 ls [.ref p1]) rfl ?_
      refine lv_aload_n hx hb dX4_readClause_44 rfl (lv_at hl 3 rfl) ?_
      refine zq_calli (zq_rS (As := [.ref p1, .ref p2]) (rest := []) E hZ hM (c_X4_readSum l X zk (zn) I114 L p1 k_p1 p2 k_p2) zmX4_60 zM_X4_readSum (hro (1) 7 (by first | decide | omega) (by decide)) hl.1 rfl rfl (Nat.le_of_ble_eq_true rfl) dX4_readClause_45) hS (fun x119 I120 H locs h118 hM hS => ?_)
      obtain ⟨fr121, p122⟩ := h118
      have hR := zq_fr.call hR fr121 (zf_sub (by decide +kernel) (fun _ _ q => q.elim))
      refine lv_if_ne (tgt := 53) hx hb dX4_readClause_48 (by decide) (fun b123 => ?_) (fun b123 => ?_)
      · have b123 := zi_ne b123 (rfl : x119.toInt = x119.toInt) (zl_0 : (0 : Int32).toInt = 0)
        refine lv_aload_n hx hb dX4_readClause_53 rfl (lv_at hl 3 rfl) ?_
        refine zq_gn E hM k_p2 (zFX4_53 E hZ) (Or.inl ⟨by decide, by decide, by decide, rfl⟩) dX4_readClause_54 (fun x124 ex124 gx124 => ?_)
        replace gx124 : 0 ≤ x124.toInt ∧ x124.toInt ≤ 60 := gx124
        refine lv_istore (lv' := [(4, .int x124), (3, .int x117), (2, .int x116), (0, .ref p1), (1, .ref p2)]) hx hb dX4_readClause_57 hl (by decide) rfl (fun ls hl => ?_)
        refine lv_aload_n hx hb dX4_readClause_59 rfl (lv_at hl 3 rfl) ?_
        refine zq_callr (zq_rV (As := []) (rest := []) E hZ hM k_p1 (c_X6_word l X zk (zn) I120 L p1 k_p1) zmX4_36 zM_X6_word (hro (0) 1 (by first | decide | omega) (by decide)) ⟨by decide, by decide⟩ rfl hl.1 rfl rfl (Nat.le_of_ble_eq_true rfl) dX4_readClause_60) hS (fun y126 I127 H locs h125 ky126 hM hS => ?_)
        obtain ⟨fr128, p129⟩ := h125
        rw [fr128] at hM
        refine zq_getw (nm := "IF") E hZ hM (by decide) (List.mem_cons_of_mem _ zLX4_63) dX4_readClause_63 (fun w130 kw130 => ?_)
        have J84 : ∀ (I140 : zq_M) (H : Heap) (locs : List Loc) (ls : Array Slot), (zq_hm X (zk, zn) I140 H) → (va_S (zq_A X) s.heap H locs) → (zq_fr (zf X zw_X4_readClause (fun _ => False)) I I140) → (lv_has ls 5 [(4, .int x124), (3, .int x117), (2, .int x116), (0, .ref p1), (1, .ref p2)]) → W p l e R s m args below meth c H locs 0 0 Q (F0 m 84 ls []) := by
          intro I140 H locs ls hM hS hR hl
          refine lv_aload_n hx hb dX4_readClause_84 rfl (lv_at hl 4 rfl) ?_
          refine lv_iload_n hx hb dX4_readClause_85 rfl (lv_at hl 2 rfl) ?_
          refine lv_iload hx hb dX4_readClause_86 (lv_at hl 0 rfl) ?_
          refine lv_iload_n hx hb dX4_readClause_88 rfl (lv_at hl 1 rfl) ?_
          refine zq_callv (zq_rV (As := [.int x116, .int x124, .int x117]) (rest := []) E hZ hM k_p2 (c_X3_addClause l X zk (zn) I140 L p2 k_p2 x116 x124 x117 ⟨by omega, by omega⟩ ⟨by omega, by omega⟩) zmX4_70 zM_X3_addClause (hro (0) 4 (by first | decide | omega) (by decide)) ⟨by decide, by decide⟩ rfl hl.1 rfl rfl (Nat.le_of_ble_eq_true rfl) dX4_readClause_89) hS (fun I147 H locs h145 hM hS => ?_)
          have fr148 := h145
          have hR := zq_fr.call hR fr148 (zf_sub (by decide +kernel) (fun _ _ q => q.elim))
          refine lv_iconst (v := 1) hx hb dX4_readClause_92 (by decide +kernel) ?_
          subst hQ
          exact zq_zret E hr hZ hM hS (show 0 ≤ (1 : Int32).toInt ∧ (1 : Int32).toInt ≤ 1 by decide +kernel) ⟨hR, (by have := zl_1; omega)⟩ hlocks dX4_readClause_93
        refine lv_acmp_ne (rx := some y126) (ry := some w130) (tgt := 84) hx hb dX4_readClause_66 (by decide) (fun b149 => ?_) (fun b149 => ?_)
        · clear b149
          exact J84 I120 H locs ls hM hS hR (lv_sub hl [0, 1, 2, 3, 4] rfl)
        · clear b149
          refine lv_aload_n hx hb dX4_readClause_69 rfl (lv_at hl 3 rfl) ?_
          refine zq_callv (zq_rV (As := []) (rest := []) E hZ hM k_p1 (c_X6_advance l X zk (zn) I120 L p1 k_p1) zmX4_50 zM_X6_advance (hro (0) 1 (by first | decide | omega) (by decide)) ⟨by decide, by decide⟩ rfl hl.1 rfl rfl (Nat.le_of_ble_eq_true rfl) dX4_readClause_70) hS (fun I152 H locs h150 hM hS => ?_)
          have fr153 := h150
          have hR := zq_fr.call hR fr153 (zf_sub (by decide +kernel) (fun _ _ q => q.elim))
          refine lv_aload_n hx hb dX4_readClause_73 rfl (lv_at hl 3 rfl) ?_
          refine lv_aload_n hx hb dX4_readClause_74 rfl (lv_at hl 4 rfl) ?_
          refine lv_iconst (v := 0) hx hb dX4_readClause_75 (by decide +kernel) ?_
          refine zq_calli (zq_rS (As := [.ref p1, .ref p2, .int (0 : Int32)]) (rest := []) E hZ hM (c_X4_readTest l X zk (zn) I152 L p1 k_p1 p2 k_p2 (0 : Int32) (by rw [zl_0]; decide) (by have := zl_0; omega)) zmX4_66 zM_X4_readTest (hro (24) 6 (by first | decide | omega) (by decide)) hl.1 rfl rfl (Nat.le_of_ble_eq_true rfl) dX4_readClause_76) hS (fun x155 I156 H locs h154 hM hS => ?_)
          obtain ⟨fr157, p158⟩ := h154
          have := zl_0
          have hR := zq_fr.call hR fr157 (zf_sub (by decide +kernel) (fun _ _ q => q.elim))
          refine lv_if_ne (tgt := 84) hx hb dX4_readClause_79 (by decide) (fun b159 => ?_) (fun b159 => ?_)
          · have b159 := zi_ne b159 (rfl : x155.toInt = x155.toInt) (zl_0 : (0 : Int32).toInt = 0)
            exact J84 I156 H locs ls hM hS hR (lv_sub hl [0, 1, 2, 3, 4] rfl)
          · have b159 := zi_eq b159 (rfl : x155.toInt = x155.toInt) (zl_0 : (0 : Int32).toInt = 0)
            refine lv_iconst (v := 0) hx hb dX4_readClause_82 (by decide +kernel) ?_
            subst hQ
            exact zq_zret E hr hZ hM hS (show 0 ≤ (0 : Int32).toInt ∧ (0 : Int32).toInt ≤ 1 by decide +kernel) ⟨hR, (by have := zl_0; omega)⟩ hlocks dX4_readClause_83
      · have b123 := zi_eq b123 (rfl : x119.toInt = x119.toInt) (zl_0 : (0 : Int32).toInt = 0)
        refine lv_iconst (v := 0) hx hb dX4_readClause_51 (by decide +kernel) ?_
        subst hQ
        exact zq_zret E hr hZ hM hS (show 0 ≤ (0 : Int32).toInt ∧ (0 : Int32).toInt ≤ 1 by decide +kernel) ⟨hR, (by have := zl_0; omega)⟩ hlocks dX4_readClause_52
    · have b111 := zi_eq b111 (rfl : x109.toInt = x109.toInt) (zl_0 : (0 : Int32).toInt = 0)
      refine lv_aload_n hx hb dX4_readClause_23 rfl (lv_at hl 0 rfl) ?_
      refine lv_iconst (v := 4) hx hb dX4_readClause_24 (by decide +kernel) ?_
      refine zq_calli (zq_rV (As := [.int (4 : Int32)]) (rest := []) E hZ hM k_p1 (c_X6_fail l X zk (zn) I L p1 k_p1 (4 : Int32) (by rw [zl_4]; decide)) zmX4_33 zM_X6_fail (hro (0) 2 (by first | decide | omega) (by decide)) ⟨by decide, by decide⟩ rfl hl.1 rfl rfl (Nat.le_of_ble_eq_true rfl) dX4_readClause_25) hS (fun x161 I162 H locs h160 hM hS => ?_)
      obtain ⟨fr163, p164, p165, p166⟩ := h160
      have := zl_4
      have hR := zq_fr.call hR fr163 (zf_sub (by decide +kernel) (fun _ _ q => q.elim))
      subst hQ
      exact zq_zret E hr hZ hM hS (show 0 ≤ x161.toInt ∧ x161.toInt ≤ 1 from ⟨by omega, by omega⟩) ⟨hR, (by omega)⟩ hlocks dX4_readClause_28
  · clear b107
    refine lv_aload_n hx hb dX4_readClause_10 rfl (lv_at hl 0 rfl) ?_
    refine lv_iconst (v := 0) hx hb dX4_readClause_11 (by decide +kernel) ?_
    refine zq_calli (zq_rV (As := [.int (0 : Int32)]) (rest := []) E hZ hM k_p1 (c_X6_fail l X zk (zn) I L p1 k_p1 (0 : Int32) (by rw [zl_0]; decide)) zmX4_33 zM_X6_fail (hro (0) 2 (by first | decide | omega) (by decide)) ⟨by decide, by decide⟩ rfl hl.1 rfl rfl (Nat.le_of_ble_eq_true rfl) dX4_readClause_12) hS (fun x168 I169 H locs h167 hM hS => ?_)
    obtain ⟨fr170, p171, p172, p173⟩ := h167
    have := zl_0
    have hR := zq_fr.call hR fr170 (zf_sub (by decide +kernel) (fun _ _ q => q.elim))
    subst hQ
    exact zq_zret E hr hZ hM hS (show 0 ≤ x168.toInt ∧ x168.toInt ≤ 1 from ⟨by omega, by omega⟩) ⟨hR, (by omega)⟩ hlocks dX4_readClause_15
def zw_X4_reads : List (Nat × Nat) := [(4, 3), (4, 8), (4, 10), (4, 15), (6, 7), (6, 8), (6, 9), (22, 999), (25, 999), (26, 999), (27, 999), (28, 999), (29, 999), (43, 999)]
set_option maxHeartbeats 8000000 in
set_option maxRecDepth 100000 in
theorem c_X4_reads (l : Launch) (X : zq_X) (zk zn : Nat) (I : zq_M) (L : zq_L X)  (p1 : Nat) (k_p1 : zq_k X p1 = 6) (p2 : Nat) (k_p2 : zq_k X p2 = 4)  : Met l yX4_reads (zt_w yX4_reads cX4_reads 3 (some .boolean)) (zq_rm (26)) (va_Pc [.ref p1, .ref p2] (zq_W X (zk, zn) I)) (va_Qi (fun (r : Int32) I2 => zq_fr (zf X zw_X4_reads (fun _ => False)) I I2 ∧ (0 ≤ r.toInt ∧ r.toInt ≤ 1)) (zq_E X (zk, zn)) (zq_A X)) 0 0 (zq_A X) := by
  refine Met.ofW (cc := cX4_reads) (maxL := 3) (ret := (some .boolean)) (by decide) rfl ?_
  intro p e s m args below meth c s₁ B hml hv
  obtain ⟨hargs, hM, hZ⟩ := hv
  have hown : s.vm.findClass RX4 = some m.cls := findClass_of_methodNamed B.named
  have hts := atoms_spec (ws := zt_w yX4_reads cX4_reads 3 (some .boolean)) B.pre
  have E : CallFix p m c cX4_reads 3 s args (Cond.code yX4_reads cX4_reads 3 (some .boolean) :: zt) RX4 := ⟨B.exec, B.bytes, hml, hown, hts⟩
  have hx := B.exec
  have hb := B.bytes
  have hr := B.returns
  have hlocks := B.notSynchronized
  clear B
  have hS : va_S (zq_A X) s.heap s.heap [] := va_S.rf
  have hR : zq_fr (zf X zw_X4_reads (fun _ => False)) I I := zq_fr.rf
  have hl := lv_entry ([.ref p1, .ref p2]) (n := 3) (by exact Nat.le_of_ble_eq_true rfl)
  have hg : entryFrame m args 3 = F0 m 0 ((lg_sl ([.ref p1, .ref p2]) ++ List.replicate (3 - (lg_sl ([.ref p1, .ref p2])).length) Slot.unset).toArray) [] := by rw [hargs]; exact lg_entry_eq m ([.ref p1, .ref p2]) 3
  rw [hg]
  clear hg hargs
  generalize (lg_sl ([.ref p1, .ref p2]) ++ List.replicate (3 - (lg_sl ([.ref p1, .ref p2])).length) Slot.unset).toArray = ls at hl ⊢
  have hl : lv_has ls 3 [(0, .ref p1), (1, .ref p2)] := by exact hl
  obtain ⟨R, hRm⟩ : ∃ R : Room, R = (headSpec (zt_w yX4_reads cX4_reads 3 (some .boolean)) (zq_rm (26))).room := ⟨_, rfl⟩
  rw [← hRm]
  have hro : ∀ d q : Nat, d + 1 ≤ 26 → q ≤ 45 → zq_rok d q R := fun d q h1 h2 => by rw [hRm]; exact zq_rokI h1 h2
  generalize hQ : MQ below _ args s 0 0 (zq_A X) = Q
  obtain ⟨H, hH⟩ : ∃ H, H = s.heap := ⟨_, rfl⟩
  obtain ⟨locs, hlo⟩ : ∃ x : List Loc, x = [] := ⟨_, rfl⟩
  rw [show W p l e R s m args below meth c s.heap [] 0 0 Q = W p l e R s m args below meth c H locs 0 0 Q by rw [hH, hlo]]
  have hM : zq_hm X (zk, zn) I H := by rw [hH]; exact hM
  have hS : va_S (zq_A X) s.heap H locs := by rw [hH, hlo]; exact hS
  clear hH hlo
  refine lv_aload_n hx hb dX4_reads_0 rfl (lv_at hl 1 rfl) ?_
  refine zq_callv (zq_rV (As := []) (rest := []) E hZ hM k_p2 (c_X3_clear l X zk (zn) I L p2 k_p2) zmX4_9 zM_X3_clear (hro (0) 1 (by first | decide | omega) (by decide)) ⟨by decide, by decide⟩ rfl hl.1 rfl rfl (Nat.le_of_ble_eq_true rfl) dX4_reads_1) hS (fun I103 H locs h101 hM hS => ?_)
  have fr104 := h101
  have hR := zq_fr.call hR fr104 (zf_sub (by decide +kernel) (fun _ _ q => q.elim))
  refine lv_aload_n hx hb dX4_reads_4 rfl (lv_at hl 0 rfl) ?_
  refine zq_callv (zq_rV (As := []) (rest := []) E hZ hM k_p1 (c_X6_split l X zk (zn) I103 L p1 k_p1) zmX4_14 zM_X6_split (hro (6) 4 (by first | decide | omega) (by decide)) ⟨by decide, by decide⟩ rfl hl.1 rfl rfl (Nat.le_of_ble_eq_true rfl) dX4_reads_5) hS (fun I107 H locs h105 hM hS => ?_)
  obtain ⟨fr108, p109⟩ := h105
  have hR := zq_fr.call hR fr108 (zf_sub (by decide +kernel) (fun _ _ q => q.elim))
  refine lv_iconst (v := 0) hx hb dX4_reads_8 (by decide +kernel) ?_
  refine lv_istore_n (lv' := [(2, .int (0 : Int32)), (0, .ref p1), (1, .ref p2)]) hx hb dX4_reads_9 rfl hl (by decide) rfl (fun ls hl => ?_)
  have J10 : ∀ (n190 : Nat) (I189 : zq_M) (H : Heap) (locs : List Loc) (ls : Array Slot) (j188 : Int32), 13 + 1 - j188.toInt ≤ ((n190 : Nat) : Int) → (zq_hm X (zk, zn) I189 H) → (va_S (zq_A X) s.heap H locs) → (zq_fr (zf X zw_X4_reads (fun _ => False)) I I189) → (0 ≤ j188.toInt ∧ j188.toInt ≤ 13) → (lv_has ls 3 [(2, .int j188), (0, .ref p1), (1, .ref p2)]) → W p l e R s m args below meth c H locs 0 0 Q (F0 m 10 ls []) := by
    intro n190
    induction n190 with
    | zero => intro I189 H locs ls j188 mu191 hM hS hR gj188 hl; exfalso; have := zi_rng j188; omega
    | succ n190 ih10 =>
      intro I189 H locs ls j188 mu191 hM hS hR gj188 hl
      refine lv_iload_n hx hb dX4_reads_10 rfl (lv_at hl 0 rfl) ?_
      refine lv_bipush (v := 12) hx hb dX4_reads_11 (by decide +kernel) ?_
      refine lv_icmp_gt (tgt := 53) hx hb dX4_reads_13 (by decide) (fun b192 => ?_) (fun b192 => ?_)
      · have b192 := zi_lt b192 (zl_12 : (12 : Int32).toInt = 12) (rfl : j188.toInt = j188.toInt)
        refine lv_aload_n hx hb dX4_reads_53 rfl (lv_at hl 1 rfl) ?_
        refine lv_iconst (v := 4) hx hb dX4_reads_54 (by decide +kernel) ?_
        refine zq_calli (zq_rV (As := [.int (4 : Int32)]) (rest := []) E hZ hM k_p1 (c_X6_fail l X zk (zn) I189 L p1 k_p1 (4 : Int32) (by rw [zl_4]; decide)) zmX4_33 zM_X6_fail (hro (0) 2 (by first | decide | omega) (by decide)) ⟨by decide, by decide⟩ rfl hl.1 rfl rfl (Nat.le_of_ble_eq_true rfl) dX4_reads_55) hS (fun x194 I195 H locs h193 hM hS => ?_)
        obtain ⟨fr196, p197, p198, p199⟩ := h193
        have := zl_4
        have hR := zq_fr.call hR fr196 (zf_sub (by decide +kernel) (fun _ _ q => q.elim))
        subst hQ
        exact zq_zret E hr hZ hM hS (show 0 ≤ x194.toInt ∧ x194.toInt ≤ 1 from ⟨by omega, by omega⟩) ⟨hR, (by omega)⟩ hlocks dX4_reads_58
      · have b192 := zi_nlt b192 (zl_12 : (12 : Int32).toInt = 12) (rfl : j188.toInt = j188.toInt)
        refine lv_aload_n hx hb dX4_reads_16 rfl (lv_at hl 1 rfl) ?_
        refine lv_aload_n hx hb dX4_reads_17 rfl (lv_at hl 2 rfl) ?_
        refine zq_calli (zq_rS (As := [.ref p1, .ref p2]) (rest := []) E hZ hM (c_X4_readClause l X zk (zn) I189 L p1 k_p1 p2 k_p2) zmX4_19 zM_X4_readClause (hro (25) 5 (by first | decide | omega) (by decide)) hl.1 rfl rfl (Nat.le_of_ble_eq_true rfl) dX4_reads_18) hS (fun x201 I202 H locs h200 hM hS => ?_)
        obtain ⟨fr203, p204⟩ := h200
        have hR := zq_fr.call hR fr203 (zf_sub (by decide +kernel) (fun _ _ q => q.elim))
        refine lv_if_ne (tgt := 26) hx hb dX4_reads_21 (by decide) (fun b205 => ?_) (fun b205 => ?_)
        · have b205 := zi_ne b205 (rfl : x201.toInt = x201.toInt) (zl_0 : (0 : Int32).toInt = 0)
          refine lv_aload_n hx hb dX4_reads_26 rfl (lv_at hl 1 rfl) ?_
          refine zq_pcalli (zq_rV (As := []) (rest := []) E hZ hM k_p1 (c_X6_kind l X zk (zn) I202 L p1 k_p1) zmX4_25 zM_X6_kind (hro (0) 1 (by first | decide | omega) (by decide)) ⟨by decide, by decide⟩ rfl hl.1 rfl rfl (Nat.le_of_ble_eq_true rfl) dX4_reads_27) hS (fun x207 H locs h206 hM hS => ?_)
          clear h206
          refine lv_iconst (v := (-1)) hx hb dX4_reads_30 (by decide +kernel) ?_
          refine lv_icmp_ne (tgt := 36) hx hb dX4_reads_31 (by decide) (fun b208 => ?_) (fun b208 => ?_)
          · have b208 := zi_ne b208 (rfl : x207.toInt = x207.toInt) (zl_m1 : (-1 : Int32).toInt = (-1))
            refine lv_aload_n hx hb dX4_reads_36 rfl (lv_at hl 1 rfl) ?_
            refine lv_bipush (v := 59) hx hb dX4_reads_37 (by decide +kernel) ?_
            refine zq_calli (zq_rV (As := [.int (59 : Int32)]) (rest := []) E hZ hM k_p1 (c_X6_passes l X zk (zn) I202 L p1 k_p1 (59 : Int32)) zmX4_29 zM_X6_passes (hro (1) 2 (by first | decide | omega) (by decide)) ⟨by decide, by decide⟩ rfl hl.1 rfl rfl (Nat.le_of_ble_eq_true rfl) dX4_reads_39) hS (fun x210 I211 H locs h209 hM hS => ?_)
            obtain ⟨fr212, p213, p214⟩ := h209
            have := zl_59
            have hR := zq_fr.call hR fr212 (zf_sub (by decide +kernel) (fun _ _ q => q.elim))
            refine lv_if_ne (tgt := 47) hx hb dX4_reads_42 (by decide) (fun b215 => ?_) (fun b215 => ?_)
            · have b215 := zi_ne b215 (rfl : x210.toInt = x210.toInt) (zl_0 : (0 : Int32).toInt = 0)
              obtain ⟨x216, ex216⟩ : ∃ y : Int32, y = j188 + 1 := ⟨_, rfl⟩
              have tx216 := zi_add ex216 (rfl : j188.toInt = j188.toInt) zl_1 ⟨by omega, by omega⟩
              refine lv_iinc (v := x216) (lv' := [(2, .int x216), (0, .ref p1), (1, .ref p2)]) hx hb dX4_reads_47 hl (k := 0) rfl (by rw [ex216]; rfl) (by decide) rfl (fun ls hl => ?_)
              refine lv_goto (tgt := 10) hx hb dX4_reads_50 (by decide) ?_
              exact ih10 I211 H locs ls x216 (by omega) hM hS hR (⟨by omega, by omega⟩) (lv_sub hl [0, 1, 2] rfl)
            · have b215 := zi_eq b215 (rfl : x210.toInt = x210.toInt) (zl_0 : (0 : Int32).toInt = 0)
              refine lv_iconst (v := 0) hx hb dX4_reads_45 (by decide +kernel) ?_
              subst hQ
              exact zq_zret E hr hZ hM hS (show 0 ≤ (0 : Int32).toInt ∧ (0 : Int32).toInt ≤ 1 by decide +kernel) ⟨hR, (by have := zl_0; omega)⟩ hlocks dX4_reads_46
          · have b208 := zi_eq b208 (rfl : x207.toInt = x207.toInt) (zl_m1 : (-1 : Int32).toInt = (-1))
            refine lv_iconst (v := 1) hx hb dX4_reads_34 (by decide +kernel) ?_
            subst hQ
            exact zq_zret E hr hZ hM hS (show 0 ≤ (1 : Int32).toInt ∧ (1 : Int32).toInt ≤ 1 by decide +kernel) ⟨hR, (by have := zl_1; omega)⟩ hlocks dX4_reads_35
        · have b205 := zi_eq b205 (rfl : x201.toInt = x201.toInt) (zl_0 : (0 : Int32).toInt = 0)
          refine lv_iconst (v := 0) hx hb dX4_reads_24 (by decide +kernel) ?_
          subst hQ
          exact zq_zret E hr hZ hM hS (show 0 ≤ (0 : Int32).toInt ∧ (0 : Int32).toInt ≤ 1 by decide +kernel) ⟨hR, (by have := zl_0; omega)⟩ hlocks dX4_reads_25
  exact J10 (13 + 1 - (0 : Int32).toInt).toNat I107 H locs ls (0 : Int32) (by omega) hM hS hR (by rw [zl_0]; decide) (lv_sub hl [0, 1, 2] rfl)
