theorem zl_0 : (0 : Int32).toInt = 0 := by decide +kernel
theorem zl_4 : (4 : Int32).toInt = 4 := by decide +kernel
theorem zl_99 : (99 : Int32).toInt = 99 := by decide +kernel
theorem zl_100 : (100 : Int32).toInt = 100 := by decide +kernel
set_option maxHeartbeats 4000000 in
set_option maxRecDepth 100000 in
theorem c_X7_melted (l : Launch) (X : zq_X) (z : zq_Z) (I : zq_M) (L : zq_lay X) (LO : zq_own X) (p0 : Int32) (p1 : Int32)  : Met l yX7_melted wsX7_melted (zq_rm 0) (va_Pc [.int p0, .int p1] (zq_W X z I)) (va_Qi (fun (r : Int32) I2 => I2 = I ∧ True) (zq_E X z) (zq_A X)) 0 0 (zq_A X) := by
  refine Met.ofW (cc := cX7_melted) (maxL := 2) (ret := (some .int)) (by decide) rfl ?_
  intro p e s m args below meth c s₁ B hml hv
  obtain ⟨rfl, hM, hZ⟩ := hv
  have hown : s.vm.findClass RX7 = some m.cls := findClass_of_methodNamed B.named
  have hts := atoms_spec (ws := wsX7_melted) B.pre
  have E : CallFix p m c cX7_melted 2 s _ wsX7_melted RX7 := ⟨B.exec, B.bytes, hml, hown, hts⟩
  have hx := B.exec
  have hb := B.bytes
  have hr := B.returns
  have hlocks := B.notSynchronized
  have hS : va_S (zq_A X) s.heap s.heap [] := va_S.rf
  have hl := lv_entry ([.int p0, .int p1]) (n := 2) (Nat.le_of_ble_eq_true rfl)
  rw [lg_entry_eq]
  generalize (lg_sl ([.int p0, .int p1]) ++ List.replicate (2 - (lg_sl ([.int p0, .int p1])).length) Slot.unset).toArray = ls at hl ⊢
  have hl : lv_has ls 2 [(0, .int p0), (1, .int p1)] := hl
  refine lv_iload_n hx hb dX7_melted_0 rfl (lv_at hl 0 rfl) ?_
  refine lv_iload_n hx hb dX7_melted_1 rfl (lv_at hl 0 rfl) ?_
  refine lv_iload_n hx hb dX7_melted_2 rfl (lv_at hl 1 rfl) ?_
  refine lv_imul hx hb dX7_melted_3 ?_
  refine lv_topi (fun x1 ex1 => ?_)
  refine lv_bipush (v := 99) hx hb dX7_melted_4 (by decide +kernel) ?_
  refine lv_iadd hx hb dX7_melted_6 ?_
  refine lv_topi (fun x2 ex2 => ?_)
  refine lv_bipush (v := 100) hx hb dX7_melted_7 (by decide +kernel) ?_
  refine lv_idiv hx hb dX7_melted_9 (by decide +kernel) ?_
  refine lv_topi (fun x3 ex3 => ?_)
  have tx3 := zi_divt ex3 (rfl : x2.toInt = x2.toInt) (zl_100 : (100 : Int32).toInt = 100) (by omega)
  refine lv_isub hx hb dX7_melted_10 ?_
  refine lv_topi (fun x4 ex4 => ?_)
  exact zq_iret E hr hZ hM hS ⟨rfl, trivial⟩ hlocks dX7_melted_11
set_option maxHeartbeats 4000000 in
set_option maxRecDepth 100000 in
theorem c_X7_heatFor (l : Launch) (X : zq_X) (z : zq_Z) (I : zq_M) (L : zq_lay X) (LO : zq_own X) (h0 : Nat) (k_h0 : zq_k X h0 = 7) (p1 : Int32) (q_0 : 0 ≤ p1.toInt ∧ p1.toInt ≤ 1) : Met l yX7_heatFor wsX7_heatFor (zq_rm 0) (va_Pc [.ref h0, .int p1] (zq_W X z I)) (va_Qi (fun (r : Int32) I2 => I2 = I ∧ True) (zq_E X z) (zq_A X)) 0 0 (zq_A X) := by
  refine Met.ofW (cc := cX7_heatFor) (maxL := 2) (ret := (some .int)) (by decide) rfl ?_
  intro p e s m args below meth c s₁ B hml hv
  obtain ⟨rfl, hM, hZ⟩ := hv
  have hown : s.vm.findClass RX7 = some m.cls := findClass_of_methodNamed B.named
  have hts := atoms_spec (ws := wsX7_heatFor) B.pre
  have E : CallFix p m c cX7_heatFor 2 s _ wsX7_heatFor RX7 := ⟨B.exec, B.bytes, hml, hown, hts⟩
  have hx := B.exec
  have hb := B.bytes
  have hr := B.returns
  have hlocks := B.notSynchronized
  have hS : va_S (zq_A X) s.heap s.heap [] := va_S.rf
  have hl := lv_entry ([.ref h0, .int p1]) (n := 2) (Nat.le_of_ble_eq_true rfl)
  rw [lg_entry_eq]
  generalize (lg_sl ([.ref h0, .int p1]) ++ List.replicate (2 - (lg_sl ([.ref h0, .int p1])).length) Slot.unset).toArray = ls at hl ⊢
  have hl : lv_has ls 2 [(0, .ref h0), (1, .int p1)] := hl
  have inX7 : ∀ w ∈ wsX70, w ∈ wsX7_heatFor := by decide +kernel
  have F15 : zq_F X s _ RX7 15 7 1 := zq_F.of (C := RX7) (T := TX7) (N := 7) E hZ rfl inX7 (by decide) (by decide +kernel)
  refine lv_iload_n hx hb dX7_heatFor_0 rfl (lv_at hl 1 rfl) ?_
  refine lv_if_eq (tgt := 13) hx hb dX7_heatFor_1 (by decide) (fun b1 => ?_) (fun b1 => ?_)
  · have b1 := zi_eq b1 (rfl : p1.toInt = p1.toInt) (zl_0 : (0 : Int32).toInt = 0)
    refine lv_aload_n hx hb dX7_heatFor_13 rfl (lv_at hl 0 rfl) ?_
    refine zq_gn E hM k_h0 F15 (Or.inl ⟨by decide, by decide, by decide, rfl⟩) dX7_heatFor_14 (fun x2 ex2 gx2 => ?_)
    clear gx2
    exact zq_iret E hr hZ hM hS ⟨rfl, trivial⟩ hlocks dX7_heatFor_17
  · have b1 := zi_ne b1 (rfl : p1.toInt = p1.toInt) (zl_0 : (0 : Int32).toInt = 0)
    refine lv_aload_n hx hb dX7_heatFor_4 rfl (lv_at hl 0 rfl) ?_
    refine zq_gn E hM k_h0 F15 (Or.inl ⟨by decide, by decide, by decide, rfl⟩) dX7_heatFor_5 (fun x3 ex3 gx3 => ?_)
    clear gx3
    refine lv_iconst (v := 4) hx hb dX7_heatFor_8 (by decide +kernel) ?_
    refine lv_idiv hx hb dX7_heatFor_9 (by decide +kernel) ?_
    refine lv_topi (fun x4 ex4 => ?_)
    have tx4 := zi_divt ex4 (rfl : x3.toInt = x3.toInt) (zl_4 : (4 : Int32).toInt = 4) (by omega)
    refine lv_goto (tgt := 17) hx hb dX7_heatFor_10 (by decide) ?_
    exact zq_iret E hr hZ hM hS ⟨rfl, trivial⟩ hlocks dX7_heatFor_17
