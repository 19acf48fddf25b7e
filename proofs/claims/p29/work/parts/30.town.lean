def zw_X5_copyFrom : List (Nat × Nat) := [(5, 0), (5, 1), (5, 2), (5, 3), (5, 4), (5, 5)]
set_option maxHeartbeats 8000000 in
set_option maxRecDepth 100000 in
theorem c_X5_copyFrom (l : Launch) (X : zq_X) (zk zn : Nat) (I : zq_M) (L : zq_L X)  (h0 : Nat) (k_h0 : zq_k X h0 = 5) (p1 : Nat) (k_p1 : zq_k X p1 = 5)  : Met l yX5_copyFrom (zt_w yX5_copyFrom cX5_copyFrom 2 none) (zq_rm (0)) (va_Pc [.ref h0, .ref p1] (zq_W X (zk, zn) I)) (va_Qv (fun I2 => zq_fr (zf X zw_X5_copyFrom (fun b => b = h0)) I I2) (zq_E X (zk, zn)) (zq_A X)) 0 0 (zq_A X) := by
  refine Met.ofW (cc := cX5_copyFrom) (maxL := 2) (ret := none) (by decide) rfl ?_
  intro p e s m args below meth c s₁ B hml hv
  obtain ⟨hargs, hM, hZ⟩ := hv
  have hown : s.vm.findClass RX5 = some m.cls := findClass_of_methodNamed B.named
  have hts := atoms_spec (ws := zt_w yX5_copyFrom cX5_copyFrom 2 none) B.pre
  have E : CallFix p m c cX5_copyFrom 2 s args (Cond.code yX5_copyFrom cX5_copyFrom 2 none :: zt) RX5 := ⟨B.exec, B.bytes, hml, hown, hts⟩
  have hx := B.exec
  have hb := B.bytes
  have hr := B.returns
  have hlocks := B.notSynchronized
  clear B
  have hS : va_S (zq_A X) s.heap s.heap [] := va_S.rf
  have hR : zq_fr (zf X zw_X5_copyFrom (fun b => b = h0)) I I := zq_fr.rf
  have hl := lv_entry ([.ref h0, .ref p1]) (n := 2) (by exact Nat.le_of_ble_eq_true rfl)
  have hg : entryFrame m args 2 = F0 m 0 ((lg_sl ([.ref h0, .ref p1]) ++ List.replicate (2 - (lg_sl ([.ref h0, .ref p1])).length) Slot.unset).toArray) [] := by rw [hargs]; exact lg_entry_eq m ([.ref h0, .ref p1]) 2
  rw [hg]
  clear hg hargs
  generalize (lg_sl ([.ref h0, .ref p1]) ++ List.replicate (2 - (lg_sl ([.ref h0, .ref p1])).length) Slot.unset).toArray = ls at hl ⊢
  have hl : lv_has ls 2 [(0, .ref h0), (1, .ref p1)] := by exact hl
  obtain ⟨R, hRm⟩ : ∃ R : Room, R = (headSpec (zt_w yX5_copyFrom cX5_copyFrom 2 none) (zq_rm (0))).room := ⟨_, rfl⟩
  rw [← hRm]
  generalize hQ : MQ below _ args s 0 0 (zq_A X) = Q
  obtain ⟨H, hH⟩ : ∃ H, H = s.heap := ⟨_, rfl⟩
  obtain ⟨locs, hlo⟩ : ∃ x : List Loc, x = [] := ⟨_, rfl⟩
  rw [show W p l e R s m args below meth c s.heap [] 0 0 Q = W p l e R s m args below meth c H locs 0 0 Q by rw [hH, hlo]]
  have hM : zq_hm X (zk, zn) I H := by rw [hH]; exact hM
  have hS : va_S (zq_A X) s.heap H locs := by rw [hH, hlo]; exact hS
  clear hH hlo
  refine lv_aload_n hx hb dX5_copyFrom_0 rfl (lv_at hl 0 rfl) ?_
  refine lv_aload_n hx hb dX5_copyFrom_1 rfl (lv_at hl 1 rfl) ?_
  refine zq_gn E hM k_p1 (zFX5_15 E hZ) (Or.inl ⟨by decide, by decide, by decide, rfl⟩) dX5_copyFrom_2 (fun x101 ex101 gx101 => ?_)
  replace gx101 : (-1) ≤ x101.toInt ∧ x101.toInt ≤ 99 := gx101
  refine zq_pn E hM hS k_h0 (zGX5_15 E hZ) ⟨by decide, by decide, by decide, rfl⟩ (show (-1) ≤ x101.toInt ∧ x101.toInt ≤ 99 from ⟨by omega, by omega⟩) dX5_copyFrom_5 (fun I102 H locs eI102 hM hS => ?_)
  have hR := zq_fr.putE hR eI102 (zf_iw k_h0 rfl (rfl))
  refine lv_aload_n hx hb dX5_copyFrom_8 rfl (lv_at hl 0 rfl) ?_
  refine lv_aload_n hx hb dX5_copyFrom_9 rfl (lv_at hl 1 rfl) ?_
  refine zq_gn E hM k_p1 (zFX5_18 E hZ) (Or.inl ⟨by decide, by decide, by decide, rfl⟩) dX5_copyFrom_10 (fun x103 ex103 gx103 => ?_)
  replace gx103 : (-1) ≤ x103.toInt ∧ x103.toInt ≤ 99 := gx103
  refine zq_pn E hM hS k_h0 (zGX5_18 E hZ) ⟨by decide, by decide, by decide, rfl⟩ (show (-1) ≤ x103.toInt ∧ x103.toInt ≤ 99 from ⟨by omega, by omega⟩) dX5_copyFrom_13 (fun I104 H locs eI104 hM hS => ?_)
  have hR := zq_fr.putE hR eI104 (zf_iw k_h0 rfl (rfl))
  refine lv_aload_n hx hb dX5_copyFrom_16 rfl (lv_at hl 0 rfl) ?_
  refine W.eq (g2 := F0 m 17 ls [.ref h0]) rfl ?_
  refine lv_aload_n hx hb dX5_copyFrom_17 rfl (lv_at hl 1 rfl) ?_
  refine zq_gn E hM k_p1 (zFX5_9 E hZ) (Or.inl ⟨by decide, by decide, by decide, rfl⟩) dX5_copyFrom_18 (fun x105 ex105 gx105 => ?_)
  clear gx105
  refine zq_pn E hM hS k_h0 (zGX5_9 E hZ) ⟨by decide, by decide, by decide, rfl⟩ (zq_any _) dX5_copyFrom_21 (fun I106 H locs eI106 hM hS => ?_)
  have hR := zq_fr.putE hR eI106 (zf_iw k_h0 rfl (rfl))
  refine lv_aload_n hx hb dX5_copyFrom_24 rfl (lv_at hl 0 rfl) ?_
  refine lv_aload_n hx hb dX5_copyFrom_25 rfl (lv_at hl 1 rfl) ?_
  refine zq_gn E hM k_p1 (zFX5_21 E hZ) (Or.inl ⟨by decide, by decide, by decide, rfl⟩) dX5_copyFrom_26 (fun x107 ex107 gx107 => ?_)
  clear gx107
  refine zq_pn E hM hS k_h0 (zGX5_21 E hZ) ⟨by decide, by decide, by decide, rfl⟩ (zq_any _) dX5_copyFrom_29 (fun I108 H locs eI108 hM hS => ?_)
  have hR := zq_fr.putE hR eI108 (zf_iw k_h0 rfl (rfl))
  refine lv_aload_n hx hb dX5_copyFrom_32 rfl (lv_at hl 0 rfl) ?_
  refine lv_aload_n hx hb dX5_copyFrom_33 rfl (lv_at hl 1 rfl) ?_
  refine zq_gn E hM k_p1 (zFX5_24 E hZ) (Or.inl ⟨by decide, by decide, by decide, rfl⟩) dX5_copyFrom_34 (fun x109 ex109 gx109 => ?_)
  replace gx109 : 0 ≤ x109.toInt ∧ x109.toInt ≤ 99 := gx109
  refine W.eq (g2 := F0 m 37 ls [.int x109, .ref h0]) rfl ?_
  refine zq_pn E hM hS k_h0 (zGX5_24 E hZ) ⟨by decide, by decide, by decide, rfl⟩ (show 0 ≤ x109.toInt ∧ x109.toInt ≤ 99 from ⟨by omega, by omega⟩) dX5_copyFrom_37 (fun I110 H locs eI110 hM hS => ?_)
  have hR := zq_fr.putE hR eI110 (zf_iw k_h0 rfl (rfl))
  refine lv_aload_n hx hb dX5_copyFrom_40 rfl (lv_at hl 0 rfl) ?_
  refine lv_aload_n hx hb dX5_copyFrom_41 rfl (lv_at hl 1 rfl) ?_
  refine zq_gn E hM k_p1 (zFX5_27 E hZ) (Or.inr ⟨by decide, by decide, by decide, rfl⟩) dX5_copyFrom_42 (fun x111 ex111 gx111 => ?_)
  replace gx111 : 0 ≤ x111.toInt ∧ x111.toInt ≤ 1 := gx111
  refine zq_pz E hM hS k_h0 (zGX5_27 E hZ) ⟨by decide, by decide, by decide, rfl⟩ (show 0 ≤ x111.toInt ∧ x111.toInt ≤ 1 from ⟨by omega, by omega⟩) rfl dX5_copyFrom_45 (fun I112 H locs eI112 hM hS => ?_)
  have hR := zq_fr.putE hR eI112 (zf_iw k_h0 rfl (rfl))
  subst hQ
  exact zq_vret E hr hZ hM hS hR hlocks dX5_copyFrom_48
def zw_X5_unload : List (Nat × Nat) := [(5, 2), (5, 4), (5, 5)]
set_option maxHeartbeats 8000000 in
set_option maxRecDepth 100000 in
theorem c_X5_unload (l : Launch) (X : zq_X) (zk zn : Nat) (I : zq_M) (L : zq_L X)  (h0 : Nat) (k_h0 : zq_k X h0 = 5)  : Met l yX5_unload (zt_w yX5_unload cX5_unload 1 none) (zq_rm (0)) (va_Pc [.ref h0] (zq_W X (zk, zn) I)) (va_Qv (fun I2 => zq_fr (zf X zw_X5_unload (fun b => b = h0)) I I2) (zq_E X (zk, zn)) (zq_A X)) 0 0 (zq_A X) := by
  refine Met.ofW (cc := cX5_unload) (maxL := 1) (ret := none) (by decide) rfl ?_
  intro p e s m args below meth c s₁ B hml hv
  obtain ⟨hargs, hM, hZ⟩ := hv
  have hown : s.vm.findClass RX5 = some m.cls := findClass_of_methodNamed B.named
  have hts := atoms_spec (ws := zt_w yX5_unload cX5_unload 1 none) B.pre
  have E : CallFix p m c cX5_unload 1 s args (Cond.code yX5_unload cX5_unload 1 none :: zt) RX5 := ⟨B.exec, B.bytes, hml, hown, hts⟩
  have hx := B.exec
  have hb := B.bytes
  have hr := B.returns
  have hlocks := B.notSynchronized
  clear B
  have hS : va_S (zq_A X) s.heap s.heap [] := va_S.rf
  have hR : zq_fr (zf X zw_X5_unload (fun b => b = h0)) I I := zq_fr.rf
  have hl := lv_entry ([.ref h0]) (n := 1) (by exact Nat.le_of_ble_eq_true rfl)
  have hg : entryFrame m args 1 = F0 m 0 ((lg_sl ([.ref h0]) ++ List.replicate (1 - (lg_sl ([.ref h0])).length) Slot.unset).toArray) [] := by rw [hargs]; exact lg_entry_eq m ([.ref h0]) 1
  rw [hg]
  clear hg hargs
  generalize (lg_sl ([.ref h0]) ++ List.replicate (1 - (lg_sl ([.ref h0])).length) Slot.unset).toArray = ls at hl ⊢
  have hl : lv_has ls 1 [(0, .ref h0)] := by exact hl
  obtain ⟨R, hRm⟩ : ∃ R : Room, R = (headSpec (zt_w yX5_unload cX5_unload 1 none) (zq_rm (0))).room := ⟨_, rfl⟩
  rw [← hRm]
  generalize hQ : MQ below _ args s 0 0 (zq_A X) = Q
  obtain ⟨H, hH⟩ : ∃ H, H = s.heap := ⟨_, rfl⟩
  obtain ⟨locs, hlo⟩ : ∃ x : List Loc, x = [] := ⟨_, rfl⟩
  rw [show W p l e R s m args below meth c s.heap [] 0 0 Q = W p l e R s m args below meth c H locs 0 0 Q by rw [hH, hlo]]
  have hM : zq_hm X (zk, zn) I H := by rw [hH]; exact hM
  have hS : va_S (zq_A X) s.heap H locs := by rw [hH, hlo]; exact hS
  clear hH hlo
  refine lv_aload_n hx hb dX5_unload_0 rfl (lv_at hl 0 rfl) ?_
  refine lv_iconst (v := (-1)) hx hb dX5_unload_1 (by decide +kernel) ?_
  refine zq_pn E hM hS k_h0 (zGX5_9 E hZ) ⟨by decide, by decide, by decide, rfl⟩ (zq_any _) dX5_unload_2 (fun I101 H locs eI101 hM hS => ?_)
  have hR := zq_fr.putE hR eI101 (zf_iw k_h0 rfl (rfl))
  refine lv_aload_n hx hb dX5_unload_5 rfl (lv_at hl 0 rfl) ?_
  refine lv_iconst (v := 0) hx hb dX5_unload_6 (by decide +kernel) ?_
  refine zq_pn E hM hS k_h0 (zGX5_24 E hZ) ⟨by decide, by decide, by decide, rfl⟩ (show 0 ≤ (0 : Int32).toInt ∧ (0 : Int32).toInt ≤ 99 by decide +kernel) dX5_unload_7 (fun I102 H locs eI102 hM hS => ?_)
  have hR := zq_fr.putE hR eI102 (zf_iw k_h0 rfl (rfl))
  refine lv_aload_n hx hb dX5_unload_10 rfl (lv_at hl 0 rfl) ?_
  refine lv_iconst (v := 0) hx hb dX5_unload_11 (by decide +kernel) ?_
  refine zq_pz E hM hS k_h0 (zGX5_27 E hZ) ⟨by decide, by decide, by decide, rfl⟩ (show 0 ≤ (0 : Int32).toInt ∧ (0 : Int32).toInt ≤ 1 by decide +kernel) rfl dX5_unload_12 (fun I103 H locs eI103 hM hS => ?_)
  have hR := zq_fr.putE hR eI103 (zf_iw k_h0 rfl (rfl))
  refine W.eq (g2 := F0 m 15 ls []) rfl ?_
  subst hQ
  exact zq_vret E hr hZ hM hS hR hlocks dX5_unload_15
set_option maxHeartbeats 8000000 in
set_option maxRecDepth 100000 in
theorem c_X5_detail (l : Launch) (X : zq_X) (zk zn : Nat) (I : zq_M) (L : zq_L X)  (h0 : Nat) (k_h0 : zq_k X h0 = 5) (p1 : Int32)  : Met l yX5_detail (zt_w yX5_detail cX5_detail 2 (some .int)) (zq_rm (0)) (va_Pc [.ref h0, .int p1] (zq_W X (zk, zn) I)) (va_Qi (fun (r : Int32) I2 => I2 = I ∧ True) (zq_E X (zk, zn)) (zq_A X)) 0 0 (zq_A X) := by
  refine Met.ofW (cc := cX5_detail) (maxL := 2) (ret := (some .int)) (by decide) rfl ?_
  intro p e s m args below meth c s₁ B hml hv
  obtain ⟨hargs, hM, hZ⟩ := hv
  have hown : s.vm.findClass RX5 = some m.cls := findClass_of_methodNamed B.named
  have hts := atoms_spec (ws := zt_w yX5_detail cX5_detail 2 (some .int)) B.pre
  have E : CallFix p m c cX5_detail 2 s args (Cond.code yX5_detail cX5_detail 2 (some .int) :: zt) RX5 := ⟨B.exec, B.bytes, hml, hown, hts⟩
  have hx := B.exec
  have hb := B.bytes
  have hr := B.returns
  have hlocks := B.notSynchronized
  clear B
  have hS : va_S (zq_A X) s.heap s.heap [] := va_S.rf
  have hl := lv_entry ([.ref h0, .int p1]) (n := 2) (by exact Nat.le_of_ble_eq_true rfl)
  have hg : entryFrame m args 2 = F0 m 0 ((lg_sl ([.ref h0, .int p1]) ++ List.replicate (2 - (lg_sl ([.ref h0, .int p1])).length) Slot.unset).toArray) [] := by rw [hargs]; exact lg_entry_eq m ([.ref h0, .int p1]) 2
  rw [hg]
  clear hg hargs
  generalize (lg_sl ([.ref h0, .int p1]) ++ List.replicate (2 - (lg_sl ([.ref h0, .int p1])).length) Slot.unset).toArray = ls at hl ⊢
  have hl : lv_has ls 2 [(0, .ref h0), (1, .int p1)] := by exact hl
  obtain ⟨R, hRm⟩ : ∃ R : Room, R = (headSpec (zt_w yX5_detail cX5_detail 2 (some .int)) (zq_rm (0))).room := ⟨_, rfl⟩
  rw [← hRm]
  generalize hQ : MQ below _ args s 0 0 (zq_A X) = Q
  obtain ⟨H, hH⟩ : ∃ H, H = s.heap := ⟨_, rfl⟩
  obtain ⟨locs, hlo⟩ : ∃ x : List Loc, x = [] := ⟨_, rfl⟩
  rw [show W p l e R s m args below meth c s.heap [] 0 0 Q = W p l e R s m args below meth c H locs 0 0 Q by rw [hH, hlo]]
  have hM : zq_hm X (zk, zn) I H := by rw [hH]; exact hM
  have hS : va_S (zq_A X) s.heap H locs := by rw [hH, hlo]; exact hS
  clear hH hlo
  refine lv_iload_n hx hb dX5_detail_0 rfl (lv_at hl 1 rfl) ?_
  by_cases c101 : p1.toInt < 0 ∨ 5 < p1.toInt
  · refine lv_tableOut (tgt := 78) hx hb dX5_detail_1 c101 (by decide) ?_
    refine lv_bipush (v := (-2)) hx hb dX5_detail_78 (by decide +kernel) ?_
    subst hQ
    exact zq_iret E hr hZ hM hS ⟨rfl, trivial⟩ hlocks dX5_detail_80
  · have c101 : p1.toInt = 0 ∨ p1.toInt = 1 ∨ p1.toInt = 2 ∨ p1.toInt = 3 ∨ p1.toInt = 4 ∨ p1.toInt = 5 := by omega
    rcases c101 with c101 | c101 | c101 | c101 | c101 | c101
    · refine lv_tableIn (tgt := 40) hx hb dX5_detail_1 (by omega) (by omega) (by rw [c101]; rfl) (by decide) ?_
      refine lv_aload_n hx hb dX5_detail_40 rfl (lv_at hl 0 rfl) ?_
      refine zq_gn E hM k_h0 (zFX5_15 E hZ) (Or.inl ⟨by decide, by decide, by decide, rfl⟩) dX5_detail_41 (fun x102 ex102 gx102 => ?_)
      replace gx102 : (-1) ≤ x102.toInt ∧ x102.toInt ≤ 99 := gx102
      subst hQ
      exact zq_iret E hr hZ hM hS ⟨rfl, trivial⟩ hlocks dX5_detail_44
    · refine lv_tableIn (tgt := 45) hx hb dX5_detail_1 (by omega) (by omega) (by rw [c101]; rfl) (by decide) ?_
      refine lv_aload_n hx hb dX5_detail_45 rfl (lv_at hl 0 rfl) ?_
      refine zq_gn E hM k_h0 (zFX5_18 E hZ) (Or.inl ⟨by decide, by decide, by decide, rfl⟩) dX5_detail_46 (fun x103 ex103 gx103 => ?_)
      replace gx103 : (-1) ≤ x103.toInt ∧ x103.toInt ≤ 99 := gx103
      subst hQ
      exact zq_iret E hr hZ hM hS ⟨rfl, trivial⟩ hlocks dX5_detail_49
    · refine lv_tableIn (tgt := 50) hx hb dX5_detail_1 (by omega) (by omega) (by rw [c101]; rfl) (by decide) ?_
      refine lv_aload_n hx hb dX5_detail_50 rfl (lv_at hl 0 rfl) ?_
      refine zq_gn E hM k_h0 (zFX5_9 E hZ) (Or.inl ⟨by decide, by decide, by decide, rfl⟩) dX5_detail_51 (fun x104 ex104 gx104 => ?_)
      clear gx104
      subst hQ
      exact zq_iret E hr hZ hM hS ⟨rfl, trivial⟩ hlocks dX5_detail_54
    · refine lv_tableIn (tgt := 55) hx hb dX5_detail_1 (by omega) (by omega) (by rw [c101]; rfl) (by decide) ?_
      refine lv_aload_n hx hb dX5_detail_55 rfl (lv_at hl 0 rfl) ?_
      refine zq_gn E hM k_h0 (zFX5_21 E hZ) (Or.inl ⟨by decide, by decide, by decide, rfl⟩) dX5_detail_56 (fun x105 ex105 gx105 => ?_)
      clear gx105
      subst hQ
      exact zq_iret E hr hZ hM hS ⟨rfl, trivial⟩ hlocks dX5_detail_59
    · refine lv_tableIn (tgt := 60) hx hb dX5_detail_1 (by omega) (by omega) (by rw [c101]; rfl) (by decide) ?_
      refine lv_aload_n hx hb dX5_detail_60 rfl (lv_at hl 0 rfl) ?_
      refine zq_gn E hM k_h0 (zFX5_24 E hZ) (Or.inl ⟨by decide, by decide, by decide, rfl⟩) dX5_detail_61 (fun x106 ex106 gx106 => ?_)
      replace gx106 : 0 ≤ x106.toInt ∧ x106.toInt ≤ 99 := gx106
      subst hQ
      exact zq_iret E hr hZ hM hS ⟨rfl, trivial⟩ hlocks dX5_detail_64
    · refine lv_tableIn (tgt := 65) hx hb dX5_detail_1 (by omega) (by omega) (by rw [c101]; rfl) (by decide) ?_
      refine lv_aload_n hx hb dX5_detail_65 rfl (lv_at hl 0 rfl) ?_
      refine zq_gn E hM k_h0 (zFX5_27 E hZ) (Or.inr ⟨by decide, by decide, by decide, rfl⟩) dX5_detail_66 (fun x107 ex107 gx107 => ?_)
      replace gx107 : 0 ≤ x107.toInt ∧ x107.toInt ≤ 1 := gx107
      refine lv_if_eq (tgt := 76) hx hb dX5_detail_69 (by decide) (fun b108 => ?_) (fun b108 => ?_)
      · have b108 := zi_eq b108 (rfl : x107.toInt = x107.toInt) (zl_0 : (0 : Int32).toInt = 0)
        refine lv_iconst (v := 0) hx hb dX5_detail_76 (by decide +kernel) ?_
        subst hQ
        exact zq_iret E hr hZ hM hS ⟨rfl, trivial⟩ hlocks dX5_detail_77
      · have b108 := zi_ne b108 (rfl : x107.toInt = x107.toInt) (zl_0 : (0 : Int32).toInt = 0)
        refine lv_iconst (v := 1) hx hb dX5_detail_72 (by decide +kernel) ?_
        refine lv_goto (tgt := 77) hx hb dX5_detail_73 (by decide) ?_
        subst hQ
        exact zq_iret E hr hZ hM hS ⟨rfl, trivial⟩ hlocks dX5_detail_77
set_option maxHeartbeats 8000000 in
set_option maxRecDepth 100000 in
theorem c_X7_melted (l : Launch) (X : zq_X) (zk zn : Nat) (I : zq_M) (L : zq_L X)  (p1 : Int32) (p2 : Int32)  : Met l yX7_melted (zt_w yX7_melted cX7_melted 2 (some .int)) (zq_rm (0)) (va_Pc [.int p1, .int p2] (zq_W X (zk, zn) I)) (va_Qi (fun (r : Int32) I2 => I2 = I ∧ ((0 ≤ p1.toInt ∧ p1.toInt ≤ 1000000 ∧ 0 ≤ p2.toInt ∧ p2.toInt ≤ 60) → (0 ≤ r.toInt ∧ r.toInt ≤ p1.toInt))) (zq_E X (zk, zn)) (zq_A X)) 0 0 (zq_A X) := by
  refine Met.ofW (cc := cX7_melted) (maxL := 2) (ret := (some .int)) (by decide) rfl ?_
  intro p e s m args below meth c s₁ B hml hv
  obtain ⟨hargs, hM, hZ⟩ := hv
  have hown : s.vm.findClass RX7 = some m.cls := findClass_of_methodNamed B.named
  have hts := atoms_spec (ws := zt_w yX7_melted cX7_melted 2 (some .int)) B.pre
  have E : CallFix p m c cX7_melted 2 s args (Cond.code yX7_melted cX7_melted 2 (some .int) :: zt) RX7 := ⟨B.exec, B.bytes, hml, hown, hts⟩
  have hx := B.exec
  have hb := B.bytes
  have hr := B.returns
  have hlocks := B.notSynchronized
  clear B
  have hS : va_S (zq_A X) s.heap s.heap [] := va_S.rf
  have hl := lv_entry ([.int p1, .int p2]) (n := 2) (by exact Nat.le_of_ble_eq_true rfl)
  have hg : entryFrame m args 2 = F0 m 0 ((lg_sl ([.int p1, .int p2]) ++ List.replicate (2 - (lg_sl ([.int p1, .int p2])).length) Slot.unset).toArray) [] := by rw [hargs]; exact lg_entry_eq m ([.int p1, .int p2]) 2
  rw [hg]
  clear hg hargs
  generalize (lg_sl ([.int p1, .int p2]) ++ List.replicate (2 - (lg_sl ([.int p1, .int p2])).length) Slot.unset).toArray = ls at hl ⊢
  have hl : lv_has ls 2 [(0, .int p1), (1, .int p2)] := by exact hl
  obtain ⟨R, hRm⟩ : ∃ R : Room, R = (headSpec (zt_w yX7_melted cX7_melted 2 (some .int)) (zq_rm (0))).room := ⟨_, rfl⟩
  rw [← hRm]
  generalize hQ : MQ below _ args s 0 0 (zq_A X) = Q
  obtain ⟨H, hH⟩ : ∃ H, H = s.heap := ⟨_, rfl⟩
  obtain ⟨locs, hlo⟩ : ∃ x : List Loc, x = [] := ⟨_, rfl⟩
  rw [show W p l e R s m args below meth c s.heap [] 0 0 Q = W p l e R s m args below meth c H locs 0 0 Q by rw [hH, hlo]]
  have hM : zq_hm X (zk, zn) I H := by rw [hH]; exact hM
  have hS : va_S (zq_A X) s.heap H locs := by rw [hH, hlo]; exact hS
  clear hH hlo
  refine lv_iload_n hx hb dX7_melted_0 rfl (lv_at hl 0 rfl) ?_
  refine lv_iload_n hx hb dX7_melted_1 rfl (lv_at hl 0 rfl) ?_
  refine lv_iload_n hx hb dX7_melted_2 rfl (lv_at hl 1 rfl) ?_
  refine lv_imul hx hb dX7_melted_3 ?_
  refine lv_topi (fun x101 ex101 => ?_)
  refine lv_bipush (v := 99) hx hb dX7_melted_4 (by decide +kernel) ?_
  refine lv_iadd hx hb dX7_melted_6 ?_
  refine lv_topi (fun x102 ex102 => ?_)
  refine lv_bipush (v := 100) hx hb dX7_melted_7 (by decide +kernel) ?_
  refine lv_idiv hx hb dX7_melted_9 (by decide +kernel) ?_
  refine lv_topi (fun x103 ex103 => ?_)
  have tx103 := (zi_divt ex103 (rfl : x102.toInt = x102.toInt) (zl_100 : (100 : Int32).toInt = 100) (by omega)).2
  have := zi_rng x102
  refine lv_isub hx hb dX7_melted_10 ?_
  refine lv_topi (fun x104 ex104 => ?_)
  refine W.eq (g2 := F0 m 11 ls [.int x104]) rfl ?_
  subst hQ
  exact zq_iret E hr hZ hM hS ⟨rfl, (fun hh => zx_melt ex101 ex102 ex103 ex104 hh)⟩ hlocks dX7_melted_11
set_option maxHeartbeats 8000000 in
set_option maxRecDepth 100000 in
theorem c_X7_heatFor (l : Launch) (X : zq_X) (zk zn : Nat) (I : zq_M) (L : zq_L X)  (h0 : Nat) (k_h0 : zq_k X h0 = 7) (p1 : Int32) (g_p1 : 0 ≤ p1.toInt ∧ p1.toInt ≤ 1) : Met l yX7_heatFor (zt_w yX7_heatFor cX7_heatFor 2 (some .int)) (zq_rm (0)) (va_Pc [.ref h0, .int p1] (zq_W X (zk, zn) I)) (va_Qi (fun (r : Int32) I2 => I2 = I ∧ ((0 ≤ (I h0 1).toInt ∧ (I h0 1).toInt ≤ 60) → (0 ≤ r.toInt ∧ r.toInt ≤ 60)) ∧ ((-1) ≤ r.toInt ∧ r.toInt ≤ 60)) (zq_E X (zk, zn)) (zq_A X)) 0 0 (zq_A X) := by
  refine Met.ofW (cc := cX7_heatFor) (maxL := 2) (ret := (some .int)) (by decide) rfl ?_
  intro p e s m args below meth c s₁ B hml hv
  obtain ⟨hargs, hM, hZ⟩ := hv
  have hown : s.vm.findClass RX7 = some m.cls := findClass_of_methodNamed B.named
  have hts := atoms_spec (ws := zt_w yX7_heatFor cX7_heatFor 2 (some .int)) B.pre
  have E : CallFix p m c cX7_heatFor 2 s args (Cond.code yX7_heatFor cX7_heatFor 2 (some .int) :: zt) RX7 := ⟨B.exec, B.bytes, hml, hown, hts⟩
  have hx := B.exec
  have hb := B.bytes
  have hr := B.returns
  have hlocks := B.notSynchronized
  clear B
  have hS : va_S (zq_A X) s.heap s.heap [] := va_S.rf
  have hl := lv_entry ([.ref h0, .int p1]) (n := 2) (by exact Nat.le_of_ble_eq_true rfl)
  have hg : entryFrame m args 2 = F0 m 0 ((lg_sl ([.ref h0, .int p1]) ++ List.replicate (2 - (lg_sl ([.ref h0, .int p1])).length) Slot.unset).toArray) [] := by rw [hargs]; exact lg_entry_eq m ([.ref h0, .int p1]) 2
  rw [hg]
  clear hg hargs
  generalize (lg_sl ([.ref h0, .int p1]) ++ List.replicate (2 - (lg_sl ([.ref h0, .int p1])).length) Slot.unset).toArray = ls at hl ⊢
  have hl : lv_has ls 2 [(0, .ref h0), (1, .int p1)] := by exact hl
  obtain ⟨R, hRm⟩ : ∃ R : Room, R = (headSpec (zt_w yX7_heatFor cX7_heatFor 2 (some .int)) (zq_rm (0))).room := ⟨_, rfl⟩
  rw [← hRm]
  generalize hQ : MQ below _ args s 0 0 (zq_A X) = Q
  obtain ⟨H, hH⟩ : ∃ H, H = s.heap := ⟨_, rfl⟩
  obtain ⟨locs, hlo⟩ : ∃ x : List Loc, x = [] := ⟨_, rfl⟩
  rw [show W p l e R s m args below meth c s.heap [] 0 0 Q = W p l e R s m args below meth c H locs 0 0 Q by rw [hH, hlo]]
  have hM : zq_hm X (zk, zn) I H := by rw [hH]; exact hM
  have hS : va_S (zq_A X) s.heap H locs := by rw [hH, hlo]; exact hS
  clear hH hlo
  refine lv_iload_n hx hb dX7_heatFor_0 rfl (lv_at hl 1 rfl) ?_
  refine lv_if_eq (tgt := 13) hx hb dX7_heatFor_1 (by decide) (fun b101 => ?_) (fun b101 => ?_)
  · have b101 := zi_eq b101 (rfl : p1.toInt = p1.toInt) (zl_0 : (0 : Int32).toInt = 0)
    refine lv_aload_n hx hb dX7_heatFor_13 rfl (lv_at hl 0 rfl) ?_
    refine zq_gn E hM k_h0 (zFX7_15 E hZ) (Or.inl ⟨by decide, by decide, by decide, rfl⟩) dX7_heatFor_14 (fun x102 ex102 gx102 => ?_)
    replace gx102 : (-1) ≤ x102.toInt ∧ x102.toInt ≤ 60 := gx102
    subst hQ
    exact zq_iret E hr hZ hM hS ⟨rfl, (by rw [ex102]; omega), (by omega)⟩ hlocks dX7_heatFor_17
  · have b101 := zi_ne b101 (rfl : p1.toInt = p1.toInt) (zl_0 : (0 : Int32).toInt = 0)
    refine lv_aload_n hx hb dX7_heatFor_4 rfl (lv_at hl 0 rfl) ?_
    refine zq_gn E hM k_h0 (zFX7_15 E hZ) (Or.inl ⟨by decide, by decide, by decide, rfl⟩) dX7_heatFor_5 (fun x103 ex103 gx103 => ?_)
    replace gx103 : (-1) ≤ x103.toInt ∧ x103.toInt ≤ 60 := gx103
    refine lv_iconst (v := 4) hx hb dX7_heatFor_8 (by decide +kernel) ?_
    refine lv_idiv hx hb dX7_heatFor_9 (by decide +kernel) ?_
    refine lv_topi (fun x104 ex104 => ?_)
    have tx104 := (zi_divt ex104 (rfl : x103.toInt = x103.toInt) (zl_4 : (4 : Int32).toInt = 4) (by omega)).2
    refine lv_goto (tgt := 17) hx hb dX7_heatFor_10 (by decide) ?_
    subst hQ
    exact zq_iret E hr hZ hM hS ⟨rfl, (by rw [ex103]; omega), (by omega)⟩ hlocks dX7_heatFor_17
def zw_X7_copyFrom : List (Nat × Nat) := [(7, 0), (7, 1), (7, 2), (7, 3), (7, 4), (7, 5), (7, 6)]
set_option maxHeartbeats 8000000 in
set_option maxRecDepth 100000 in
theorem c_X7_copyFrom (l : Launch) (X : zq_X) (zk zn : Nat) (I : zq_M) (L : zq_L X)  (h0 : Nat) (k_h0 : zq_k X h0 = 7) (p1 : Nat) (k_p1 : zq_k X p1 = 7)  : Met l yX7_copyFrom (zt_w yX7_copyFrom cX7_copyFrom 2 none) (zq_rm (0)) (va_Pc [.ref h0, .ref p1] (zq_W X (zk, zn) I)) (va_Qv (fun I2 => zq_fr (zf X zw_X7_copyFrom (fun b => b = h0)) I I2 ∧ (∀ i, 1 ≤ i → i ≤ 4 → I2 h0 i = I p1 i)) (zq_E X (zk, zn)) (zq_A X)) 0 0 (zq_A X) := by
  refine Met.ofW (cc := cX7_copyFrom) (maxL := 2) (ret := none) (by decide) rfl ?_
  intro p e s m args below meth c s₁ B hml hv
  obtain ⟨hargs, hM, hZ⟩ := hv
  have hown : s.vm.findClass RX7 = some m.cls := findClass_of_methodNamed B.named
  have hts := atoms_spec (ws := zt_w yX7_copyFrom cX7_copyFrom 2 none) B.pre
  have E : CallFix p m c cX7_copyFrom 2 s args (Cond.code yX7_copyFrom cX7_copyFrom 2 none :: zt) RX7 := ⟨B.exec, B.bytes, hml, hown, hts⟩
  have hx := B.exec
  have hb := B.bytes
  have hr := B.returns
  have hlocks := B.notSynchronized
  clear B
  have hS : va_S (zq_A X) s.heap s.heap [] := va_S.rf
  have hR : zq_fr (zf X zw_X7_copyFrom (fun b => b = h0)) I I := zq_fr.rf
  have hl := lv_entry ([.ref h0, .ref p1]) (n := 2) (by exact Nat.le_of_ble_eq_true rfl)
  have hg : entryFrame m args 2 = F0 m 0 ((lg_sl ([.ref h0, .ref p1]) ++ List.replicate (2 - (lg_sl ([.ref h0, .ref p1])).length) Slot.unset).toArray) [] := by rw [hargs]; exact lg_entry_eq m ([.ref h0, .ref p1]) 2
  rw [hg]
  clear hg hargs
  generalize (lg_sl ([.ref h0, .ref p1]) ++ List.replicate (2 - (lg_sl ([.ref h0, .ref p1])).length) Slot.unset).toArray = ls at hl ⊢
  have hl : lv_has ls 2 [(0, .ref h0), (1, .ref p1)] := by exact hl
  obtain ⟨R, hRm⟩ : ∃ R : Room, R = (headSpec (zt_w yX7_copyFrom cX7_copyFrom 2 none) (zq_rm (0))).room := ⟨_, rfl⟩
  rw [← hRm]
  generalize hQ : MQ below _ args s 0 0 (zq_A X) = Q
  obtain ⟨H, hH⟩ : ∃ H, H = s.heap := ⟨_, rfl⟩
  obtain ⟨locs, hlo⟩ : ∃ x : List Loc, x = [] := ⟨_, rfl⟩
  rw [show W p l e R s m args below meth c s.heap [] 0 0 Q = W p l e R s m args below meth c H locs 0 0 Q by rw [hH, hlo]]
  have hM : zq_hm X (zk, zn) I H := by rw [hH]; exact hM
  have hS : va_S (zq_A X) s.heap H locs := by rw [hH, hlo]; exact hS
  clear hH hlo
  refine lv_aload_n hx hb dX7_copyFrom_0 rfl (lv_at hl 0 rfl) ?_
  refine lv_aload_n hx hb dX7_copyFrom_1 rfl (lv_at hl 1 rfl) ?_
  refine zq_gn E hM k_p1 (zFX7_9 E hZ) (Or.inl ⟨by decide, by decide, by decide, rfl⟩) dX7_copyFrom_2 (fun x101 ex101 gx101 => ?_)
  replace gx101 : (-1) ≤ x101.toInt ∧ x101.toInt ≤ 6 := gx101
  refine zq_pn E hM hS k_h0 (zGX7_9 E hZ) ⟨by decide, by decide, by decide, rfl⟩ (show (-1) ≤ x101.toInt ∧ x101.toInt ≤ 6 from ⟨by omega, by omega⟩) dX7_copyFrom_5 (fun I102 H locs eI102 hM hS => ?_)
  have hR := zq_fr.putE hR eI102 (zf_iw k_h0 rfl (rfl))
  refine lv_aload_n hx hb dX7_copyFrom_8 rfl (lv_at hl 0 rfl) ?_
  refine lv_aload_n hx hb dX7_copyFrom_9 rfl (lv_at hl 1 rfl) ?_
  refine zq_gn E hM k_p1 (zFX7_15 E hZ) (Or.inl ⟨by decide, by decide, by decide, rfl⟩) dX7_copyFrom_10 (fun x103 ex103 gx103 => ?_)
  replace gx103 : (-1) ≤ x103.toInt ∧ x103.toInt ≤ 60 := gx103
  refine zq_pn E hM hS k_h0 (zGX7_15 E hZ) ⟨by decide, by decide, by decide, rfl⟩ (show (-1) ≤ x103.toInt ∧ x103.toInt ≤ 60 from ⟨by omega, by omega⟩) dX7_copyFrom_13 (fun I104 H locs eI104 hM hS => ?_)
  have hR := zq_fr.putE hR eI104 (zf_iw k_h0 rfl (rfl))
  refine lv_aload_n hx hb dX7_copyFrom_16 rfl (lv_at hl 0 rfl) ?_
  refine W.eq (g2 := F0 m 17 ls [.ref h0]) rfl ?_
  refine lv_aload_n hx hb dX7_copyFrom_17 rfl (lv_at hl 1 rfl) ?_
  refine zq_gn E hM k_p1 (zFX7_18 E hZ) (Or.inl ⟨by decide, by decide, by decide, rfl⟩) dX7_copyFrom_18 (fun x105 ex105 gx105 => ?_)
  replace gx105 : (-1) ≤ x105.toInt ∧ x105.toInt ≤ 99 := gx105
  refine zq_pn E hM hS k_h0 (zGX7_18 E hZ) ⟨by decide, by decide, by decide, rfl⟩ (show (-1) ≤ x105.toInt ∧ x105.toInt ≤ 99 from ⟨by omega, by omega⟩) dX7_copyFrom_21 (fun I106 H locs eI106 hM hS => ?_)
  have hR := zq_fr.putE hR eI106 (zf_iw k_h0 rfl (rfl))
  refine lv_aload_n hx hb dX7_copyFrom_24 rfl (lv_at hl 0 rfl) ?_
  refine lv_aload_n hx hb dX7_copyFrom_25 rfl (lv_at hl 1 rfl) ?_
  refine zq_gn E hM k_p1 (zFX7_21 E hZ) (Or.inl ⟨by decide, by decide, by decide, rfl⟩) dX7_copyFrom_26 (fun x107 ex107 gx107 => ?_)
  replace gx107 : (-1) ≤ x107.toInt ∧ x107.toInt ≤ 99 := gx107
  refine zq_pn E hM hS k_h0 (zGX7_21 E hZ) ⟨by decide, by decide, by decide, rfl⟩ (show (-1) ≤ x107.toInt ∧ x107.toInt ≤ 99 from ⟨by omega, by omega⟩) dX7_copyFrom_29 (fun I108 H locs eI108 hM hS => ?_)
  have hR := zq_fr.putE hR eI108 (zf_iw k_h0 rfl (rfl))
  refine lv_aload_n hx hb dX7_copyFrom_32 rfl (lv_at hl 0 rfl) ?_
  refine lv_aload_n hx hb dX7_copyFrom_33 rfl (lv_at hl 1 rfl) ?_
  refine zq_gn E hM k_p1 (zFX7_24 E hZ) (Or.inl ⟨by decide, by decide, by decide, rfl⟩) dX7_copyFrom_34 (fun x109 ex109 gx109 => ?_)
  clear gx109
  refine W.eq (g2 := F0 m 37 ls [.int x109, .ref h0]) rfl ?_
  refine zq_pn E hM hS k_h0 (zGX7_24 E hZ) ⟨by decide, by decide, by decide, rfl⟩ (zq_any _) dX7_copyFrom_37 (fun I110 H locs eI110 hM hS => ?_)
  have hR := zq_fr.putE hR eI110 (zf_iw k_h0 rfl (rfl))
  refine lv_aload_n hx hb dX7_copyFrom_40 rfl (lv_at hl 0 rfl) ?_
  refine lv_aload_n hx hb dX7_copyFrom_41 rfl (lv_at hl 1 rfl) ?_
  refine zq_gn E hM k_p1 (zFX7_27 E hZ) (Or.inr ⟨by decide, by decide, by decide, rfl⟩) dX7_copyFrom_42 (fun x111 ex111 gx111 => ?_)
  replace gx111 : 0 ≤ x111.toInt ∧ x111.toInt ≤ 1 := gx111
  refine zq_pz E hM hS k_h0 (zGX7_27 E hZ) ⟨by decide, by decide, by decide, rfl⟩ (show 0 ≤ x111.toInt ∧ x111.toInt ≤ 1 from ⟨by omega, by omega⟩) rfl dX7_copyFrom_45 (fun I112 H locs eI112 hM hS => ?_)
  have hR := zq_fr.putE hR eI112 (zf_iw k_h0 rfl (rfl))
  refine lv_aload_n hx hb dX7_copyFrom_48 rfl (lv_at hl 0 rfl) ?_
  refine lv_aload_n hx hb dX7_copyFrom_49 rfl (lv_at hl 1 rfl) ?_
  refine zq_gn E hM k_p1 (zFX7_31 E hZ) (Or.inl ⟨by decide, by decide, by decide, rfl⟩) dX7_copyFrom_50 (fun x113 ex113 gx113 => ?_)
  clear gx113
  refine zq_pn E hM hS k_h0 (zGX7_31 E hZ) ⟨by decide, by decide, by decide, rfl⟩ (zq_any _) dX7_copyFrom_53 (fun I114 H locs eI114 hM hS => ?_)
  have hR := zq_fr.putE hR eI114 (zf_iw k_h0 rfl (rfl))
  subst hQ
  exact zq_vret E hr hZ hM hS ⟨hR, (fun i h1 h2 => by
      rcases (show i = 1 ∨ i = 2 ∨ i = 3 ∨ i = 4 by omega) with rfl | rfl | rfl | rfl
      · exact ((zq_kp eI114 (Or.inr (by decide)) (zq_kp eI112 (Or.inr (by decide)) (zq_kp eI110 (Or.inr (by decide)) (zq_kp eI108 (Or.inr (by decide)) (zq_kp eI106 (Or.inr (by decide)) (zq_kv eI104))))))).trans ((zq_kb eI102 (Or.inr (by decide)) ex103)).symm
      · exact ((zq_kp eI114 (Or.inr (by decide)) (zq_kp eI112 (Or.inr (by decide)) (zq_kp eI110 (Or.inr (by decide)) (zq_kp eI108 (Or.inr (by decide)) (zq_kv eI106)))))).trans ((zq_kb eI102 (Or.inr (by decide)) (zq_kb eI104 (Or.inr (by decide)) ex105))).symm
      · exact ((zq_kp eI114 (Or.inr (by decide)) (zq_kp eI112 (Or.inr (by decide)) (zq_kp eI110 (Or.inr (by decide)) (zq_kv eI108))))).trans ((zq_kb eI102 (Or.inr (by decide)) (zq_kb eI104 (Or.inr (by decide)) (zq_kb eI106 (Or.inr (by decide)) ex107)))).symm
      · exact ((zq_kp eI114 (Or.inr (by decide)) (zq_kp eI112 (Or.inr (by decide)) (zq_kv eI110)))).trans ((zq_kb eI102 (Or.inr (by decide)) (zq_kb eI104 (Or.inr (by decide)) (zq_kb eI106 (Or.inr (by decide)) (zq_kb eI108 (Or.inr (by decide)) ex109))))).symm)⟩ hlocks dX7_copyFrom_56
set_option maxHeartbeats 8000000 in
set_option maxRecDepth 100000 in
theorem c_X7_detail (l : Launch) (X : zq_X) (zk zn : Nat) (I : zq_M) (L : zq_L X)  (h0 : Nat) (k_h0 : zq_k X h0 = 7) (p1 : Int32)  : Met l yX7_detail (zt_w yX7_detail cX7_detail 2 (some .int)) (zq_rm (0)) (va_Pc [.ref h0, .int p1] (zq_W X (zk, zn) I)) (va_Qi (fun (r : Int32) I2 => I2 = I ∧ True) (zq_E X (zk, zn)) (zq_A X)) 0 0 (zq_A X) := by
  refine Met.ofW (cc := cX7_detail) (maxL := 2) (ret := (some .int)) (by decide) rfl ?_
  intro p e s m args below meth c s₁ B hml hv
  obtain ⟨hargs, hM, hZ⟩ := hv
  have hown : s.vm.findClass RX7 = some m.cls := findClass_of_methodNamed B.named
  have hts := atoms_spec (ws := zt_w yX7_detail cX7_detail 2 (some .int)) B.pre
  have E : CallFix p m c cX7_detail 2 s args (Cond.code yX7_detail cX7_detail 2 (some .int) :: zt) RX7 := ⟨B.exec, B.bytes, hml, hown, hts⟩
  have hx := B.exec
  have hb := B.bytes
  have hr := B.returns
  have hlocks := B.notSynchronized
  clear B
  have hS : va_S (zq_A X) s.heap s.heap [] := va_S.rf
  have hl := lv_entry ([.ref h0, .int p1]) (n := 2) (by exact Nat.le_of_ble_eq_true rfl)
  have hg : entryFrame m args 2 = F0 m 0 ((lg_sl ([.ref h0, .int p1]) ++ List.replicate (2 - (lg_sl ([.ref h0, .int p1])).length) Slot.unset).toArray) [] := by rw [hargs]; exact lg_entry_eq m ([.ref h0, .int p1]) 2
  rw [hg]
  clear hg hargs
  generalize (lg_sl ([.ref h0, .int p1]) ++ List.replicate (2 - (lg_sl ([.ref h0, .int p1])).length) Slot.unset).toArray = ls at hl ⊢
  have hl : lv_has ls 2 [(0, .ref h0), (1, .int p1)] := by exact hl
  obtain ⟨R, hRm⟩ : ∃ R : Room, R = (headSpec (zt_w yX7_detail cX7_detail 2 (some .int)) (zq_rm (0))).room := ⟨_, rfl⟩
  rw [← hRm]
  generalize hQ : MQ below _ args s 0 0 (zq_A X) = Q
  obtain ⟨H, hH⟩ : ∃ H, H = s.heap := ⟨_, rfl⟩
  obtain ⟨locs, hlo⟩ : ∃ x : List Loc, x = [] := ⟨_, rfl⟩
  rw [show W p l e R s m args below meth c s.heap [] 0 0 Q = W p l e R s m args below meth c H locs 0 0 Q by rw [hH, hlo]]
  have hM : zq_hm X (zk, zn) I H := by rw [hH]; exact hM
  have hS : va_S (zq_A X) s.heap H locs := by rw [hH, hlo]; exact hS
  clear hH hlo
  refine lv_iload_n hx hb dX7_detail_0 rfl (lv_at hl 1 rfl) ?_
  by_cases c101 : p1.toInt < 0 ∨ 7 < p1.toInt
  · refine lv_tableOut (tgt := 91) hx hb dX7_detail_1 c101 (by decide) ?_
    refine lv_iconst (v := (-1)) hx hb dX7_detail_91 (by decide +kernel) ?_
    subst hQ
    exact zq_iret E hr hZ hM hS ⟨rfl, trivial⟩ hlocks dX7_detail_92
  · have c101 : p1.toInt = 0 ∨ p1.toInt = 1 ∨ p1.toInt = 2 ∨ p1.toInt = 3 ∨ p1.toInt = 4 ∨ p1.toInt = 5 ∨ p1.toInt = 6 ∨ p1.toInt = 7 := by omega
    rcases c101 with c101 | c101 | c101 | c101 | c101 | c101 | c101 | c101
    · refine lv_tableIn (tgt := 48) hx hb dX7_detail_1 (by omega) (by omega) (by rw [c101]; rfl) (by decide) ?_
      refine lv_aload_n hx hb dX7_detail_48 rfl (lv_at hl 0 rfl) ?_
      refine zq_gn E hM k_h0 (zFX7_9 E hZ) (Or.inl ⟨by decide, by decide, by decide, rfl⟩) dX7_detail_49 (fun x102 ex102 gx102 => ?_)
      replace gx102 : (-1) ≤ x102.toInt ∧ x102.toInt ≤ 6 := gx102
      subst hQ
      exact zq_iret E hr hZ hM hS ⟨rfl, trivial⟩ hlocks dX7_detail_52
    · refine lv_tableIn (tgt := 53) hx hb dX7_detail_1 (by omega) (by omega) (by rw [c101]; rfl) (by decide) ?_
      refine lv_aload_n hx hb dX7_detail_53 rfl (lv_at hl 0 rfl) ?_
      refine zq_gn E hM k_h0 (zFX7_15 E hZ) (Or.inl ⟨by decide, by decide, by decide, rfl⟩) dX7_detail_54 (fun x103 ex103 gx103 => ?_)
      replace gx103 : (-1) ≤ x103.toInt ∧ x103.toInt ≤ 60 := gx103
      subst hQ
      exact zq_iret E hr hZ hM hS ⟨rfl, trivial⟩ hlocks dX7_detail_57
    · refine lv_tableIn (tgt := 58) hx hb dX7_detail_1 (by omega) (by omega) (by rw [c101]; rfl) (by decide) ?_
      refine lv_aload_n hx hb dX7_detail_58 rfl (lv_at hl 0 rfl) ?_
      refine zq_gn E hM k_h0 (zFX7_18 E hZ) (Or.inl ⟨by decide, by decide, by decide, rfl⟩) dX7_detail_59 (fun x104 ex104 gx104 => ?_)
      replace gx104 : (-1) ≤ x104.toInt ∧ x104.toInt ≤ 99 := gx104
      subst hQ
      exact zq_iret E hr hZ hM hS ⟨rfl, trivial⟩ hlocks dX7_detail_62
    · refine lv_tableIn (tgt := 63) hx hb dX7_detail_1 (by omega) (by omega) (by rw [c101]; rfl) (by decide) ?_
      refine lv_aload_n hx hb dX7_detail_63 rfl (lv_at hl 0 rfl) ?_
      refine zq_gn E hM k_h0 (zFX7_21 E hZ) (Or.inl ⟨by decide, by decide, by decide, rfl⟩) dX7_detail_64 (fun x105 ex105 gx105 => ?_)
      replace gx105 : (-1) ≤ x105.toInt ∧ x105.toInt ≤ 99 := gx105
      subst hQ
      exact zq_iret E hr hZ hM hS ⟨rfl, trivial⟩ hlocks dX7_detail_67
    · refine lv_tableIn (tgt := 68) hx hb dX7_detail_1 (by omega) (by omega) (by rw [c101]; rfl) (by decide) ?_
      refine lv_aload_n hx hb dX7_detail_68 rfl (lv_at hl 0 rfl) ?_
      refine zq_gn E hM k_h0 (zFX7_24 E hZ) (Or.inl ⟨by decide, by decide, by decide, rfl⟩) dX7_detail_69 (fun x106 ex106 gx106 => ?_)
      clear gx106
      subst hQ
      exact zq_iret E hr hZ hM hS ⟨rfl, trivial⟩ hlocks dX7_detail_72
    · refine lv_tableIn (tgt := 73) hx hb dX7_detail_1 (by omega) (by omega) (by rw [c101]; rfl) (by decide) ?_
      refine lv_aload_n hx hb dX7_detail_73 rfl (lv_at hl 0 rfl) ?_
      refine zq_gn E hM k_h0 (zFX7_27 E hZ) (Or.inr ⟨by decide, by decide, by decide, rfl⟩) dX7_detail_74 (fun x107 ex107 gx107 => ?_)
      replace gx107 : 0 ≤ x107.toInt ∧ x107.toInt ≤ 1 := gx107
      refine lv_if_eq (tgt := 84) hx hb dX7_detail_77 (by decide) (fun b108 => ?_) (fun b108 => ?_)
      · have b108 := zi_eq b108 (rfl : x107.toInt = x107.toInt) (zl_0 : (0 : Int32).toInt = 0)
        refine lv_iconst (v := 0) hx hb dX7_detail_84 (by decide +kernel) ?_
        subst hQ
        exact zq_iret E hr hZ hM hS ⟨rfl, trivial⟩ hlocks dX7_detail_85
      · have b108 := zi_ne b108 (rfl : x107.toInt = x107.toInt) (zl_0 : (0 : Int32).toInt = 0)
        refine lv_iconst (v := 1) hx hb dX7_detail_80 (by decide +kernel) ?_
        refine lv_goto (tgt := 85) hx hb dX7_detail_81 (by decide) ?_
        subst hQ
        exact zq_iret E hr hZ hM hS ⟨rfl, trivial⟩ hlocks dX7_detail_85
    · refine lv_tableIn (tgt := 91) hx hb dX7_detail_1 (by omega) (by omega) (by rw [c101]; rfl) (by decide) ?_
      refine lv_iconst (v := (-1)) hx hb dX7_detail_91 (by decide +kernel) ?_
      subst hQ
      exact zq_iret E hr hZ hM hS ⟨rfl, trivial⟩ hlocks dX7_detail_92
    · refine lv_tableIn (tgt := 86) hx hb dX7_detail_1 (by omega) (by omega) (by rw [c101]; rfl) (by decide) ?_
      refine lv_aload_n hx hb dX7_detail_86 rfl (lv_at hl 0 rfl) ?_
      refine zq_gn E hM k_h0 (zFX7_31 E hZ) (Or.inl ⟨by decide, by decide, by decide, rfl⟩) dX7_detail_87 (fun x109 ex109 gx109 => ?_)
      clear gx109
      subst hQ
      exact zq_iret E hr hZ hM hS ⟨rfl, trivial⟩ hlocks dX7_detail_90
set_option maxHeartbeats 8000000 in
set_option maxRecDepth 100000 in
theorem c_X7_arriving (l : Launch) (X : zq_X) (zk zn : Nat) (I : zq_M) (L : zq_L X)  (h0 : Nat) (k_h0 : zq_k X h0 = 7) (p1 : Int32) (p2 : Int32) (g_p2 : 0 ≤ p2.toInt ∧ p2.toInt ≤ 1) : Met l yX7_arriving (zt_w yX7_arriving cX7_arriving 6 (some .int)) (zq_rm (1)) (va_Pc [.ref h0, .int p1, .int p2] (zq_W X (zk, zn) I)) (va_Qi (fun (r : Int32) I2 => I2 = I ∧ True) (zq_E X (zk, zn)) (zq_A X)) 0 0 (zq_A X) := by
  refine Met.ofW (cc := cX7_arriving) (maxL := 6) (ret := (some .int)) (by decide) rfl ?_
  intro p e s m args below meth c s₁ B hml hv
  obtain ⟨hargs, hM, hZ⟩ := hv
  have hown : s.vm.findClass RX7 = some m.cls := findClass_of_methodNamed B.named
  have hts := atoms_spec (ws := zt_w yX7_arriving cX7_arriving 6 (some .int)) B.pre
  have E : CallFix p m c cX7_arriving 6 s args (Cond.code yX7_arriving cX7_arriving 6 (some .int) :: zt) RX7 := ⟨B.exec, B.bytes, hml, hown, hts⟩
  have hx := B.exec
  have hb := B.bytes
  have hr := B.returns
  have hlocks := B.notSynchronized
  clear B
  have hS : va_S (zq_A X) s.heap s.heap [] := va_S.rf
  have hl := lv_entry ([.ref h0, .int p1, .int p2]) (n := 6) (by exact Nat.le_of_ble_eq_true rfl)
  have hg : entryFrame m args 6 = F0 m 0 ((lg_sl ([.ref h0, .int p1, .int p2]) ++ List.replicate (6 - (lg_sl ([.ref h0, .int p1, .int p2])).length) Slot.unset).toArray) [] := by rw [hargs]; exact lg_entry_eq m ([.ref h0, .int p1, .int p2]) 6
  rw [hg]
  clear hg hargs
  generalize (lg_sl ([.ref h0, .int p1, .int p2]) ++ List.replicate (6 - (lg_sl ([.ref h0, .int p1, .int p2])).length) Slot.unset).toArray = ls at hl ⊢
  have hl : lv_has ls 6 [(0, .ref h0), (1, .int p1), (2, .int p2)] := by exact hl
  obtain ⟨R, hRm⟩ : ∃ R : Room, R = (headSpec (zt_w yX7_arriving cX7_arriving 6 (some .int)) (zq_rm (1))).room := ⟨_, rfl⟩
  rw [← hRm]
  have hro : ∀ d q : Nat, d + 1 ≤ 1 → q ≤ 45 → zq_rok d q R := fun d q h1 h2 => by rw [hRm]; exact zq_rokI h1 h2
  generalize hQ : MQ below _ args s 0 0 (zq_A X) = Q
  obtain ⟨H, hH⟩ : ∃ H, H = s.heap := ⟨_, rfl⟩
  obtain ⟨locs, hlo⟩ : ∃ x : List Loc, x = [] := ⟨_, rfl⟩
  rw [show W p l e R s m args below meth c s.heap [] 0 0 Q = W p l e R s m args below meth c H locs 0 0 Q by rw [hH, hlo]]
  have hM : zq_hm X (zk, zn) I H := by rw [hH]; exact hM
  have hS : va_S (zq_A X) s.heap H locs := by rw [hH, hlo]; exact hS
  clear hH hlo
  refine lv_aload_n hx hb dX7_arriving_0 rfl (lv_at hl 0 rfl) ?_
  refine lv_iload_n hx hb dX7_arriving_1 rfl (lv_at hl 2 rfl) ?_
  refine zq_pcalli (zq_rV (As := [.int p2]) (rest := []) E hZ hM k_h0 (c_X7_heatFor l X zk (zn) I L h0 k_h0 p2 ⟨by omega, by omega⟩) zmX7_34 zM_X7_heatFor (hro (0) 2 (by first | decide | omega) (by decide)) ⟨by decide, by decide⟩ rfl hl.1 rfl rfl (Nat.le_of_ble_eq_true rfl) dX7_arriving_2) hS (fun x102 H locs h101 hM hS => ?_)
  obtain ⟨p103, p104⟩ := h101
  refine lv_istore_n (lv' := [(3, .int x102), (0, .ref h0), (1, .int p1), (2, .int p2)]) hx hb dX7_arriving_5 rfl hl (by decide) rfl (fun ls hl => ?_)
  refine lv_iload_n hx hb dX7_arriving_6 rfl (lv_at hl 2 rfl) ?_
  refine lv_istore (lv' := [(4, .int p1), (3, .int x102), (0, .ref h0), (1, .int p1), (2, .int p2)]) hx hb dX7_arriving_7 hl (by decide) rfl (fun ls hl => ?_)
  refine lv_iconst (v := 0) hx hb dX7_arriving_9 (by decide +kernel) ?_
  refine lv_istore (lv' := [(5, .int (0 : Int32)), (4, .int p1), (3, .int x102), (0, .ref h0), (1, .int p1), (2, .int p2)]) hx hb dX7_arriving_10 hl (by decide) rfl (fun ls hl => ?_)
  have J12 : ∀ (n135 : Nat) (H : Heap) (locs : List Loc) (ls : Array Slot) (j133 : Int32) (j134 : Int32), 6 + 1 - j133.toInt ≤ ((n135 : Nat) : Int) → (zq_hm X (zk, zn) I H) → (va_S (zq_A X) s.heap H locs) → (0 ≤ j133.toInt ∧ j133.toInt ≤ 6) → (lv_has ls 6 [(5, .int j133), (4, .int j134), (3, .int x102), (0, .ref h0), (1, .int p1), (2, .int p2)]) → W p l e R s m args below meth c H locs 0 0 Q (F0 m 12 ls []) := by
    intro n135
    induction n135 with
    | zero => intro H locs ls j133 j134 mu136 hM hS gj133 hl; exfalso; have := zi_rng j133; omega
    | succ n135 ih12 =>
      intro H locs ls j133 j134 mu136 hM hS gj133 hl
      refine lv_iload hx hb dX7_arriving_12 (lv_at hl 0 rfl) ?_
      refine lv_aload_n hx hb dX7_arriving_14 rfl (lv_at hl 3 rfl) ?_
      refine zq_gn E hM k_h0 (zFX7_9 E hZ) (Or.inl ⟨by decide, by decide, by decide, rfl⟩) dX7_arriving_15 (fun x137 ex137 gx137 => ?_)
      replace gx137 : (-1) ≤ x137.toInt ∧ x137.toInt ≤ 6 := gx137
      refine lv_icmp_ge (tgt := 35) hx hb dX7_arriving_18 (by decide) (fun b138 => ?_) (fun b138 => ?_)
      · have b138 := zi_le b138 (rfl : x137.toInt = x137.toInt) (rfl : j133.toInt = j133.toInt)
        refine lv_iload hx hb dX7_arriving_35 (lv_at hl 1 rfl) ?_
        subst hQ
        exact zq_iret E hr hZ hM hS ⟨rfl, trivial⟩ hlocks dX7_arriving_37
      · have b138 := zi_nle b138 (rfl : x137.toInt = x137.toInt) (rfl : j133.toInt = j133.toInt)
        refine lv_iload hx hb dX7_arriving_21 (lv_at hl 1 rfl) ?_
        refine lv_iload_n hx hb dX7_arriving_23 rfl (lv_at hl 2 rfl) ?_
        refine zq_pcalli (zq_rS (As := [.int j134, .int x102]) (rest := []) E hZ hM (c_X7_melted l X zk (zn) I L j134 x102) zmX7_38 zM_X7_melted (hro (0) 2 (by first | decide | omega) (by decide)) hl.1 rfl rfl (Nat.le_of_ble_eq_true rfl) dX7_arriving_24) hS (fun x140 H locs h139 hM hS => ?_)
        have p141 := h139
        refine lv_istore (lv' := [(4, .int x140), (5, .int j133), (3, .int x102), (0, .ref h0), (1, .int p1), (2, .int p2)]) hx hb dX7_arriving_27 hl (by decide) rfl (fun ls hl => ?_)
        obtain ⟨x142, ex142⟩ : ∃ y : Int32, y = j133 + 1 := ⟨_, rfl⟩
        have tx142 := zi_add ex142 (rfl : j133.toInt = j133.toInt) zl_1 ⟨by omega, by omega⟩
        refine lv_iinc (v := x142) (lv' := [(5, .int x142), (4, .int x140), (3, .int x102), (0, .ref h0), (1, .int p1), (2, .int p2)]) hx hb dX7_arriving_29 hl (k := 1) rfl (by rw [ex142]; rfl) (by decide) rfl (fun ls hl => ?_)
        refine lv_goto (tgt := 12) hx hb dX7_arriving_32 (by decide) ?_
        exact ih12 H locs ls x142 x140 (by omega) hM hS (⟨by omega, by omega⟩) (lv_sub hl [0, 1, 2, 3, 4, 5] rfl)
  exact J12 (6 + 1 - (0 : Int32).toInt).toNat H locs ls (0 : Int32) p1 (by omega) hM hS (by rw [zl_0]; decide) (lv_sub hl [0, 1, 2, 3, 4, 5] rfl)
set_option maxHeartbeats 8000000 in
set_option maxRecDepth 100000 in
theorem c_X7_firstLoad (l : Launch) (X : zq_X) (zk zn : Nat) (I : zq_M) (L : zq_L X)  (h0 : Nat) (k_h0 : zq_k X h0 = 7) (p1 : Int32) (p2 : Int32) (g_p2 : 0 ≤ p2.toInt ∧ p2.toInt ≤ 1) : Met l yX7_firstLoad (zt_w yX7_firstLoad cX7_firstLoad 4 (some .int)) (zq_rm (2)) (va_Pc [.ref h0, .int p1, .int p2] (zq_W X (zk, zn) I)) (va_Qi (fun (r : Int32) I2 => I2 = I ∧ ((-2) ≤ r.toInt ∧ r.toInt ≤ 999)) (zq_E X (zk, zn)) (zq_A X)) 0 0 (zq_A X) := by
  refine Met.ofW (cc := cX7_firstLoad) (maxL := 4) (ret := (some .int)) (by decide) rfl ?_
  intro p e s m args below meth c s₁ B hml hv
  obtain ⟨hargs, hM, hZ⟩ := hv
  have hown : s.vm.findClass RX7 = some m.cls := findClass_of_methodNamed B.named
  have hts := atoms_spec (ws := zt_w yX7_firstLoad cX7_firstLoad 4 (some .int)) B.pre
  have E : CallFix p m c cX7_firstLoad 4 s args (Cond.code yX7_firstLoad cX7_firstLoad 4 (some .int) :: zt) RX7 := ⟨B.exec, B.bytes, hml, hown, hts⟩
  have hx := B.exec
  have hb := B.bytes
  have hr := B.returns
  have hlocks := B.notSynchronized
  clear B
  have hS : va_S (zq_A X) s.heap s.heap [] := va_S.rf
  have hl := lv_entry ([.ref h0, .int p1, .int p2]) (n := 4) (by exact Nat.le_of_ble_eq_true rfl)
  have hg : entryFrame m args 4 = F0 m 0 ((lg_sl ([.ref h0, .int p1, .int p2]) ++ List.replicate (4 - (lg_sl ([.ref h0, .int p1, .int p2])).length) Slot.unset).toArray) [] := by rw [hargs]; exact lg_entry_eq m ([.ref h0, .int p1, .int p2]) 4
  rw [hg]
  clear hg hargs
  generalize (lg_sl ([.ref h0, .int p1, .int p2]) ++ List.replicate (4 - (lg_sl ([.ref h0, .int p1, .int p2])).length) Slot.unset).toArray = ls at hl ⊢
  have hl : lv_has ls 4 [(0, .ref h0), (1, .int p1), (2, .int p2)] := by exact hl
  obtain ⟨R, hRm⟩ : ∃ R : Room, R = (headSpec (zt_w yX7_firstLoad cX7_firstLoad 4 (some .int)) (zq_rm (2))).room := ⟨_, rfl⟩
  rw [← hRm]
  have hro : ∀ d q : Nat, d + 1 ≤ 2 → q ≤ 45 → zq_rok d q R := fun d q h1 h2 => by rw [hRm]; exact zq_rokI h1 h2
  generalize hQ : MQ below _ args s 0 0 (zq_A X) = Q
  obtain ⟨H, hH⟩ : ∃ H, H = s.heap := ⟨_, rfl⟩
  obtain ⟨locs, hlo⟩ : ∃ x : List Loc, x = [] := ⟨_, rfl⟩
  rw [show W p l e R s m args below meth c s.heap [] 0 0 Q = W p l e R s m args below meth c H locs 0 0 Q by rw [hH, hlo]]
  have hM : zq_hm X (zk, zn) I H := by rw [hH]; exact hM
  have hS : va_S (zq_A X) s.heap H locs := by rw [hH, hlo]; exact hS
  clear hH hlo
  refine lv_iconst (v := 0) hx hb dX7_firstLoad_0 (by decide +kernel) ?_
  refine lv_istore_n (lv' := [(3, .int (0 : Int32)), (0, .ref h0), (1, .int p1), (2, .int p2)]) hx hb dX7_firstLoad_1 rfl hl (by decide) rfl (fun ls hl => ?_)
  have J2 : ∀ (n118 : Nat) (H : Heap) (locs : List Loc) (ls : Array Slot) (j117 : Int32), 1000 + 1 - j117.toInt ≤ ((n118 : Nat) : Int) → (zq_hm X (zk, zn) I H) → (va_S (zq_A X) s.heap H locs) → (0 ≤ j117.toInt ∧ j117.toInt ≤ 1000) → (lv_has ls 4 [(3, .int j117), (0, .ref h0), (1, .int p1), (2, .int p2)]) → W p l e R s m args below meth c H locs 0 0 Q (F0 m 2 ls []) := by
    intro n118
    induction n118 with
    | zero => intro H locs ls j117 mu119 hM hS gj117 hl; exfalso; have := zi_rng j117; omega
    | succ n118 ih2 =>
      intro H locs ls j117 mu119 hM hS gj117 hl
      refine lv_iload_n hx hb dX7_firstLoad_2 rfl (lv_at hl 0 rfl) ?_
      refine lv_sipush (v := 999) hx hb dX7_firstLoad_3 (by decide +kernel) ?_
      refine lv_icmp_gt (tgt := 27) hx hb dX7_firstLoad_6 (by decide) (fun b120 => ?_) (fun b120 => ?_)
      · have b120 := zi_lt b120 (zl_999 : (999 : Int32).toInt = 999) (rfl : j117.toInt = j117.toInt)
        refine lv_bipush (v := (-2)) hx hb dX7_firstLoad_27 (by decide +kernel) ?_
        subst hQ
        exact zq_iret E hr hZ hM hS ⟨rfl, (by have := zl_m2; omega)⟩ hlocks dX7_firstLoad_29
      · have b120 := zi_nlt b120 (zl_999 : (999 : Int32).toInt = 999) (rfl : j117.toInt = j117.toInt)
        refine lv_aload_n hx hb dX7_firstLoad_9 rfl (lv_at hl 1 rfl) ?_
        refine lv_iload_n hx hb dX7_firstLoad_10 rfl (lv_at hl 0 rfl) ?_
        refine lv_iload_n hx hb dX7_firstLoad_11 rfl (lv_at hl 3 rfl) ?_
        refine zq_pcalli (zq_rV (As := [.int j117, .int p2]) (rest := []) E hZ hM k_h0 (c_X7_arriving l X zk (zn) I L h0 k_h0 j117 p2 ⟨by omega, by omega⟩) zmX7_42 zM_X7_arriving (hro (1) 6 (by first | decide | omega) (by decide)) ⟨by decide, by decide⟩ rfl hl.1 rfl rfl (Nat.le_of_ble_eq_true rfl) dX7_firstLoad_12) hS (fun x122 H locs h121 hM hS => ?_)
        clear h121
        refine lv_iload_n hx hb dX7_firstLoad_15 rfl (lv_at hl 2 rfl) ?_
        refine lv_icmp_lt (tgt := 21) hx hb dX7_firstLoad_16 (by decide) (fun b123 => ?_) (fun b123 => ?_)
        · have b123 := zi_lt b123 (rfl : x122.toInt = x122.toInt) (rfl : p1.toInt = p1.toInt)
          obtain ⟨x124, ex124⟩ : ∃ y : Int32, y = j117 + 1 := ⟨_, rfl⟩
          have tx124 := zi_add ex124 (rfl : j117.toInt = j117.toInt) zl_1 ⟨by omega, by omega⟩
          refine lv_iinc (v := x124) (lv' := [(3, .int x124), (0, .ref h0), (1, .int p1), (2, .int p2)]) hx hb dX7_firstLoad_21 hl (k := 0) rfl (by rw [ex124]; rfl) (by decide) rfl (fun ls hl => ?_)
          refine lv_goto (tgt := 2) hx hb dX7_firstLoad_24 (by decide) ?_
          exact ih2 H locs ls x124 (by omega) hM hS (⟨by omega, by omega⟩) (lv_sub hl [0, 1, 2, 3] rfl)
        · have b123 := zi_nlt b123 (rfl : x122.toInt = x122.toInt) (rfl : p1.toInt = p1.toInt)
          refine lv_iload_n hx hb dX7_firstLoad_19 rfl (lv_at hl 0 rfl) ?_
          subst hQ
          exact zq_iret E hr hZ hM hS ⟨rfl, (by omega)⟩ hlocks dX7_firstLoad_20
  exact J2 (1000 + 1 - (0 : Int32).toInt).toNat H locs ls (0 : Int32) (by omega) hM hS (by rw [zl_0]; decide) (lv_sub hl [0, 1, 2, 3] rfl)
