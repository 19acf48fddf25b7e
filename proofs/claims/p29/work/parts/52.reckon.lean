def zw_X12_push : List (Nat × Nat) := [(10, 18)]
set_option maxHeartbeats 8000000 in
set_option maxRecDepth 100000 in
theorem c_X12_push (l : Launch) (X : zq_X) (zk zn : Nat) (I : zq_M) (L : zq_L X)  (h0 : Nat) (k_h0 : zq_k X h0 = 10) (p1 : Int64) (q_0 : zk ≤ 4400 ∧ zn ≤ 4400) (q_1 : (I h0 18).toInt ≤ 63) : Met l yX12_push (zt_w yX12_push cX12_push 3 none) (zq_rm (0)) (va_Pc [.ref h0, .long p1] (zq_W X (zk, zn) I)) (va_Qv (fun I2 => zq_fr (zf X zw_X12_push (fun _ => False)) I I2 ∧ ((I2 h0 18).toInt = (I h0 18).toInt + 1)) (zq_E X (zk, zn)) (zq_A X)) 0 0 (zq_A X) := by
  refine Met.ofW (cc := cX12_push) (maxL := 3) (ret := none) (by decide) rfl ?_
  intro p e s m args below meth c s₁ B hml hv
  obtain ⟨hargs, hM, hZ⟩ := hv
  have hown : s.vm.findClass RX12 = some m.cls := findClass_of_methodNamed B.named
  have hts := atoms_spec (ws := zt_w yX12_push cX12_push 3 none) B.pre
  have E : CallFix p m c cX12_push 3 s args (Cond.code yX12_push cX12_push 3 none :: zt) RX12 := ⟨B.exec, B.bytes, hml, hown, hts⟩
  have hx := B.exec
  have hb := B.bytes
  have hr := B.returns
  have hlocks := B.notSynchronized
  clear B
  have hS : va_S (zq_A X) s.heap s.heap [] := va_S.rf
  have hR : zq_fr (zf X zw_X12_push (fun _ => False)) I I := zq_fr.rf
  have hl := lv_entry ([.ref h0, .long p1]) (n := 3) (by exact Nat.le_of_ble_eq_true rfl)
  have hg : entryFrame m args 3 = F0 m 0 ((lg_sl ([.ref h0, .long p1]) ++ List.replicate (3 - (lg_sl ([.ref h0, .long p1])).length) Slot.unset).toArray) [] := by rw [hargs]; exact lg_entry_eq m ([.ref h0, .long p1]) 3
  rw [hg]
  clear hg hargs
  generalize (lg_sl ([.ref h0, .long p1]) ++ List.replicate (3 - (lg_sl ([.ref h0, .long p1])).length) Slot.unset).toArray = ls at hl ⊢
  have hl : lv_has ls 3 [(0, .ref h0), (1, .long p1)] := by exact hl
  obtain ⟨R, hRm⟩ : ∃ R : Room, R = (headSpec (zt_w yX12_push cX12_push 3 none) (zq_rm (0))).room := ⟨_, rfl⟩
  rw [← hRm]
  generalize hQ : MQ below _ args s 0 0 (zq_A X) = Q
  obtain ⟨H, hH⟩ : ∃ H, H = s.heap := ⟨_, rfl⟩
  obtain ⟨locs, hlo⟩ : ∃ x : List Loc, x = [] := ⟨_, rfl⟩
  rw [show W p l e R s m args below meth c s.heap [] 0 0 Q = W p l e R s m args below meth c H locs 0 0 Q by rw [hH, hlo]]
  have hM : zq_hm X (zk, zn) I H := by rw [hH]; exact hM
  have hS : va_S (zq_A X) s.heap H locs := by rw [hH, hlo]; exact hS
  clear hH hlo
  refine lv_aload_n hx hb dX12_push_0 rfl (lv_at hl 0 rfl) ?_
  refine zq_getr E hM k_h0 (zFX12_32 E hZ) ⟨by decide, by decide, by decide, rfl⟩ dX12_push_1 ?_
  have k101 : zq_k X (zq_r X h0 17) = 57 := zq_lk L.1 k_h0 rfl (by decide)
  refine lv_aload_n hx hb dX12_push_4 rfl (lv_at hl 0 rfl) ?_
  refine zq_gn E hM k_h0 (zFX12_266 E hZ) (Or.inl ⟨by decide, by decide, by decide, rfl⟩) dX12_push_5 (fun x102 ex102 gx102 => ?_)
  replace gx102 : 0 ≤ x102.toInt ∧ x102.toInt ≤ 64 := gx102
  have := congrArg Int32.toInt ex102
  refine lv_lload_n hx hb dX12_push_8 rfl (lv_at hl 1 rfl) ?_
  refine zq_last (n := 64) E hZ hM hS k101 ⟨by decide, rfl⟩ ⟨by omega, by omega⟩ dX12_push_9 (fun H locs hM hS => ?_)
  refine lv_aload_n hx hb dX12_push_10 rfl (lv_at hl 0 rfl) ?_
  refine lv_dup hx hb dX12_push_11 rfl ?_
  refine zq_gk (v := x102) E hM k_h0 (zFX12_266 E hZ) (Or.inl ⟨by decide, by decide, by decide, rfl⟩) ex102 dX12_push_12 ?_
  refine W.eq (g2 := F0 m 15 ls [.int x102, .ref h0]) rfl ?_
  refine lv_iconst (v := 1) hx hb dX12_push_15 (by decide +kernel) ?_
  refine lv_iadd hx hb dX12_push_16 ?_
  refine lv_topi (fun x103 ex103 => ?_)
  have tx103 := zi_add ex103 (rfl : x102.toInt = x102.toInt) (zl_1 : (1 : Int32).toInt = 1) ⟨by omega, by omega⟩
  refine zq_pn E hM hS k_h0 (zGX12_266 E hZ) ⟨by decide, by decide, by decide, rfl⟩ (show 0 ≤ x103.toInt ∧ x103.toInt ≤ 64 from ⟨by omega, by omega⟩) dX12_push_17 (fun I104 H locs eI104 hM hS => ?_)
  have hR := zq_fr.putE hR eI104 (zf_i k_h0 rfl rfl)
  subst hQ
  exact zq_vret E hr hZ hM hS ⟨hR, (by rw [(zq_kv eI104)]; omega)⟩ hlocks dX12_push_20
def zw_X12_pop : List (Nat × Nat) := [(10, 18)]
set_option maxHeartbeats 8000000 in
set_option maxRecDepth 100000 in
theorem c_X12_pop (l : Launch) (X : zq_X) (zk zn : Nat) (I : zq_M) (L : zq_L X)  (h0 : Nat) (k_h0 : zq_k X h0 = 10) (q_0 : zk ≤ 4400 ∧ zn ≤ 4400) (q_1 : 1 ≤ (I h0 18).toInt) : Met l yX12_pop (zt_w yX12_pop cX12_pop 1 (some .long)) (zq_rm (0)) (va_Pc [.ref h0] (zq_W X (zk, zn) I)) (va_Ql (fun (r : Int64) I2 => zq_fr (zf X zw_X12_pop (fun _ => False)) I I2 ∧ ((I2 h0 18).toInt = (I h0 18).toInt - 1)) (zq_E X (zk, zn)) (zq_A X)) 0 0 (zq_A X) := by
  refine Met.ofW (cc := cX12_pop) (maxL := 1) (ret := (some .long)) (by decide) rfl ?_
  intro p e s m args below meth c s₁ B hml hv
  obtain ⟨hargs, hM, hZ⟩ := hv
  have hown : s.vm.findClass RX12 = some m.cls := findClass_of_methodNamed B.named
  have hts := atoms_spec (ws := zt_w yX12_pop cX12_pop 1 (some .long)) B.pre
  have E : CallFix p m c cX12_pop 1 s args (Cond.code yX12_pop cX12_pop 1 (some .long) :: zt) RX12 := ⟨B.exec, B.bytes, hml, hown, hts⟩
  have hx := B.exec
  have hb := B.bytes
  have hr := B.returns
  have hlocks := B.notSynchronized
  clear B
  have hS : va_S (zq_A X) s.heap s.heap [] := va_S.rf
  have hR : zq_fr (zf X zw_X12_pop (fun _ => False)) I I := zq_fr.rf
  have hl := lv_entry ([.ref h0]) (n := 1) (by exact Nat.le_of_ble_eq_true rfl)
  have hg : entryFrame m args 1 = F0 m 0 ((lg_sl ([.ref h0]) ++ List.replicate (1 - (lg_sl ([.ref h0])).length) Slot.unset).toArray) [] := by rw [hargs]; exact lg_entry_eq m ([.ref h0]) 1
  rw [hg]
  clear hg hargs
  generalize (lg_sl ([.ref h0]) ++ List.replicate (1 - (lg_sl ([.ref h0])).length) Slot.unset).toArray = ls at hl ⊢
  have hl : lv_has ls 1 [(0, .ref h0)] := by exact hl
  obtain ⟨R, hRm⟩ : ∃ R : Room, R = (headSpec (zt_w yX12_pop cX12_pop 1 (some .long)) (zq_rm (0))).room := ⟨_, rfl⟩
  rw [← hRm]
  generalize hQ : MQ below _ args s 0 0 (zq_A X) = Q
  obtain ⟨H, hH⟩ : ∃ H, H = s.heap := ⟨_, rfl⟩
  obtain ⟨locs, hlo⟩ : ∃ x : List Loc, x = [] := ⟨_, rfl⟩
  rw [show W p l e R s m args below meth c s.heap [] 0 0 Q = W p l e R s m args below meth c H locs 0 0 Q by rw [hH, hlo]]
  have hM : zq_hm X (zk, zn) I H := by rw [hH]; exact hM
  have hS : va_S (zq_A X) s.heap H locs := by rw [hH, hlo]; exact hS
  clear hH hlo
  refine lv_aload_n hx hb dX12_pop_0 rfl (lv_at hl 0 rfl) ?_
  refine lv_dup hx hb dX12_pop_1 rfl ?_
  refine zq_gn E hM k_h0 (zFX12_266 E hZ) (Or.inl ⟨by decide, by decide, by decide, rfl⟩) dX12_pop_2 (fun x101 ex101 gx101 => ?_)
  replace gx101 : 0 ≤ x101.toInt ∧ x101.toInt ≤ 64 := gx101
  have := congrArg Int32.toInt ex101
  refine lv_iconst (v := 1) hx hb dX12_pop_5 (by decide +kernel) ?_
  refine lv_isub hx hb dX12_pop_6 ?_
  refine lv_topi (fun x102 ex102 => ?_)
  have tx102 := zi_sub ex102 (rfl : x101.toInt = x101.toInt) (zl_1 : (1 : Int32).toInt = 1) ⟨by omega, by omega⟩
  refine zq_pn E hM hS k_h0 (zGX12_266 E hZ) ⟨by decide, by decide, by decide, rfl⟩ (show 0 ≤ x102.toInt ∧ x102.toInt ≤ 64 from ⟨by omega, by omega⟩) dX12_pop_7 (fun I103 H locs eI103 hM hS => ?_)
  have hR := zq_fr.putE hR eI103 (zf_i k_h0 rfl rfl)
  refine lv_aload_n hx hb dX12_pop_10 rfl (lv_at hl 0 rfl) ?_
  refine zq_getr E hM k_h0 (zFX12_32 E hZ) ⟨by decide, by decide, by decide, rfl⟩ dX12_pop_11 ?_
  have k104 : zq_k X (zq_r X h0 17) = 57 := zq_lk L.1 k_h0 rfl (by decide)
  refine lv_aload_n hx hb dX12_pop_14 rfl (lv_at hl 0 rfl) ?_
  refine W.eq (g2 := F0 m 15 ls [.ref h0, .ref (zq_r X h0 17)]) rfl ?_
  refine zq_gk (v := x102) E hM k_h0 (zFX12_266 E hZ) (Or.inl ⟨by decide, by decide, by decide, rfl⟩) (zq_kv eI103) dX12_pop_15 ?_
  refine zq_lald (n := 64) E hZ hM k104 ⟨by decide, rfl⟩ ⟨by omega, by omega⟩ dX12_pop_18 (fun y105 => ?_)
  subst hQ
  exact zq_lret E hr hZ hM hS ⟨hR, (by rw [(zq_kv eI103)]; omega)⟩ hlocks dX12_pop_19
def zw_X12_reckons : List (Nat × Nat) := [(10, 18)]
set_option maxHeartbeats 8000000 in
set_option maxRecDepth 100000 in
theorem c_X12_reckons (l : Launch) (X : zq_X) (zk zn : Nat) (I : zq_M) (L : zq_L X)  (h0 : Nat) (k_h0 : zq_k X h0 = 10) (p1 : Int32) (p2 : Int32) (p3 : Int32) (g_p1 : 0 ≤ p1.toInt ∧ p1.toInt ≤ 5) (g_p2 : 0 ≤ p2.toInt ∧ p2.toInt ≤ 400) (g_p3 : 0 ≤ p3.toInt ∧ p3.toInt ≤ 400) (q_0 : zk ≤ 4400 ∧ zn ≤ 4400) (q_1 : zRN X I h0 p1.toNatClampNeg p2.toNatClampNeg p3.toNatClampNeg) : Met l yX12_reckons (zt_w yX12_reckons cX12_reckons 11 (some .long)) (zq_rm (1)) (va_Pc [.ref h0, .int p1, .int p2, .int p3] (zq_W X (zk, zn) I)) (va_Ql (fun (r : Int64) I2 => zq_fr (zf X zw_X12_reckons (fun _ => False)) I I2) (zq_E X (zk, zn)) (zq_A X)) 0 0 (zq_A X) := by
  refine Met.ofW (cc := cX12_reckons) (maxL := 11) (ret := (some .long)) (by decide) rfl ?_
  intro p e s m args below meth c s₁ B hml hv
  obtain ⟨hargs, hM, hZ⟩ := hv
  have hown : s.vm.findClass RX12 = some m.cls := findClass_of_methodNamed B.named
  have hts := atoms_spec (ws := zt_w yX12_reckons cX12_reckons 11 (some .long)) B.pre
  have E : CallFix p m c cX12_reckons 11 s args (Cond.code yX12_reckons cX12_reckons 11 (some .long) :: zt) RX12 := ⟨B.exec, B.bytes, hml, hown, hts⟩
  have hx := B.exec
  have hb := B.bytes
  have hr := B.returns
  have hlocks := B.notSynchronized
  clear B
  have hS : va_S (zq_A X) s.heap s.heap [] := va_S.rf
  have hR : zq_fr (zf X zw_X12_reckons (fun _ => False)) I I := zq_fr.rf
  have hl := lv_entry ([.ref h0, .int p1, .int p2, .int p3]) (n := 11) (by exact Nat.le_of_ble_eq_true rfl)
  have hg : entryFrame m args 11 = F0 m 0 ((lg_sl ([.ref h0, .int p1, .int p2, .int p3]) ++ List.replicate (11 - (lg_sl ([.ref h0, .int p1, .int p2, .int p3])).length) Slot.unset).toArray) [] := by rw [hargs]; exact lg_entry_eq m ([.ref h0, .int p1, .int p2, .int p3]) 11
  rw [hg]
  clear hg hargs
  generalize (lg_sl ([.ref h0, .int p1, .int p2, .int p3]) ++ List.replicate (11 - (lg_sl ([.ref h0, .int p1, .int p2, .int p3])).length) Slot.unset).toArray = ls at hl ⊢
  have hl : lv_has ls 11 [(0, .ref h0), (1, .int p1), (2, .int p2), (3, .int p3)] := by exact hl
  obtain ⟨R, hRm⟩ : ∃ R : Room, R = (headSpec (zt_w yX12_reckons cX12_reckons 11 (some .long)) (zq_rm (1))).room := ⟨_, rfl⟩
  rw [← hRm]
  have hro : ∀ d q : Nat, d + 1 ≤ 1 → q ≤ 45 → zq_rok d q R := fun d q h1 h2 => by rw [hRm]; exact zq_rokI h1 h2
  generalize hQ : MQ below _ args s 0 0 (zq_A X) = Q
  obtain ⟨H, hH⟩ : ∃ H, H = s.heap := ⟨_, rfl⟩
  obtain ⟨locs, hlo⟩ : ∃ x : List Loc, x = [] := ⟨_, rfl⟩
  rw [show W p l e R s m args below meth c s.heap [] 0 0 Q = W p l e R s m args below meth c H locs 0 0 Q by rw [hH, hlo]]
  have hM : zq_hm X (zk, zn) I H := by rw [hH]; exact hM
  have hS : va_S (zq_A X) s.heap H locs := by rw [hH, hlo]; exact hS
  clear hH hlo
  obtain ⟨hle9, _, D, hD0, hD1, hD9⟩ := q_1
  have hA9 : ∀ j, I (zq_r X h0 3) j = I (zq_r X h0 3) j := fun _ => rfl
  have hle8 : p2.toInt ≤ p3.toInt := by have h1 := zq_cl (i := p2) (by omega); have h2 := zq_cl (i := p3) (by omega); omega
  refine lv_aload_n hx hb dX12_reckons_0 rfl (lv_at hl 0 rfl) ?_
  refine lv_iconst (v := 0) hx hb dX12_reckons_1 (by decide +kernel) ?_
  refine zq_pn E hM hS k_h0 (zGX12_266 E hZ) ⟨by decide, by decide, by decide, rfl⟩ (show 0 ≤ (0 : Int32).toInt ∧ (0 : Int32).toInt ≤ 64 by decide +kernel) dX12_reckons_2 (fun I101 H locs eI101 hM hS => ?_)
  have hR := zq_fr.putE hR eI101 (zf_i k_h0 rfl rfl)
  have hA102 := fun j => zq_kp eI101 (Or.inl (zq_kne (zq_lk L.1 k_h0 rfl (by decide) : zq_k X (zq_r X h0 3) = 51) k_h0 (by decide))) (hA9 j)
  refine lv_iload_n hx hb dX12_reckons_5 rfl (lv_at hl 2 rfl) ?_
  refine lv_istore (lv' := [(4, .int p2), (0, .ref h0), (1, .int p1), (2, .int p2), (3, .int p3)]) hx hb dX12_reckons_6 hl (by decide) rfl (fun ls hl => ?_)
  have J8 : ∀ (n176 : Nat) (I174 : zq_M) (H : Heap) (locs : List Loc) (ls : Array Slot) (j173 : Int32), 400 + 1 - j173.toInt ≤ ((n176 : Nat) : Int) → (zq_hm X (zk, zn) I174 H) → (va_S (zq_A X) s.heap H locs) → (zq_fr (zf X zw_X12_reckons (fun _ => False)) I I174) → (0 ≤ j173.toInt ∧ j173.toInt ≤ 400) → (∀ j, I174 (zq_r X h0 3) j = I (zq_r X h0 3) j) → ((I174 h0 18).toInt = ((D j173.toNatClampNeg : Nat) : Int)) → (p2.toInt ≤ j173.toInt ∧ j173.toInt ≤ p3.toInt) → (lv_has ls 11 [(4, .int j173), (0, .ref h0), (1, .int p1), (2, .int p2), (3, .int p3)]) → W p l e R s m args below meth c H locs 0 0 Q (F0 m 8 ls []) := by
    intro n176
    induction n176 with
    | zero => intro I174 H locs ls j173 mu177 hM hS hR gj173 F175 hi18 hi17 hl; exfalso; have := zi_rng j173; omega
    | succ n176 ih8 =>
      intro I174 H locs ls j173 mu177 hM hS hR gj173 F175 hi18 hi17 hl
      refine lv_iload hx hb dX12_reckons_8 (lv_at hl 0 rfl) ?_
      refine lv_iload_n hx hb dX12_reckons_10 rfl (lv_at hl 4 rfl) ?_
      refine lv_icmp_ge (tgt := 135) hx hb dX12_reckons_11 (by decide) (fun b178 => ?_) (fun b178 => ?_)
      · have b178 := zi_le b178 (rfl : p3.toInt = p3.toInt) (rfl : j173.toInt = j173.toInt)
        have hD8 : (I174 h0 18).toInt = 1 := by rw [hi18, show j173.toNatClampNeg = p3.toNatClampNeg by have h1 := zq_cl (i := j173) (by omega); have h2 := zq_cl (i := p3) (by omega); omega, hD1]; rfl
        refine lv_aload_n hx hb dX12_reckons_135 rfl (lv_at hl 1 rfl) ?_
        refine zq_calll (zq_rV (As := []) (rest := []) E hZ hM k_h0 (c_X12_pop l X zk (zn) I174 L h0 k_h0 (by omega) (by omega)) zmX12_273 zM_X12_pop (hro (0) 1 (by first | decide | omega) (by decide)) ⟨by decide, by decide⟩ rfl hl.1 rfl rfl (Nat.le_of_ble_eq_true rfl) dX12_reckons_136) hS (fun y180 I181 H locs h179 hM hS => ?_)
        obtain ⟨fr182, p183⟩ := h179
        have hR := zq_fr.call hR fr182 (zf_sub (by decide +kernel) (fun _ _ q => q.elim))
        have hA184 := fun j => zq_fr.kp fr182 (zf_n (zq_lk L.1 k_h0 rfl (by decide) : zq_k X (zq_r X h0 3) = 51) rfl) (F175 j)
        subst hQ
        exact zq_lret E hr hZ hM hS hR hlocks dX12_reckons_139
      · have b178 := zi_nle b178 (rfl : p3.toInt = p3.toInt) (rfl : j173.toInt = j173.toInt)
        refine lv_aload_n hx hb dX12_reckons_14 rfl (lv_at hl 1 rfl) ?_
        refine zq_getr E hM k_h0 (zFX12_13 E hZ) ⟨by decide, by decide, by decide, rfl⟩ dX12_reckons_15 ?_
        have k185 : zq_k X (zq_r X h0 3) = 51 := zq_lk L.1 k_h0 rfl (by decide)
        refine lv_sipush (v := 400) hx hb dX12_reckons_18 (by decide +kernel) ?_
        refine lv_iload_n hx hb dX12_reckons_21 rfl (lv_at hl 2 rfl) ?_
        refine lv_imul hx hb dX12_reckons_22 ?_
        refine lv_topi (fun x186 ex186 => ?_)
        have tx186 := zi_mul ex186 (zl_400 : (400 : Int32).toInt = 400) (rfl : p1.toInt = p1.toInt) ⟨by omega, by omega⟩
        refine lv_iload hx hb dX12_reckons_23 (lv_at hl 0 rfl) ?_
        refine lv_iadd hx hb dX12_reckons_25 ?_
        refine lv_topi (fun x187 ex187 => ?_)
        have tx187 := zi_add ex187 (rfl : x186.toInt = x186.toInt) (rfl : j173.toInt = j173.toInt) ⟨by omega, by omega⟩
        refine zq_ian (n := 2400) (j := (x187.toNatClampNeg)) E hZ hM k185 ⟨by decide, rfl⟩ ⟨by omega, by omega⟩ rfl dX12_reckons_26 (fun x188 ex188 gx188 => ?_)
        clear gx188
        have hvx188 : I (zq_r X h0 3) (400 * p1.toNatClampNeg + j173.toNatClampNeg) = x188 := by
          have h1 := zq_cl (i := p1) (by omega); have h2 := zq_cl (i := j173) (by omega); have h3 := zq_cl (i := x187) (by omega)
          rw [show 400 * p1.toNatClampNeg + j173.toNatClampNeg = x187.toNatClampNeg by omega, ← F175 _]; exact ex188
        refine lv_bipush (v := 15) hx hb dX12_reckons_27 (by decide +kernel) ?_
        refine W.eq (g2 := F0 m 29 ls [.int (15 : Int32), .int x188]) rfl ?_
        refine lv_iand hx hb dX12_reckons_29 ?_
        refine lv_topi (fun x189 ex189 => ?_)
        have tx189 := zi_and 4 (by decide +kernel) (by decide) ex189
        refine lv_istore (lv' := [(5, .int x189), (4, .int j173), (0, .ref h0), (1, .int p1), (2, .int p2), (3, .int p3)]) hx hb dX12_reckons_30 hl (by decide) rfl (fun ls hl => ?_)
        refine lv_aload_n hx hb dX12_reckons_32 rfl (lv_at hl 2 rfl) ?_
        refine zq_getr E hM k_h0 (zFX12_13 E hZ) ⟨by decide, by decide, by decide, rfl⟩ dX12_reckons_33 ?_
        have k190 : zq_k X (zq_r X h0 3) = 51 := zq_lk L.1 k_h0 rfl (by decide)
        refine lv_sipush (v := 400) hx hb dX12_reckons_36 (by decide +kernel) ?_
        refine lv_iload_n hx hb dX12_reckons_39 rfl (lv_at hl 3 rfl) ?_
        refine lv_imul hx hb dX12_reckons_40 ?_
        refine lv_topi (fun x191 ex191 => ?_)
        have tx191 := zi_mul ex191 (zl_400 : (400 : Int32).toInt = 400) (rfl : p1.toInt = p1.toInt) ⟨by omega, by omega⟩
        refine lv_iload hx hb dX12_reckons_41 (lv_at hl 1 rfl) ?_
        refine lv_iadd hx hb dX12_reckons_43 ?_
        refine lv_topi (fun x192 ex192 => ?_)
        have tx192 := zi_add ex192 (rfl : x191.toInt = x191.toInt) (rfl : j173.toInt = j173.toInt) ⟨by omega, by omega⟩
        refine zq_ian (n := 2400) (j := (x192.toNatClampNeg)) E hZ hM k190 ⟨by decide, rfl⟩ ⟨by omega, by omega⟩ rfl dX12_reckons_44 (fun x193 ex193 gx193 => ?_)
        clear gx193
        have hvx193 : I (zq_r X h0 3) (400 * p1.toNatClampNeg + j173.toNatClampNeg) = x193 := by
          have h1 := zq_cl (i := p1) (by omega); have h2 := zq_cl (i := j173) (by omega); have h3 := zq_cl (i := x192) (by omega)
          rw [show 400 * p1.toNatClampNeg + j173.toNatClampNeg = x192.toNatClampNeg by omega, ← F175 _]; exact ex193
        refine W.eq (g2 := F0 m 45 ls [.int x193]) rfl ?_
        refine lv_iconst (v := 4) hx hb dX12_reckons_45 (by decide +kernel) ?_
        refine lv_ishr hx hb dX12_reckons_46 ?_
        refine lv_topi (fun x194 ex194 => ?_)
        refine lv_istore (lv' := [(6, .int x194), (5, .int x189), (4, .int j173), (0, .ref h0), (1, .int p1), (2, .int p2), (3, .int p3)]) hx hb dX12_reckons_47 hl (by decide) rfl (fun ls hl => ?_)
        have hst : zst x189 x194 (D j173.toNatClampNeg) (D (j173.toNatClampNeg + 1)) := by
          have q := hD9 j173.toNatClampNeg (by have h1 := zq_cl (i := j173) (by omega); have h2 := zq_cl (i := p2) (by omega); omega) (by have h1 := zq_cl (i := j173) (by omega); have h2 := zq_cl (i := p3) (by omega); omega)
          rw [hvx193] at q
          rw [ex189, ex194, show x188 = x193 from hvx188.symm.trans hvx193]; exact q
        unfold zst at hst
        refine lv_iload hx hb dX12_reckons_49 (lv_at hl 1 rfl) ?_
        have J129 : ∀ (I243 : zq_M) (H : Heap) (locs : List Loc) (ls : Array Slot), (zq_hm X (zk, zn) I243 H) → (va_S (zq_A X) s.heap H locs) → (zq_fr (zf X zw_X12_reckons (fun _ => False)) I I243) → (∀ j, I243 (zq_r X h0 3) j = I (zq_r X h0 3) j) → ((I243 h0 18).toInt = ((D (j173.toNatClampNeg + 1) : Nat) : Int)) → (lv_has ls 11 [(6, .int x194), (5, .int x189), (4, .int j173), (0, .ref h0), (1, .int p1), (2, .int p2), (3, .int p3)]) → W p l e R s m args below meth c H locs 0 0 Q (F0 m 129 ls []) := by
          intro I243 H locs ls hM hS hR F244 hi29 hl
          obtain ⟨x246, ex246⟩ : ∃ y : Int32, y = j173 + 1 := ⟨_, rfl⟩
          have tx246 := zi_add ex246 (rfl : j173.toInt = j173.toInt) zl_1 ⟨by omega, by omega⟩
          refine lv_iinc (v := x246) (lv' := [(4, .int x246), (6, .int x194), (5, .int x189), (0, .ref h0), (1, .int p1), (2, .int p2), (3, .int p3)]) hx hb dX12_reckons_129 hl (k := 2) rfl (by rw [ex246]; rfl) (by decide) rfl (fun ls hl => ?_)
          refine lv_goto (tgt := 8) hx hb dX12_reckons_132 (by decide) ?_
          exact ih8 I243 H locs ls x246 (by omega) hM hS hR (⟨by omega, by omega⟩) F244 (by rw [show x246.toNatClampNeg = j173.toNatClampNeg + 1 by have h1 := zq_cl (i := x246) (by omega); have h2 := zq_cl (i := j173) (by omega); omega]; omega) (⟨by omega, by omega⟩) (lv_sub hl [0, 3, 4, 5, 6] rfl)
        refine lv_if_ne (tgt := 64) hx hb dX12_reckons_51 (by decide) (fun b247 => ?_) (fun b247 => ?_)
        · have b247 := zi_ne b247 (rfl : x189.toInt = x189.toInt) (zl_0 : (0 : Int32).toInt = 0)
          refine lv_iload hx hb dX12_reckons_64 (lv_at hl 1 rfl) ?_
          refine lv_iconst (v := 1) hx hb dX12_reckons_66 (by decide +kernel) ?_
          refine lv_icmp_ne (tgt := 84) hx hb dX12_reckons_67 (by decide) (fun b248 => ?_) (fun b248 => ?_)
          · have b248 := zi_ne b248 (rfl : x189.toInt = x189.toInt) (zl_1 : (1 : Int32).toInt = 1)
            refine lv_iload hx hb dX12_reckons_84 (lv_at hl 1 rfl) ?_
            refine lv_bipush (v := 11) hx hb dX12_reckons_86 (by decide +kernel) ?_
            refine lv_icmp_ne (tgt := 104) hx hb dX12_reckons_88 (by decide) (fun b249 => ?_) (fun b249 => ?_)
            · have b249 := zi_ne b249 (rfl : x189.toInt = x189.toInt) (zl_11 : (11 : Int32).toInt = 11)
              refine lv_aload_n hx hb dX12_reckons_104 rfl (lv_at hl 3 rfl) ?_
              refine zq_calll (zq_rV (As := []) (rest := []) E hZ hM k_h0 (c_X12_pop l X zk (zn) I174 L h0 k_h0 (by omega) (by omega)) zmX12_273 zM_X12_pop (hro (0) 1 (by first | decide | omega) (by decide)) ⟨by decide, by decide⟩ rfl hl.1 rfl rfl (Nat.le_of_ble_eq_true rfl) dX12_reckons_105) hS (fun y251 I252 H locs h250 hM hS => ?_)
              obtain ⟨fr253, p254⟩ := h250
              have hR := zq_fr.call hR fr253 (zf_sub (by decide +kernel) (fun _ _ q => q.elim))
              have hA255 := fun j => zq_fr.kp fr253 (zf_n (zq_lk L.1 k_h0 rfl (by decide) : zq_k X (zq_r X h0 3) = 51) rfl) (F175 j)
              refine lv_lstore (lv' := [(7, .long y251), (6, .int x194), (5, .int x189), (4, .int j173), (0, .ref h0), (1, .int p1), (2, .int p2), (3, .int p3)]) hx hb dX12_reckons_108 hl (by decide) rfl (fun ls hl => ?_)
              refine lv_aload_n hx hb dX12_reckons_110 rfl (lv_at hl 4 rfl) ?_
              refine zq_calll (zq_rV (As := []) (rest := []) E hZ hM k_h0 (c_X12_pop l X zk (zn) I252 L h0 k_h0 (by omega) (by omega)) zmX12_273 zM_X12_pop (hro (0) 1 (by first | decide | omega) (by decide)) ⟨by decide, by decide⟩ rfl hl.1 rfl rfl (Nat.le_of_ble_eq_true rfl) dX12_reckons_111) hS (fun y257 I258 H locs h256 hM hS => ?_)
              obtain ⟨fr259, p260⟩ := h256
              have hR := zq_fr.call hR fr259 (zf_sub (by decide +kernel) (fun _ _ q => q.elim))
              have hA261 := fun j => zq_fr.kp fr259 (zf_n (zq_lk L.1 k_h0 rfl (by decide) : zq_k X (zq_r X h0 3) = 51) rfl) (hA255 j)
              refine lv_lstore (lv' := [(9, .long y257), (7, .long y251), (6, .int x194), (5, .int x189), (4, .int j173), (0, .ref h0), (1, .int p1), (2, .int p2), (3, .int p3)]) hx hb dX12_reckons_114 hl (by decide) rfl (fun ls hl => ?_)
              refine lv_aload_n hx hb dX12_reckons_116 rfl (lv_at hl 5 rfl) ?_
              refine lv_iload hx hb dX12_reckons_117 (lv_at hl 3 rfl) ?_
              refine lv_lload hx hb dX12_reckons_119 (lv_at hl 0 rfl) ?_
              refine W.eq (g2 := F0 m 121 ls [.long y257, .int x189, .ref h0]) rfl ?_
              refine lv_lload hx hb dX12_reckons_121 (lv_at hl 1 rfl) ?_
              refine zq_pcalll (zq_rS (As := [.int x189, .long y257, .long y251]) (rest := [.ref h0]) E hZ hM (c_X12_one l X zk (zn) I258 L x189 y257 y251) zmX12_277 zM_X12_one (hro (0) 5 (by first | decide | omega) (by decide)) hl.1 rfl rfl (Nat.le_of_ble_eq_true rfl) dX12_reckons_123) hS (fun y263 H locs h262 hM hS => ?_)
              clear h262
              refine zq_callv (zq_rV (As := [.long y263]) (rest := []) E hZ hM k_h0 (c_X12_push l X zk (zn) I258 L h0 k_h0 y263 (by omega) (by omega)) zmX12_269 zM_X12_push (hro (0) 3 (by first | decide | omega) (by decide)) ⟨by decide, by decide⟩ rfl hl.1 rfl rfl (Nat.le_of_ble_eq_true rfl) dX12_reckons_126) hS (fun I266 H locs h264 hM hS => ?_)
              obtain ⟨fr267, p268⟩ := h264
              have hR := zq_fr.call hR fr267 (zf_sub (by decide +kernel) (fun _ _ q => q.elim))
              have hA269 := fun j => zq_fr.kp fr267 (zf_n (zq_lk L.1 k_h0 rfl (by decide) : zq_k X (zq_r X h0 3) = 51) rfl) (hA261 j)
              exact J129 I266 H locs ls hM hS hR hA269 (by omega) (lv_sub hl [2, 3, 4, 5, 6, 7, 8] rfl)
            · have b249 := zi_eq b249 (rfl : x189.toInt = x189.toInt) (zl_11 : (11 : Int32).toInt = 11)
              refine lv_aload_n hx hb dX12_reckons_91 rfl (lv_at hl 3 rfl) ?_
              refine lv_lconst (v := 1) hx hb dX12_reckons_92 (by decide +kernel) ?_
              refine lv_aload_n hx hb dX12_reckons_93 rfl (lv_at hl 3 rfl) ?_
              refine zq_calll (zq_rV (As := []) (rest := [.long (1 : Int64), .ref h0]) E hZ hM k_h0 (c_X12_pop l X zk (zn) I174 L h0 k_h0 (by omega) (by omega)) zmX12_273 zM_X12_pop (hro (0) 1 (by first | decide | omega) (by decide)) ⟨by decide, by decide⟩ rfl hl.1 rfl rfl (Nat.le_of_ble_eq_true rfl) dX12_reckons_94) hS (fun y271 I272 H locs h270 hM hS => ?_)
              obtain ⟨fr273, p274⟩ := h270
              have hR := zq_fr.call hR fr273 (zf_sub (by decide +kernel) (fun _ _ q => q.elim))
              have hA275 := fun j => zq_fr.kp fr273 (zf_n (zq_lk L.1 k_h0 rfl (by decide) : zq_k X (zq_r X h0 3) = 51) rfl) (F175 j)
              refine lv_lsub hx hb dX12_reckons_97 ?_
              refine lv_topl (fun y276 ey276 => ?_)
              refine zq_callv (zq_rV (As := [.long y276]) (rest := []) E hZ hM k_h0 (c_X12_push l X zk (zn) I272 L h0 k_h0 y276 (by omega) (by omega)) zmX12_269 zM_X12_push (hro (0) 3 (by first | decide | omega) (by decide)) ⟨by decide, by decide⟩ rfl hl.1 rfl rfl (Nat.le_of_ble_eq_true rfl) dX12_reckons_98) hS (fun I279 H locs h277 hM hS => ?_)
              obtain ⟨fr280, p281⟩ := h277
              have hR := zq_fr.call hR fr280 (zf_sub (by decide +kernel) (fun _ _ q => q.elim))
              have hA282 := fun j => zq_fr.kp fr280 (zf_n (zq_lk L.1 k_h0 rfl (by decide) : zq_k X (zq_r X h0 3) = 51) rfl) (hA275 j)
              refine lv_goto (tgt := 129) hx hb dX12_reckons_101 (by decide) ?_
              exact J129 I279 H locs ls hM hS hR hA282 (by omega) (lv_sub hl [0, 1, 2, 3, 4, 5, 6] rfl)
          · have b248 := zi_eq b248 (rfl : x189.toInt = x189.toInt) (zl_1 : (1 : Int32).toInt = 1)
            refine lv_aload_n hx hb dX12_reckons_70 rfl (lv_at hl 3 rfl) ?_
            refine lv_aload_n hx hb dX12_reckons_71 rfl (lv_at hl 3 rfl) ?_
            refine zq_getr E hM k_h0 (zFX12_36 E hZ) ⟨by decide, by decide, by decide, rfl⟩ dX12_reckons_72 ?_
            have k283 : zq_k X (zq_r X h0 19) = 58 := zq_lk L.1 k_h0 rfl (by decide)
            refine lv_iload hx hb dX12_reckons_75 (lv_at hl 0 rfl) ?_
            refine zq_lald (n := 13) E hZ hM k283 ⟨by decide, rfl⟩ ⟨by omega, by omega⟩ dX12_reckons_77 (fun y284 => ?_)
            refine zq_callv (zq_rV (As := [.long y284]) (rest := []) E hZ hM k_h0 (c_X12_push l X zk (zn) I174 L h0 k_h0 y284 (by omega) (by omega)) zmX12_269 zM_X12_push (hro (0) 3 (by first | decide | omega) (by decide)) ⟨by decide, by decide⟩ rfl hl.1 rfl rfl (Nat.le_of_ble_eq_true rfl) dX12_reckons_78) hS (fun I287 H locs h285 hM hS => ?_)
            obtain ⟨fr288, p289⟩ := h285
            have hR := zq_fr.call hR fr288 (zf_sub (by decide +kernel) (fun _ _ q => q.elim))
            have hA290 := fun j => zq_fr.kp fr288 (zf_n (zq_lk L.1 k_h0 rfl (by decide) : zq_k X (zq_r X h0 3) = 51) rfl) (F175 j)
            refine lv_goto (tgt := 129) hx hb dX12_reckons_81 (by decide) ?_
            exact J129 I287 H locs ls hM hS hR hA290 (by omega) (lv_sub hl [0, 1, 2, 3, 4, 5, 6] rfl)
        · have b247 := zi_eq b247 (rfl : x189.toInt = x189.toInt) (zl_0 : (0 : Int32).toInt = 0)
          refine lv_aload_n hx hb dX12_reckons_54 rfl (lv_at hl 3 rfl) ?_
          refine lv_iload hx hb dX12_reckons_55 (lv_at hl 0 rfl) ?_
          refine lv_i2l hx hb dX12_reckons_57 rfl ?_
          refine lv_topl (fun y291 ey291 => ?_)
          have ty291 := zi_i2l ey291
          have := zi_rng x194
          refine zq_callv (zq_rV (As := [.long y291]) (rest := []) E hZ hM k_h0 (c_X12_push l X zk (zn) I174 L h0 k_h0 y291 (by omega) (by omega)) zmX12_269 zM_X12_push (hro (0) 3 (by first | decide | omega) (by decide)) ⟨by decide, by decide⟩ rfl hl.1 rfl rfl (Nat.le_of_ble_eq_true rfl) dX12_reckons_58) hS (fun I294 H locs h292 hM hS => ?_)
          obtain ⟨fr295, p296⟩ := h292
          have hR := zq_fr.call hR fr295 (zf_sub (by decide +kernel) (fun _ _ q => q.elim))
          have hA297 := fun j => zq_fr.kp fr295 (zf_n (zq_lk L.1 k_h0 rfl (by decide) : zq_k X (zq_r X h0 3) = 51) rfl) (F175 j)
          refine lv_goto (tgt := 129) hx hb dX12_reckons_61 (by decide) ?_
          exact J129 I294 H locs ls hM hS hR hA297 (by omega) (lv_sub hl [0, 1, 2, 3, 4, 5, 6] rfl)
  exact J8 (400 + 1 - p2.toInt).toNat I101 H locs ls p2 (by omega) hM hS hR (⟨by omega, by omega⟩) hA102 (by rw [(zq_kv eI101), hD0]; decide +kernel) (⟨by omega, by omega⟩) (lv_sub hl [0, 1, 2, 3, 4] rfl)
def zw_X12_summedBy : List (Nat × Nat) := [(10, 18)]
set_option maxHeartbeats 8000000 in
set_option maxRecDepth 100000 in
theorem c_X12_summedBy (l : Launch) (X : zq_X) (zk zn : Nat) (I : zq_M) (L : zq_L X)  (h0 : Nat) (k_h0 : zq_k X h0 = 10) (p1 : Int32) (g_p1 : 0 ≤ p1.toInt ∧ p1.toInt ≤ 5) (q_0 : zk ≤ 4400 ∧ zn ≤ 4400) (q_1 : zWF X I h0) : Met l yX12_summedBy (zt_w yX12_summedBy cX12_summedBy 4 (some .long)) (zq_rm (2)) (va_Pc [.ref h0, .int p1] (zq_W X (zk, zn) I)) (va_Ql (fun (r : Int64) I2 => zq_fr (zf X zw_X12_summedBy (fun _ => False)) I I2) (zq_E X (zk, zn)) (zq_A X)) 0 0 (zq_A X) := by
  refine Met.ofW (cc := cX12_summedBy) (maxL := 4) (ret := (some .long)) (by decide) rfl ?_
  intro p e s m args below meth c s₁ B hml hv
  obtain ⟨hargs, hM, hZ⟩ := hv
  have hown : s.vm.findClass RX12 = some m.cls := findClass_of_methodNamed B.named
  have hts := atoms_spec (ws := zt_w yX12_summedBy cX12_summedBy 4 (some .long)) B.pre
  have E : CallFix p m c cX12_summedBy 4 s args (Cond.code yX12_summedBy cX12_summedBy 4 (some .long) :: zt) RX12 := ⟨B.exec, B.bytes, hml, hown, hts⟩
  have hx := B.exec
  have hb := B.bytes
  have hr := B.returns
  have hlocks := B.notSynchronized
  clear B
  have hS : va_S (zq_A X) s.heap s.heap [] := va_S.rf
  have hR : zq_fr (zf X zw_X12_summedBy (fun _ => False)) I I := zq_fr.rf
  have hl := lv_entry ([.ref h0, .int p1]) (n := 4) (by exact Nat.le_of_ble_eq_true rfl)
  have hg : entryFrame m args 4 = F0 m 0 ((lg_sl ([.ref h0, .int p1]) ++ List.replicate (4 - (lg_sl ([.ref h0, .int p1])).length) Slot.unset).toArray) [] := by rw [hargs]; exact lg_entry_eq m ([.ref h0, .int p1]) 4
  rw [hg]
  clear hg hargs
  generalize (lg_sl ([.ref h0, .int p1]) ++ List.replicate (4 - (lg_sl ([.ref h0, .int p1])).length) Slot.unset).toArray = ls at hl ⊢
  have hl : lv_has ls 4 [(0, .ref h0), (1, .int p1)] := by exact hl
  obtain ⟨R, hRm⟩ : ∃ R : Room, R = (headSpec (zt_w yX12_summedBy cX12_summedBy 4 (some .long)) (zq_rm (2))).room := ⟨_, rfl⟩
  rw [← hRm]
  have hro : ∀ d q : Nat, d + 1 ≤ 2 → q ≤ 45 → zq_rok d q R := fun d q h1 h2 => by rw [hRm]; exact zq_rokI h1 h2
  generalize hQ : MQ below _ args s 0 0 (zq_A X) = Q
  obtain ⟨H, hH⟩ : ∃ H, H = s.heap := ⟨_, rfl⟩
  obtain ⟨locs, hlo⟩ : ∃ x : List Loc, x = [] := ⟨_, rfl⟩
  rw [show W p l e R s m args below meth c s.heap [] 0 0 Q = W p l e R s m args below meth c H locs 0 0 Q by rw [hH, hlo]]
  have hM : zq_hm X (zk, zn) I H := by rw [hH]; exact hM
  have hS : va_S (zq_A X) s.heap H locs := by rw [hH, hlo]; exact hS
  clear hH hlo
  refine lv_iconst (v := 0) hx hb dX12_summedBy_0 (by decide +kernel) ?_
  refine lv_istore_n (lv' := [(2, .int (0 : Int32)), (0, .ref h0), (1, .int p1)]) hx hb dX12_summedBy_1 rfl hl (by decide) rfl (fun ls hl => ?_)
  have J2 : ∀ (n248 : Nat) (I246 : zq_M) (H : Heap) (locs : List Loc) (ls : Array Slot) (j245 : Int32), 12 + 1 - j245.toInt ≤ ((n248 : Nat) : Int) → (zq_hm X (zk, zn) I246 H) → (va_S (zq_A X) s.heap H locs) → (zq_fr (zf X zw_X12_summedBy (fun _ => False)) I I246) → (0 ≤ j245.toInt ∧ j245.toInt ≤ 12) → (zWF X I246 h0) → (lv_has ls 4 [(2, .int j245), (0, .ref h0), (1, .int p1)]) → W p l e R s m args below meth c H locs 0 0 Q (F0 m 2 ls []) := by
    intro n248
    induction n248 with
    | zero => intro I246 H locs ls j245 mu249 hM hS hR gj245 F247 hl; exfalso; have := zi_rng j245; omega
    | succ n248 ih2 =>
      intro I246 H locs ls j245 mu249 hM hS hR gj245 F247 hl
      refine lv_iload_n hx hb dX12_summedBy_2 rfl (lv_at hl 0 rfl) ?_
      refine lv_aload_n hx hb dX12_summedBy_3 rfl (lv_at hl 1 rfl) ?_
      refine zq_getr E hM k_h0 (zFX12_23 E hZ) ⟨by decide, by decide, by decide, rfl⟩ dX12_summedBy_4 ?_
      have k250 : zq_k X (zq_r X h0 6) = 54 := zq_lk L.1 k_h0 rfl (by decide)
      refine lv_iload_n hx hb dX12_summedBy_7 rfl (lv_at hl 2 rfl) ?_
      refine zq_ian (n := 6) (j := (p1.toNatClampNeg)) E hZ hM k250 ⟨by decide, rfl⟩ ⟨by omega, by omega⟩ rfl dX12_summedBy_8 (fun x251 ex251 gx251 => ?_)
      replace gx251 : 0 ≤ x251.toInt ∧ x251.toInt ≤ 12 := gx251
      refine lv_icmp_ge (tgt := 84) hx hb dX12_summedBy_9 (by decide) (fun b252 => ?_) (fun b252 => ?_)
      · have b252 := zi_le b252 (rfl : x251.toInt = x251.toInt) (rfl : j245.toInt = j245.toInt)
        refine lv_lconst (v := 0) hx hb dX12_summedBy_84 (by decide +kernel) ?_
        subst hQ
        exact zq_lret E hr hZ hM hS hR hlocks dX12_summedBy_85
      · have b252 := zi_nle b252 (rfl : x251.toInt = x251.toInt) (rfl : j245.toInt = j245.toInt)
        obtain ⟨b9, e9, t9, f9, hb9, he9, ht9, hf9, gb9, ge9, gf9, gt9, hr9, hr8⟩ := F247 p1.toNatClampNeg (by have := zq_cl (i := p1) (by omega); omega) j245.toNatClampNeg (by have := zq_cl (i := j245) (by omega); rw [ex251]; omega)
        refine lv_bipush (v := 48) hx hb dX12_summedBy_12 (by decide +kernel) ?_
        refine lv_iload_n hx hb dX12_summedBy_14 rfl (lv_at hl 2 rfl) ?_
        refine lv_imul hx hb dX12_summedBy_15 ?_
        refine lv_topi (fun x253 ex253 => ?_)
        have tx253 := zi_mul ex253 (zl_48 : (48 : Int32).toInt = 48) (rfl : p1.toInt = p1.toInt) ⟨by omega, by omega⟩
        refine lv_iconst (v := 4) hx hb dX12_summedBy_16 (by decide +kernel) ?_
        refine lv_iload_n hx hb dX12_summedBy_17 rfl (lv_at hl 0 rfl) ?_
        refine lv_imul hx hb dX12_summedBy_18 ?_
        refine lv_topi (fun x254 ex254 => ?_)
        have tx254 := zi_mul ex254 (zl_4 : (4 : Int32).toInt = 4) (rfl : j245.toInt = j245.toInt) ⟨by omega, by omega⟩
        refine lv_iadd hx hb dX12_summedBy_19 ?_
        refine lv_topi (fun x255 ex255 => ?_)
        have tx255 := zi_add ex255 (rfl : x253.toInt = x253.toInt) (rfl : x254.toInt = x254.toInt) ⟨by omega, by omega⟩
        refine lv_istore_n (lv' := [(3, .int x255), (2, .int j245), (0, .ref h0), (1, .int p1)]) hx hb dX12_summedBy_20 rfl hl (by decide) rfl (fun ls hl => ?_)
        refine lv_aload_n hx hb dX12_summedBy_21 rfl (lv_at hl 2 rfl) ?_
        refine W.eq (g2 := F0 m 22 ls [.ref h0]) rfl ?_
        refine zq_getr E hM k_h0 (zFX12_20 E hZ) ⟨by decide, by decide, by decide, rfl⟩ dX12_summedBy_22 ?_
        have k256 : zq_k X (zq_r X h0 5) = 53 := zq_lk L.1 k_h0 rfl (by decide)
        refine lv_iload_n hx hb dX12_summedBy_25 rfl (lv_at hl 0 rfl) ?_
        refine lv_iconst (v := 2) hx hb dX12_summedBy_26 (by decide +kernel) ?_
        refine lv_iadd hx hb dX12_summedBy_27 ?_
        refine lv_topi (fun x257 ex257 => ?_)
        have tx257 := zi_add ex257 (rfl : x255.toInt = x255.toInt) (zl_2 : (2 : Int32).toInt = 2) ⟨by omega, by omega⟩
        refine zq_ian (n := 288) (j := (x257.toNatClampNeg)) E hZ hM k256 ⟨by decide, rfl⟩ ⟨by omega, by omega⟩ rfl dX12_summedBy_28 (fun x258 ex258 gx258 => ?_)
        clear gx258
        have hqx258 : x258 = t9 := by
          have h1 := zq_cl (i := p1) (by omega); have h2 := zq_cl (i := j245) (by omega); have h3 := zq_cl (i := x257) (by omega)
          rw [← ex258, ← ht9, show 48 * p1.toNatClampNeg + 4 * j245.toNatClampNeg + 2 = x257.toNatClampNeg by omega]
        have := congrArg Int32.toInt hqx258
        have J58 : ∀ (I272 : zq_M) (H : Heap) (locs : List Loc) (ls : Array Slot), (zq_hm X (zk, zn) I272 H) → (va_S (zq_A X) s.heap H locs) → (zq_fr (zf X zw_X12_summedBy (fun _ => False)) I I272) → (zWF X I272 h0) → (j245.toInt < (I272 (zq_r X h0 6) p1.toNatClampNeg).toInt) → (lv_has ls 4 [(3, .int x255), (2, .int j245), (0, .ref h0), (1, .int p1)]) → W p l e R s m args below meth c H locs 0 0 Q (F0 m 58 ls []) := by
          intro I272 H locs ls hM hS hR F273 hi58 hl
          obtain ⟨b9, e9, t9, f9, hb9, he9, ht9, hf9, gb9, ge9, gf9, gt9, hr9, hr8⟩ := F273 p1.toNatClampNeg (by have := zq_cl (i := p1) (by omega); omega) j245.toNatClampNeg (by have := zq_cl (i := j245) (by omega); omega)
          refine lv_aload_n hx hb dX12_summedBy_58 rfl (lv_at hl 2 rfl) ?_
          refine lv_iload_n hx hb dX12_summedBy_59 rfl (lv_at hl 3 rfl) ?_
          refine lv_aload_n hx hb dX12_summedBy_60 rfl (lv_at hl 2 rfl) ?_
          refine zq_getr E hM k_h0 (zFX12_20 E hZ) ⟨by decide, by decide, by decide, rfl⟩ dX12_summedBy_61 ?_
          have k284 : zq_k X (zq_r X h0 5) = 53 := zq_lk L.1 k_h0 rfl (by decide)
          refine lv_iload_n hx hb dX12_summedBy_64 rfl (lv_at hl 0 rfl) ?_
          refine zq_ian (n := 288) (j := (x255.toNatClampNeg)) E hZ hM k284 ⟨by decide, rfl⟩ ⟨by omega, by omega⟩ rfl dX12_summedBy_65 (fun x285 ex285 gx285 => ?_)
          clear gx285
          have hqx285 : x285 = b9 := by
            have h1 := zq_cl (i := p1) (by omega); have h2 := zq_cl (i := j245) (by omega); have h3 := zq_cl (i := x255) (by omega)
            rw [← ex285, ← hb9, show 48 * p1.toNatClampNeg + 4 * j245.toNatClampNeg = x255.toNatClampNeg by omega]
          have := congrArg Int32.toInt hqx285
          refine lv_aload_n hx hb dX12_summedBy_66 rfl (lv_at hl 2 rfl) ?_
          refine zq_getr E hM k_h0 (zFX12_20 E hZ) ⟨by decide, by decide, by decide, rfl⟩ dX12_summedBy_67 ?_
          have k286 : zq_k X (zq_r X h0 5) = 53 := zq_lk L.1 k_h0 rfl (by decide)
          refine lv_iload_n hx hb dX12_summedBy_70 rfl (lv_at hl 0 rfl) ?_
          refine W.eq (g2 := F0 m 71 ls [.int x255, .ref (zq_r X h0 5), .int x285, .int p1, .ref h0]) rfl ?_
          refine lv_iconst (v := 1) hx hb dX12_summedBy_71 (by decide +kernel) ?_
          refine lv_iadd hx hb dX12_summedBy_72 ?_
          refine lv_topi (fun x287 ex287 => ?_)
          have tx287 := zi_add ex287 (rfl : x255.toInt = x255.toInt) (zl_1 : (1 : Int32).toInt = 1) ⟨by omega, by omega⟩
          refine zq_ian (n := 288) (j := (x287.toNatClampNeg)) E hZ hM k286 ⟨by decide, rfl⟩ ⟨by omega, by omega⟩ rfl dX12_summedBy_73 (fun x288 ex288 gx288 => ?_)
          clear gx288
          have hqx288 : x288 = e9 := by
            have h1 := zq_cl (i := p1) (by omega); have h2 := zq_cl (i := j245) (by omega); have h3 := zq_cl (i := x287) (by omega)
            rw [← ex288, ← he9, show 48 * p1.toNatClampNeg + 4 * j245.toNatClampNeg + 1 = x287.toNatClampNeg by omega]
          have := congrArg Int32.toInt hqx288
          refine zq_calll (zq_rV (As := [.int p1, .int x285, .int x288]) (rest := []) E hZ hM k_h0 (c_X12_reckons l X zk (zn) I272 L h0 k_h0 p1 x285 x288 ⟨by omega, by omega⟩ ⟨by omega, by omega⟩ ⟨by omega, by omega⟩ (by omega) (by rw [hqx285, hqx288]; first | exact hr9 | exact (hr8.resolve_left (by omega)).2)) zmX12_317 zM_X12_reckons (hro (1) 11 (by first | decide | omega) (by decide)) ⟨by decide, by decide⟩ rfl hl.1 rfl rfl (Nat.le_of_ble_eq_true rfl) dX12_summedBy_74) hS (fun y290 I291 H locs h289 hM hS => ?_)
          have fr292 := h289
          have hR := zq_fr.call hR fr292 (zf_sub (by decide +kernel) (fun _ _ q => q.elim))
          have hWF293 := zWF.fr F273 L k_h0 fr292 (by decide)
          subst hQ
          exact zq_lret E hr hZ hM hS hR hlocks dX12_summedBy_77
        refine lv_if_lt (tgt := 58) hx hb dX12_summedBy_29 (by decide) (fun b294 => ?_) (fun b294 => ?_)
        · have b294 := zi_lt b294 (rfl : x258.toInt = x258.toInt) (zl_0 : (0 : Int32).toInt = 0)
          exact J58 I246 H locs ls hM hS hR F247 (by rw [ex251]; omega) (lv_sub hl [0, 1, 2, 3] rfl)
        · have b294 := zi_nlt b294 (rfl : x258.toInt = x258.toInt) (zl_0 : (0 : Int32).toInt = 0)
          refine lv_aload_n hx hb dX12_summedBy_32 rfl (lv_at hl 2 rfl) ?_
          refine lv_iload_n hx hb dX12_summedBy_33 rfl (lv_at hl 3 rfl) ?_
          refine lv_aload_n hx hb dX12_summedBy_34 rfl (lv_at hl 2 rfl) ?_
          refine zq_getr E hM k_h0 (zFX12_20 E hZ) ⟨by decide, by decide, by decide, rfl⟩ dX12_summedBy_35 ?_
          have k295 : zq_k X (zq_r X h0 5) = 53 := zq_lk L.1 k_h0 rfl (by decide)
          refine lv_iload_n hx hb dX12_summedBy_38 rfl (lv_at hl 0 rfl) ?_
          refine lv_iconst (v := 2) hx hb dX12_summedBy_39 (by decide +kernel) ?_
          refine lv_iadd hx hb dX12_summedBy_40 ?_
          refine lv_topi (fun x296 ex296 => ?_)
          have tx296 := zi_add ex296 (rfl : x255.toInt = x255.toInt) (zl_2 : (2 : Int32).toInt = 2) ⟨by omega, by omega⟩
          refine zq_ian (n := 288) (j := (x296.toNatClampNeg)) E hZ hM k295 ⟨by decide, rfl⟩ ⟨by omega, by omega⟩ rfl dX12_summedBy_41 (fun x297 ex297 gx297 => ?_)
          clear gx297
          have hqx297 : x297 = t9 := by
            have h1 := zq_cl (i := p1) (by omega); have h2 := zq_cl (i := j245) (by omega); have h3 := zq_cl (i := x296) (by omega)
            rw [← ex297, ← ht9, show 48 * p1.toNatClampNeg + 4 * j245.toNatClampNeg + 2 = x296.toNatClampNeg by omega]
          have := congrArg Int32.toInt hqx297
          refine lv_aload_n hx hb dX12_summedBy_42 rfl (lv_at hl 2 rfl) ?_
          refine W.eq (g2 := F0 m 43 ls [.ref h0, .int x297, .int p1, .ref h0]) rfl ?_
          refine zq_getr E hM k_h0 (zFX12_20 E hZ) ⟨by decide, by decide, by decide, rfl⟩ dX12_summedBy_43 ?_
          have k298 : zq_k X (zq_r X h0 5) = 53 := zq_lk L.1 k_h0 rfl (by decide)
          refine lv_iload_n hx hb dX12_summedBy_46 rfl (lv_at hl 0 rfl) ?_
          refine lv_iconst (v := 3) hx hb dX12_summedBy_47 (by decide +kernel) ?_
          refine lv_iadd hx hb dX12_summedBy_48 ?_
          refine lv_topi (fun x299 ex299 => ?_)
          have tx299 := zi_add ex299 (rfl : x255.toInt = x255.toInt) (zl_3 : (3 : Int32).toInt = 3) ⟨by omega, by omega⟩
          refine zq_ian (n := 288) (j := (x299.toNatClampNeg)) E hZ hM k298 ⟨by decide, rfl⟩ ⟨by omega, by omega⟩ rfl dX12_summedBy_49 (fun x300 ex300 gx300 => ?_)
          clear gx300
          have hqx300 : x300 = f9 := by
            have h1 := zq_cl (i := p1) (by omega); have h2 := zq_cl (i := j245) (by omega); have h3 := zq_cl (i := x299) (by omega)
            rw [← ex300, ← hf9, show 48 * p1.toNatClampNeg + 4 * j245.toNatClampNeg + 3 = x299.toNatClampNeg by omega]
          have := congrArg Int32.toInt hqx300
          refine zq_calll (zq_rV (As := [.int p1, .int x297, .int x300]) (rest := []) E hZ hM k_h0 (c_X12_reckons l X zk (zn) I246 L h0 k_h0 p1 x297 x300 ⟨by omega, by omega⟩ ⟨by have := zi_rng x297; omega, by have := zi_rng x297; omega⟩ ⟨by omega, by omega⟩ (by have := zi_rng x297; omega) (by rw [hqx297, hqx300]; first | exact hr9 | exact (hr8.resolve_left (by omega)).2)) zmX12_317 zM_X12_reckons (hro (1) 11 (by first | decide | omega) (by decide)) ⟨by decide, by decide⟩ rfl hl.1 rfl rfl (Nat.le_of_ble_eq_true rfl) dX12_summedBy_50) hS (fun y302 I303 H locs h301 hM hS => ?_)
          have fr304 := h301
          have hR := zq_fr.call hR fr304 (zf_sub (by decide +kernel) (fun _ _ q => q.elim))
          have hWF305 := zWF.fr F247 L k_h0 fr304 (by decide)
          refine lv_lconst (v := 1) hx hb dX12_summedBy_53 (by decide +kernel) ?_
          refine zq_lcmp hx hb dX12_summedBy_54 (fun x306 hx306 => ?_)
          rw [show (1 : Int64).toInt = 1 from by decide +kernel] at hx306
          refine lv_if_ne (tgt := 78) hx hb dX12_summedBy_55 (by decide) (fun b307 => ?_) (fun b307 => ?_)
          · have b307 := zi_ne b307 (rfl : x306.toInt = x306.toInt) (zl_0 : (0 : Int32).toInt = 0)
            obtain ⟨x308, ex308⟩ : ∃ y : Int32, y = j245 + 1 := ⟨_, rfl⟩
            have tx308 := zi_add ex308 (rfl : j245.toInt = j245.toInt) zl_1 ⟨by omega, by omega⟩
            refine lv_iinc (v := x308) (lv' := [(2, .int x308), (3, .int x255), (0, .ref h0), (1, .int p1)]) hx hb dX12_summedBy_78 hl (k := 1) rfl (by rw [ex308]; rfl) (by decide) rfl (fun ls hl => ?_)
            refine lv_goto (tgt := 2) hx hb dX12_summedBy_81 (by decide) ?_
            exact ih2 I303 H locs ls x308 (by omega) hM hS hR (⟨by omega, by omega⟩) hWF305 (lv_sub hl [0, 2, 3] rfl)
          · have b307 := zi_eq b307 (rfl : x306.toInt = x306.toInt) (zl_0 : (0 : Int32).toInt = 0)
            exact J58 I303 H locs ls hM hS hR hWF305 (by rw [(zq_fr.kp fr304 (zf_n (zq_lk L.1 k_h0 rfl (by decide) : zq_k X (zq_r X h0 6) = 54) rfl) ex251)]; omega) (lv_sub hl [0, 1, 2, 3] rfl)
  exact J2 (12 + 1 - (0 : Int32).toInt).toNat I H locs ls (0 : Int32) (by omega) hM hS hR (by rw [zl_0]; decide) q_1 (lv_sub hl [0, 1, 2] rfl)
def zw_X12_sailsBy : List (Nat × Nat) := [(10, 18), (59, 999)]
set_option maxHeartbeats 8000000 in
set_option maxRecDepth 100000 in
theorem c_X12_sailsBy (l : Launch) (X : zq_X) (zk zn : Nat) (I : zq_M) (L : zq_L X)  (h0 : Nat) (k_h0 : zq_k X h0 = 10) (p1 : Int32) (g_p1 : 0 ≤ p1.toInt ∧ p1.toInt ≤ 2) (q_0 : zk ≤ 4400 ∧ zn ≤ 4400) (q_1 : zWF X I h0) (q_2 : 0 ≤ (I h0 21).toInt) : Met l yX12_sailsBy (zt_w yX12_sailsBy cX12_sailsBy 8 none) (zq_rm (3)) (va_Pc [.ref h0, .int p1] (zq_W X (zk, zn) I)) (va_Qv (fun I2 => zq_fr (zf X zw_X12_sailsBy (fun _ => False)) I I2) (zq_E X (zk, zn)) (zq_A X)) 0 0 (zq_A X) := by
  refine Met.ofW (cc := cX12_sailsBy) (maxL := 8) (ret := none) (by decide) rfl ?_
  intro p e s m args below meth c s₁ B hml hv
  obtain ⟨hargs, hM, hZ⟩ := hv
  have hown : s.vm.findClass RX12 = some m.cls := findClass_of_methodNamed B.named
  have hts := atoms_spec (ws := zt_w yX12_sailsBy cX12_sailsBy 8 none) B.pre
  have E : CallFix p m c cX12_sailsBy 8 s args (Cond.code yX12_sailsBy cX12_sailsBy 8 none :: zt) RX12 := ⟨B.exec, B.bytes, hml, hown, hts⟩
  have hx := B.exec
  have hb := B.bytes
  have hr := B.returns
  have hlocks := B.notSynchronized
  clear B
  have hS : va_S (zq_A X) s.heap s.heap [] := va_S.rf
  have hR : zq_fr (zf X zw_X12_sailsBy (fun _ => False)) I I := zq_fr.rf
  have hl := lv_entry ([.ref h0, .int p1]) (n := 8) (by exact Nat.le_of_ble_eq_true rfl)
  have hg : entryFrame m args 8 = F0 m 0 ((lg_sl ([.ref h0, .int p1]) ++ List.replicate (8 - (lg_sl ([.ref h0, .int p1])).length) Slot.unset).toArray) [] := by rw [hargs]; exact lg_entry_eq m ([.ref h0, .int p1]) 8
  rw [hg]
  clear hg hargs
  generalize (lg_sl ([.ref h0, .int p1]) ++ List.replicate (8 - (lg_sl ([.ref h0, .int p1])).length) Slot.unset).toArray = ls at hl ⊢
  have hl : lv_has ls 8 [(0, .ref h0), (1, .int p1)] := by exact hl
  obtain ⟨R, hRm⟩ : ∃ R : Room, R = (headSpec (zt_w yX12_sailsBy cX12_sailsBy 8 none) (zq_rm (3))).room := ⟨_, rfl⟩
  rw [← hRm]
  have hro : ∀ d q : Nat, d + 1 ≤ 3 → q ≤ 45 → zq_rok d q R := fun d q h1 h2 => by rw [hRm]; exact zq_rokI h1 h2
  generalize hQ : MQ below _ args s 0 0 (zq_A X) = Q
  obtain ⟨H, hH⟩ : ∃ H, H = s.heap := ⟨_, rfl⟩
  obtain ⟨locs, hlo⟩ : ∃ x : List Loc, x = [] := ⟨_, rfl⟩
  rw [show W p l e R s m args below meth c s.heap [] 0 0 Q = W p l e R s m args below meth c H locs 0 0 Q by rw [hH, hlo]]
  have hM : zq_hm X (zk, zn) I H := by rw [hH]; exact hM
  have hS : va_S (zq_A X) s.heap H locs := by rw [hH, hlo]; exact hS
  clear hH hlo
  have hF9 : I h0 21 = I h0 21 := rfl
  refine lv_iconst (v := (-1)) hx hb dX12_sailsBy_0 (by decide +kernel) ?_
  refine lv_istore_n (lv' := [(2, .int (-1 : Int32)), (0, .ref h0), (1, .int p1)]) hx hb dX12_sailsBy_1 rfl hl (by decide) rfl (fun ls hl => ?_)
  refine lv_lconst (v := 0) hx hb dX12_sailsBy_2 (by decide +kernel) ?_
  refine lv_lstore_n (lv' := [(3, .long (0 : Int64)), (2, .int (-1 : Int32)), (0, .ref h0), (1, .int p1)]) hx hb dX12_sailsBy_3 rfl hl (by decide) rfl (fun ls hl => ?_)
  refine lv_iconst (v := 0) hx hb dX12_sailsBy_4 (by decide +kernel) ?_
  refine lv_istore (lv' := [(5, .int (0 : Int32)), (3, .long (0 : Int64)), (2, .int (-1 : Int32)), (0, .ref h0), (1, .int p1)]) hx hb dX12_sailsBy_5 hl (by decide) rfl (fun ls hl => ?_)
  have J7 : ∀ (n248 : Nat) (I245 : zq_M) (H : Heap) (locs : List Loc) (ls : Array Slot) (j242 : Int32) (jl243 : Int64) (j244 : Int32), 4 + 1 - j242.toInt ≤ ((n248 : Nat) : Int) → (zq_hm X (zk, zn) I245 H) → (va_S (zq_A X) s.heap H locs) → (zq_fr (zf X zw_X12_sailsBy (fun _ => False)) I I245) → (0 ≤ j242.toInt ∧ j242.toInt ≤ 4) → (0 ≤ jl243.toInt) → ((-1) ≤ j244.toInt ∧ j244.toInt ≤ 3) → (zWF X I245 h0) → (I245 h0 21 = I h0 21) → (lv_has ls 8 [(5, .int j242), (3, .long jl243), (2, .int j244), (0, .ref h0), (1, .int p1)]) → W p l e R s m args below meth c H locs 0 0 Q (F0 m 7 ls []) := by
    intro n248
    induction n248 with
    | zero => intro I245 H locs ls j242 jl243 j244 mu249 hM hS hR gj242 gjl243 gj244 F246 F247 hl; exfalso; have := zi_rng j242; omega
    | succ n248 ih7 =>
      intro I245 H locs ls j242 jl243 j244 mu249 hM hS hR gj242 gjl243 gj244 F246 F247 hl
      refine lv_iload hx hb dX12_sailsBy_7 (lv_at hl 0 rfl) ?_
      refine lv_aload_n hx hb dX12_sailsBy_9 rfl (lv_at hl 3 rfl) ?_
      refine zq_getr E hM k_h0 (zFX12_39 E hZ) ⟨by decide, by decide, by decide, rfl⟩ dX12_sailsBy_10 ?_
      have k250 : zq_k X (zq_r X h0 20) = 59 := zq_lk L.1 k_h0 rfl (by decide)
      refine lv_iconst (v := 3) hx hb dX12_sailsBy_13 (by decide +kernel) ?_
      refine zq_ian (n := 106) (j := 3) E hZ hM k250 ⟨by decide, rfl⟩ (by rw [zl_3]; decide) (by decide +kernel) dX12_sailsBy_14 (fun x251 ex251 gx251 => ?_)
      replace gx251 : 0 ≤ x251.toInt ∧ x251.toInt ≤ 4 := gx251
      refine lv_icmp_ge (tgt := 57) hx hb dX12_sailsBy_15 (by decide) (fun b252 => ?_) (fun b252 => ?_)
      · have b252 := zi_le b252 (rfl : x251.toInt = x251.toInt) (rfl : j242.toInt = j242.toInt)
        refine lv_iload_n hx hb dX12_sailsBy_57 rfl (lv_at hl 2 rfl) ?_
        refine lv_if_ge (tgt := 62) hx hb dX12_sailsBy_58 (by decide) (fun b253 => ?_) (fun b253 => ?_)
        · have b253 := zi_le b253 (zl_0 : (0 : Int32).toInt = 0) (rfl : j244.toInt = j244.toInt)
          refine lv_aload_n hx hb dX12_sailsBy_62 rfl (lv_at hl 3 rfl) ?_
          refine lv_iload_n hx hb dX12_sailsBy_63 rfl (lv_at hl 4 rfl) ?_
          refine zq_pcalli (zq_rV (As := [.int p1]) (rest := []) E hZ hM k_h0 (c_X12_mostFor l X zk (zn) I245 L h0 k_h0 p1 ⟨by omega, by omega⟩ (by omega)) zmX12_331 zM_X12_mostFor (hro (1) 4 (by first | decide | omega) (by decide)) ⟨by decide, by decide⟩ rfl hl.1 rfl rfl (Nat.le_of_ble_eq_true rfl) dX12_sailsBy_64) hS (fun x255 H locs h254 hM hS => ?_)
          obtain ⟨p256, p257, p258⟩ := h254
          have := zi_rng x255
          refine lv_istore (lv' := [(5, .int x255), (3, .long jl243), (2, .int j244), (0, .ref h0), (1, .int p1)]) hx hb dX12_sailsBy_67 hl (by decide) rfl (fun ls hl => ?_)
          refine lv_lload_n hx hb dX12_sailsBy_69 rfl (lv_at hl 1 rfl) ?_
          refine lv_iload hx hb dX12_sailsBy_70 (lv_at hl 0 rfl) ?_
          refine lv_i2l hx hb dX12_sailsBy_72 rfl ?_
          refine lv_topl (fun y259 ey259 => ?_)
          have ty259 := zi_i2l ey259
          have := zi_rng x255
          refine zq_lcmp hx hb dX12_sailsBy_73 (fun x260 hx260 => ?_)
          have J81 : ∀ (ls : Array Slot) (j262 : Int32), (j262.toInt ≤ 99) → (lv_has ls 8 [(5, .int j262), (3, .long jl243), (2, .int j244), (0, .ref h0), (1, .int p1)]) → W p l e R s m args below meth c H locs 0 0 Q (F0 m 81 ls []) := by
            intro ls j262 gj262 hl
            have := zi_rng j262
            refine lv_iload hx hb dX12_sailsBy_81 (lv_at hl 0 rfl) ?_
            refine lv_if_le (tgt := 95) hx hb dX12_sailsBy_83 (by decide) (fun b269 => ?_) (fun b269 => ?_)
            · have b269 := zi_le b269 (rfl : j262.toInt = j262.toInt) (zl_0 : (0 : Int32).toInt = 0)
              subst hQ
              exact zq_vret E hr hZ hM hS hR hlocks dX12_sailsBy_95
            · have b269 := zi_nle b269 (rfl : j262.toInt = j262.toInt) (zl_0 : (0 : Int32).toInt = 0)
              refine lv_aload_n hx hb dX12_sailsBy_86 rfl (lv_at hl 3 rfl) ?_
              refine lv_iload_n hx hb dX12_sailsBy_87 rfl (lv_at hl 4 rfl) ?_
              refine lv_iload_n hx hb dX12_sailsBy_88 rfl (lv_at hl 2 rfl) ?_
              refine lv_iload hx hb dX12_sailsBy_89 (lv_at hl 0 rfl) ?_
              refine lv_iconst (v := 0) hx hb dX12_sailsBy_91 (by decide +kernel) ?_
              refine zq_callv (zq_rV (As := [.int p1, .int j244, .int j262, .int (0 : Int32)]) (rest := []) E hZ hM k_h0 (c_X12_sails l X zk (zn) I245 L h0 k_h0 p1 j244 j262 (0 : Int32) ⟨by omega, by omega⟩ ⟨by omega, by omega⟩ ⟨by omega, by omega⟩ (by rw [zl_0]; decide) (by have := zl_0; omega)) zmX12_334 zM_X12_sails (hro (1) 6 (by first | decide | omega) (by decide)) ⟨by decide, by decide⟩ rfl hl.1 rfl rfl (Nat.le_of_ble_eq_true rfl) dX12_sailsBy_92) hS (fun I272 H locs h270 hM hS => ?_)
              have fr273 := h270
              have := zl_0
              have hR := zq_fr.call hR fr273 (zf_sub (by decide +kernel) (fun _ _ q => q.elim))
              have hWF274 := zWF.fr F246 L k_h0 fr273 (by decide)
              have hK275 := (zq_fr.kp fr273 (zf_n k_h0 rfl) F247)
              subst hQ
              exact zq_vret E hr hZ hM hS hR hlocks dX12_sailsBy_95
          refine lv_if_ge (tgt := 81) hx hb dX12_sailsBy_74 (by decide) (fun b276 => ?_) (fun b276 => ?_)
          · have b276 := zi_le b276 (zl_0 : (0 : Int32).toInt = 0) (rfl : x260.toInt = x260.toInt)
            exact J81 ls x255 (by have := zi_rng x255; omega) (lv_sub hl [0, 1, 2, 3, 4] rfl)
          · have b276 := zi_nle b276 (zl_0 : (0 : Int32).toInt = 0) (rfl : x260.toInt = x260.toInt)
            refine lv_lload_n hx hb dX12_sailsBy_77 rfl (lv_at hl 1 rfl) ?_
            refine lv_l2i hx hb dX12_sailsBy_78 rfl ?_
            refine lv_topi (fun x277 ex277 => ?_)
            have tx277 := zi_l2i ex277 ⟨by omega, by omega⟩
            refine lv_istore (lv' := [(5, .int x277), (3, .long jl243), (2, .int j244), (0, .ref h0), (1, .int p1)]) hx hb dX12_sailsBy_79 hl (by decide) rfl (fun ls hl => ?_)
            exact J81 ls x277 (by omega) (lv_sub hl [0, 1, 2, 3, 4] rfl)
        · have b253 := zi_nle b253 (zl_0 : (0 : Int32).toInt = 0) (rfl : j244.toInt = j244.toInt)
          subst hQ
          exact zq_vret E hr hZ hM hS hR hlocks dX12_sailsBy_61
      · have b252 := zi_nle b252 (rfl : x251.toInt = x251.toInt) (rfl : j242.toInt = j242.toInt)
        refine lv_aload_n hx hb dX12_sailsBy_18 rfl (lv_at hl 3 rfl) ?_
        refine lv_iload_n hx hb dX12_sailsBy_19 rfl (lv_at hl 4 rfl) ?_
        refine lv_iload hx hb dX12_sailsBy_20 (lv_at hl 0 rfl) ?_
        refine zq_callv (zq_rV (As := [.int p1, .int j242]) (rest := []) E hZ hM k_h0 (c_X12_words l X zk (zn) I245 L h0 k_h0 p1 j242 ⟨by omega, by omega⟩ ⟨by omega, by omega⟩ (by omega)) zmX12_324 zM_X12_words (hro (2) 3 (by first | decide | omega) (by decide)) ⟨by decide, by decide⟩ rfl hl.1 rfl rfl (Nat.le_of_ble_eq_true rfl) dX12_sailsBy_22) hS (fun I280 H locs h278 hM hS => ?_)
        obtain ⟨fr281, p282⟩ := h278
        rw [fr281] at hM
        refine lv_aload_n hx hb dX12_sailsBy_25 rfl (lv_at hl 3 rfl) ?_
        refine lv_aload_n hx hb dX12_sailsBy_26 rfl (lv_at hl 3 rfl) ?_
        refine zq_gn E hM k_h0 (zFX12_42 E hZ) (Or.inl ⟨by decide, by decide, by decide, rfl⟩) dX12_sailsBy_27 (fun x283 ex283 gx283 => ?_)
        replace gx283 : (-1) ≤ x283.toInt ∧ x283.toInt ≤ 5 := gx283
        have := congrArg Int32.toInt (F247.symm.trans ex283)
        refine zq_calll (zq_rV (As := [.int x283]) (rest := []) E hZ hM k_h0 (c_X12_summedBy l X zk (zn) I245 L h0 k_h0 x283 ⟨by omega, by omega⟩ (by omega) (F246)) zmX12_327 zM_X12_summedBy (hro (2) 4 (by first | decide | omega) (by decide)) ⟨by decide, by decide⟩ rfl hl.1 rfl rfl (Nat.le_of_ble_eq_true rfl) dX12_sailsBy_30) hS (fun y285 I286 H locs h284 hM hS => ?_)
        have fr287 := h284
        have hR := zq_fr.call hR fr287 (zf_sub (by decide +kernel) (fun _ _ q => q.elim))
        have hWF288 := zWF.fr F246 L k_h0 fr287 (by decide)
        have hK289 := (zq_fr.kp fr287 (zf_n k_h0 rfl) F247)
        refine lv_lstore (lv' := [(6, .long y285), (5, .int j242), (3, .long jl243), (2, .int j244), (0, .ref h0), (1, .int p1)]) hx hb dX12_sailsBy_33 hl (by decide) rfl (fun ls hl => ?_)
        refine W.eq (g2 := F0 m 35 ls []) rfl ?_
        refine lv_lload hx hb dX12_sailsBy_35 (lv_at hl 0 rfl) ?_
        refine lv_lload_n hx hb dX12_sailsBy_37 rfl (lv_at hl 2 rfl) ?_
        refine zq_lcmp hx hb dX12_sailsBy_38 (fun x290 hx290 => ?_)
        have J51 : ∀ (ls : Array Slot) (jl291 : Int64) (j292 : Int32), (0 ≤ jl291.toInt) → ((-1) ≤ j292.toInt ∧ j292.toInt ≤ 3) → (lv_has ls 8 [(3, .long jl291), (2, .int j292), (6, .long y285), (5, .int j242), (0, .ref h0), (1, .int p1)]) → W p l e R s m args below meth c H locs 0 0 Q (F0 m 51 ls []) := by
          intro ls jl291 j292 gjl291 gj292 hl
          obtain ⟨x294, ex294⟩ : ∃ y : Int32, y = j242 + 1 := ⟨_, rfl⟩
          have tx294 := zi_add ex294 (rfl : j242.toInt = j242.toInt) zl_1 ⟨by omega, by omega⟩
          refine lv_iinc (v := x294) (lv' := [(5, .int x294), (3, .long jl291), (2, .int j292), (6, .long y285), (0, .ref h0), (1, .int p1)]) hx hb dX12_sailsBy_51 hl (k := 3) rfl (by rw [ex294]; rfl) (by decide) rfl (fun ls hl => ?_)
          refine lv_goto (tgt := 7) hx hb dX12_sailsBy_54 (by decide) ?_
          exact ih7 I286 H locs ls x294 jl291 j292 (by omega) hM hS hR (⟨by omega, by omega⟩) (by omega) (⟨by omega, by omega⟩) hWF288 hK289 (lv_sub hl [0, 1, 2, 4, 5] rfl)
        refine lv_if_gt (tgt := 45) hx hb dX12_sailsBy_39 (by decide) (fun b295 => ?_) (fun b295 => ?_)
        · have b295 := zi_lt b295 (zl_0 : (0 : Int32).toInt = 0) (rfl : x290.toInt = x290.toInt)
          refine lv_iload hx hb dX12_sailsBy_45 (lv_at hl 1 rfl) ?_
          refine lv_istore_n (lv' := [(2, .int j242), (6, .long y285), (5, .int j242), (3, .long jl243), (0, .ref h0), (1, .int p1)]) hx hb dX12_sailsBy_47 rfl hl (by decide) rfl (fun ls hl => ?_)
          refine lv_lload hx hb dX12_sailsBy_48 (lv_at hl 1 rfl) ?_
          refine lv_lstore_n (lv' := [(3, .long y285), (2, .int j242), (6, .long y285), (5, .int j242), (0, .ref h0), (1, .int p1)]) hx hb dX12_sailsBy_50 rfl hl (by decide) rfl (fun ls hl => ?_)
          exact J51 ls y285 j242 (by omega) (⟨by omega, by omega⟩) (lv_sub hl [0, 1, 2, 3, 4, 5] rfl)
        · have b295 := zi_nlt b295 (zl_0 : (0 : Int32).toInt = 0) (rfl : x290.toInt = x290.toInt)
          refine lv_goto (tgt := 51) hx hb dX12_sailsBy_42 (by decide) ?_
          exact J51 ls jl243 j244 (by omega) (⟨by omega, by omega⟩) (lv_sub hl [2, 3, 0, 1, 4, 5] rfl)
  exact J7 (4 + 1 - (0 : Int32).toInt).toNat I H locs ls (0 : Int32) (0 : Int64) (-1 : Int32) (by omega) hM hS hR (by rw [zl_0]; decide) (by have : (0 : Int64).toInt = 0 := (by decide +kernel); omega) (by rw [zl_m1]; decide) q_1 hF9 (lv_sub hl [0, 1, 2, 3, 4] rfl)
def zw_X12_moves : List (Nat × Nat) := [(59, 999)]
set_option maxHeartbeats 8000000 in
set_option maxRecDepth 100000 in
theorem c_X12_moves (l : Launch) (X : zq_X) (zk zn : Nat) (I : zq_M) (L : zq_L X)  (h0 : Nat) (k_h0 : zq_k X h0 = 10) (p1 : Int32) (g_p1 : 0 ≤ p1.toInt ∧ p1.toInt ≤ 2) (q_0 : zk ≤ 4400 ∧ zn ≤ 4400) (q_1 : zn ≤ 4395) : Met l yX12_moves (zt_w yX12_moves cX12_moves 4 none) (zq_rm (2)) (va_Pc [.ref h0, .int p1] (zq_W X (zk, zn) I)) (va_Qv (fun I2 => zq_fr (zf X zw_X12_moves (fun _ => False)) I I2) (zq_E X (zk, zn + 1)) (zq_A X)) 0 0 (zq_A X) := by
  refine Met.ofW (cc := cX12_moves) (maxL := 4) (ret := none) (by decide) rfl ?_
  intro p e s m args below meth c s₁ B hml hv
  obtain ⟨hargs, hM, hZ⟩ := hv
  have hown : s.vm.findClass RX12 = some m.cls := findClass_of_methodNamed B.named
  have hts := atoms_spec (ws := zt_w yX12_moves cX12_moves 4 none) B.pre
  have E : CallFix p m c cX12_moves 4 s args (Cond.code yX12_moves cX12_moves 4 none :: zt) RX12 := ⟨B.exec, B.bytes, hml, hown, hts⟩
  have hx := B.exec
  have hb := B.bytes
  have hr := B.returns
  have hlocks := B.notSynchronized
  clear B
  have hS : va_S (zq_A X) s.heap s.heap [] := va_S.rf
  have hR : zq_fr (zf X zw_X12_moves (fun _ => False)) I I := zq_fr.rf
  have hl := lv_entry ([.ref h0, .int p1]) (n := 4) (by exact Nat.le_of_ble_eq_true rfl)
  have hg : entryFrame m args 4 = F0 m 0 ((lg_sl ([.ref h0, .int p1]) ++ List.replicate (4 - (lg_sl ([.ref h0, .int p1])).length) Slot.unset).toArray) [] := by rw [hargs]; exact lg_entry_eq m ([.ref h0, .int p1]) 4
  rw [hg]
  clear hg hargs
  generalize (lg_sl ([.ref h0, .int p1]) ++ List.replicate (4 - (lg_sl ([.ref h0, .int p1])).length) Slot.unset).toArray = ls at hl ⊢
  have hl : lv_has ls 4 [(0, .ref h0), (1, .int p1)] := by exact hl
  obtain ⟨R, hRm⟩ : ∃ R : Room, R = (headSpec (zt_w yX12_moves cX12_moves 4 none) (zq_rm (2))).room := ⟨_, rfl⟩
  rw [← hRm]
  have hro : ∀ d q : Nat, d + 1 ≤ 2 → q ≤ 45 → zq_rok d q R := fun d q h1 h2 => by rw [hRm]; exact zq_rokI h1 h2
  generalize hQ : MQ below _ args s 0 0 (zq_A X) = Q
  obtain ⟨H, hH⟩ : ∃ H, H = s.heap := ⟨_, rfl⟩
  obtain ⟨locs, hlo⟩ : ∃ x : List Loc, x = [] := ⟨_, rfl⟩
  rw [show W p l e R s m args below meth c s.heap [] 0 0 Q = W p l e R s m args below meth c H locs 0 0 Q by rw [hH, hlo]]
  have hM : zq_hm X (zk, zn) I H := by rw [hH]; exact hM
  have hS : va_S (zq_A X) s.heap H locs := by rw [hH, hlo]; exact hS
  clear hH hlo
  refine lv_bipush (v := 13) hx hb dX12_moves_0 (by decide +kernel) ?_
  refine lv_iconst (v := 4) hx hb dX12_moves_2 (by decide +kernel) ?_
  refine lv_iload_n hx hb dX12_moves_3 rfl (lv_at hl 1 rfl) ?_
  refine lv_imul hx hb dX12_moves_4 ?_
  refine lv_topi (fun x101 ex101 => ?_)
  have tx101 := zi_mul ex101 (zl_4 : (4 : Int32).toInt = 4) (rfl : p1.toInt = p1.toInt) ⟨by omega, by omega⟩
  refine lv_iadd hx hb dX12_moves_5 ?_
  refine lv_topi (fun x102 ex102 => ?_)
  have tx102 := zi_add ex102 (zl_13 : (13 : Int32).toInt = 13) (rfl : x101.toInt = x101.toInt) ⟨by omega, by omega⟩
  refine lv_istore_n (lv' := [(2, .int x102), (0, .ref h0), (1, .int p1)]) hx hb dX12_moves_6 rfl hl (by decide) rfl (fun ls hl => ?_)
  refine lv_aload_n hx hb dX12_moves_7 rfl (lv_at hl 1 rfl) ?_
  refine zq_getr E hM k_h0 (zFX12_39 E hZ) ⟨by decide, by decide, by decide, rfl⟩ dX12_moves_8 ?_
  have k103 : zq_k X (zq_r X h0 20) = 59 := zq_lk L.1 k_h0 rfl (by decide)
  refine lv_iload_n hx hb dX12_moves_11 rfl (lv_at hl 0 rfl) ?_
  refine W.eq (g2 := F0 m 12 ls [.int x102, .ref (zq_r X h0 20)]) rfl ?_
  refine zq_ian (n := 106) (j := (x102.toNatClampNeg)) E hZ hM k103 ⟨by decide, rfl⟩ ⟨by omega, by omega⟩ rfl dX12_moves_12 (fun x104 ex104 gx104 => ?_)
  have hclx102 := zq_cl (i := x102) (by omega)
  have hc105 : x102.toNatClampNeg = 13 ∨ x102.toNatClampNeg = 17 ∨ x102.toNatClampNeg = 21 := by omega
  replace gx104 : (-1) ≤ x104.toInt ∧ x104.toInt ≤ 3 := by
    rcases hc105 with q9 | q9 | q9
    · rw [q9] at gx104; exact gx104
    · rw [q9] at gx104; exact gx104
    · rw [q9] at gx104; exact gx104
  refine lv_istore_n (lv' := [(3, .int x104), (2, .int x102), (0, .ref h0), (1, .int p1)]) hx hb dX12_moves_13 rfl hl (by decide) rfl (fun ls hl => ?_)
  refine lv_iload_n hx hb dX12_moves_14 rfl (lv_at hl 0 rfl) ?_
  refine lv_if_ge (tgt := 46) hx hb dX12_moves_15 (by decide) (fun b106 => ?_) (fun b106 => ?_)
  · have b106 := zi_le b106 (zl_0 : (0 : Int32).toInt = 0) (rfl : x104.toInt = x104.toInt)
    refine lv_aload_n hx hb dX12_moves_46 rfl (lv_at hl 2 rfl) ?_
    refine zq_getr E hM k_h0 (zFX12_39 E hZ) ⟨by decide, by decide, by decide, rfl⟩ dX12_moves_47 ?_
    have k107 : zq_k X (zq_r X h0 20) = 59 := zq_lk L.1 k_h0 rfl (by decide)
    refine lv_iload_n hx hb dX12_moves_50 rfl (lv_at hl 1 rfl) ?_
    refine lv_iconst (v := 2) hx hb dX12_moves_51 (by decide +kernel) ?_
    refine lv_iadd hx hb dX12_moves_52 ?_
    refine lv_topi (fun x108 ex108 => ?_)
    have tx108 := zi_add ex108 (rfl : x102.toInt = x102.toInt) (zl_2 : (2 : Int32).toInt = 2) ⟨by omega, by omega⟩
    refine lv_aload_n hx hb dX12_moves_53 rfl (lv_at hl 2 rfl) ?_
    refine lv_aload_n hx hb dX12_moves_54 rfl (lv_at hl 2 rfl) ?_
    refine zq_getr E hM k_h0 (zFX12_39 E hZ) ⟨by decide, by decide, by decide, rfl⟩ dX12_moves_55 ?_
    have k109 : zq_k X (zq_r X h0 20) = 59 := zq_lk L.1 k_h0 rfl (by decide)
    refine lv_iload_n hx hb dX12_moves_58 rfl (lv_at hl 1 rfl) ?_
    refine W.eq (g2 := F0 m 59 ls [.int x102, .ref (zq_r X h0 20), .ref h0, .int x108, .ref (zq_r X h0 20)]) rfl ?_
    refine lv_iconst (v := 2) hx hb dX12_moves_59 (by decide +kernel) ?_
    refine lv_iadd hx hb dX12_moves_60 ?_
    refine lv_topi (fun x110 ex110 => ?_)
    have tx110 := zi_add ex110 (rfl : x102.toInt = x102.toInt) (zl_2 : (2 : Int32).toInt = 2) ⟨by omega, by omega⟩
    refine zq_ian (n := 106) (j := (x110.toNatClampNeg)) E hZ hM k109 ⟨by decide, rfl⟩ ⟨by omega, by omega⟩ rfl dX12_moves_61 (fun x111 ex111 gx111 => ?_)
    have hclx110 := zq_cl (i := x110) (by omega)
    have hc112 : x110.toNatClampNeg = 15 ∨ x110.toNatClampNeg = 19 ∨ x110.toNatClampNeg = 23 := by omega
    replace gx111 : 0 ≤ x111.toInt ∧ x111.toInt ≤ 99 := by
      rcases hc112 with q9 | q9 | q9
      · rw [q9] at gx111; exact gx111
      · rw [q9] at gx111; exact gx111
      · rw [q9] at gx111; exact gx111
    refine lv_iload_n hx hb dX12_moves_62 rfl (lv_at hl 0 rfl) ?_
    refine lv_aload_n hx hb dX12_moves_63 rfl (lv_at hl 2 rfl) ?_
    refine zq_getr E hM k_h0 (zFX12_39 E hZ) ⟨by decide, by decide, by decide, rfl⟩ dX12_moves_64 ?_
    have k113 : zq_k X (zq_r X h0 20) = 59 := zq_lk L.1 k_h0 rfl (by decide)
    refine lv_iload_n hx hb dX12_moves_67 rfl (lv_at hl 1 rfl) ?_
    refine lv_iconst (v := 3) hx hb dX12_moves_68 (by decide +kernel) ?_
    refine lv_iadd hx hb dX12_moves_69 ?_
    refine lv_topi (fun x114 ex114 => ?_)
    have tx114 := zi_add ex114 (rfl : x102.toInt = x102.toInt) (zl_3 : (3 : Int32).toInt = 3) ⟨by omega, by omega⟩
    refine zq_ian (n := 106) (j := (x114.toNatClampNeg)) E hZ hM k113 ⟨by decide, rfl⟩ ⟨by omega, by omega⟩ rfl dX12_moves_70 (fun x115 ex115 gx115 => ?_)
    clear gx115
    refine W.eq (g2 := F0 m 71 ls [.int x115, .int x104, .int x111, .ref h0, .int x108, .ref (zq_r X h0 20)]) rfl ?_
    refine lv_iconst (v := 1) hx hb dX12_moves_71 (by decide +kernel) ?_
    have J80 : ∀ (ls : Array Slot) (j116 : Int32), (0 ≤ j116.toInt ∧ j116.toInt ≤ 1) → (lv_has ls 4 [(3, .int x104), (2, .int x102), (0, .ref h0), (1, .int p1)]) → W p l e R s m args below meth c H locs 0 0 Q (F0 m 80 ls [.int j116, .int x104, .int x111, .ref h0, .int x108, .ref (zq_r X h0 20)]) := by
      intro ls j116 gj116 hl
      refine zq_pcalli (zq_rV (As := [.int x111, .int x104, .int j116]) (rest := [.int x108, .ref (zq_r X h0 20)]) E hZ hM k_h0 (c_X12_atSea l X zk (zn) I L h0 k_h0 x111 x104 j116 ⟨by omega, by omega⟩ ⟨by omega, by omega⟩ ⟨by omega, by omega⟩ (by omega)) zmX12_338 zM_X12_atSea (hro (1) 4 (by first | decide | omega) (by decide)) ⟨by decide, by decide⟩ rfl hl.1 rfl rfl (Nat.le_of_ble_eq_true rfl) dX12_moves_80) hS (fun x171 H locs h170 hM hS => ?_)
      obtain ⟨p172, p173⟩ := h170
      have hclx108 := zq_cl (i := x108) (by omega)
      have hc175 : x108.toNatClampNeg = 15 ∨ x108.toNatClampNeg = 19 ∨ x108.toNatClampNeg = 23 := by omega
      have hp176 : (zq_rg (zk, zn) 59 x108.toNatClampNeg).1 ≤ x171.toInt ∧ x171.toInt ≤ (zq_rg (zk, zn) 59 x108.toNatClampNeg).2 := by
        rcases hc175 with q9 | q9 | q9
        · rw [q9]; exact (show 0 ≤ x171.toInt ∧ x171.toInt ≤ 99 from ⟨by omega, by omega⟩)
        · rw [q9]; exact (show 0 ≤ x171.toInt ∧ x171.toInt ≤ 99 from ⟨by omega, by omega⟩)
        · rw [q9]; exact (show 0 ≤ x171.toInt ∧ x171.toInt ≤ 99 from ⟨by omega, by omega⟩)
      refine zq_isn (n := 106) (j := (x108.toNatClampNeg)) E hZ hM hS k107 ⟨by decide, rfl⟩ ⟨by omega, by omega⟩ rfl hp176 dX12_moves_83 (fun I174 H locs eI174 hM hS => ?_)
      have hR := zq_fr.putE hR eI174 (zf_ia k107 (by decide) rfl)
      refine lv_aload_n hx hb dX12_moves_84 rfl (lv_at hl 2 rfl) ?_
      refine zq_getr E hM k_h0 (zFX12_39 E hZ) ⟨by decide, by decide, by decide, rfl⟩ dX12_moves_85 ?_
      have k177 : zq_k X (zq_r X h0 20) = 59 := zq_lk L.1 k_h0 rfl (by decide)
      refine lv_iload_n hx hb dX12_moves_88 rfl (lv_at hl 1 rfl) ?_
      refine lv_iconst (v := 1) hx hb dX12_moves_89 (by decide +kernel) ?_
      refine lv_iadd hx hb dX12_moves_90 ?_
      refine lv_topi (fun x178 ex178 => ?_)
      have tx178 := zi_add ex178 (rfl : x102.toInt = x102.toInt) (zl_1 : (1 : Int32).toInt = 1) ⟨by omega, by omega⟩
      refine lv_dup2_11 hx hb dX12_moves_91 rfl rfl ?_
      refine zq_ian (n := 106) (j := (x178.toNatClampNeg)) E hZ hM k177 ⟨by decide, rfl⟩ ⟨by omega, by omega⟩ rfl dX12_moves_92 (fun x179 ex179 gx179 => ?_)
      clear gx179
      refine W.eq (g2 := F0 m 93 ls [.int x179, .int x178, .ref (zq_r X h0 20)]) rfl ?_
      refine lv_iconst (v := 1) hx hb dX12_moves_93 (by decide +kernel) ?_
      refine lv_isub hx hb dX12_moves_94 ?_
      refine lv_topi (fun x180 ex180 => ?_)
      have hclx178 := zq_cl (i := x178) (by omega)
      have hc182 : x178.toNatClampNeg = 14 ∨ x178.toNatClampNeg = 18 ∨ x178.toNatClampNeg = 22 := by omega
      have hp183 : (zq_rg (zk, zn) 59 x178.toNatClampNeg).1 ≤ x180.toInt ∧ x180.toInt ≤ (zq_rg (zk, zn) 59 x178.toNatClampNeg).2 := by
        rcases hc182 with q9 | q9 | q9
        · rw [q9]; exact zq_any _
        · rw [q9]; exact zq_any _
        · rw [q9]; exact zq_any _
      refine zq_isn (n := 106) (j := (x178.toNatClampNeg)) E hZ hM hS k177 ⟨by decide, rfl⟩ ⟨by omega, by omega⟩ rfl hp183 dX12_moves_95 (fun I181 H locs eI181 hM hS => ?_)
      have hR := zq_fr.putE hR eI181 (zf_ia k177 (by decide) rfl)
      refine lv_aload_n hx hb dX12_moves_96 rfl (lv_at hl 2 rfl) ?_
      refine zq_getr E hM k_h0 (zFX12_39 E hZ) ⟨by decide, by decide, by decide, rfl⟩ dX12_moves_97 ?_
      have k184 : zq_k X (zq_r X h0 20) = 59 := zq_lk L.1 k_h0 rfl (by decide)
      refine lv_iload_n hx hb dX12_moves_100 rfl (lv_at hl 1 rfl) ?_
      refine lv_iconst (v := 1) hx hb dX12_moves_101 (by decide +kernel) ?_
      refine lv_iadd hx hb dX12_moves_102 ?_
      refine lv_topi (fun x185 ex185 => ?_)
      have tx185 := zi_add ex185 (rfl : x102.toInt = x102.toInt) (zl_1 : (1 : Int32).toInt = 1) ⟨by omega, by omega⟩
      refine zq_ian (n := 106) (j := (x185.toNatClampNeg)) E hZ hM k184 ⟨by decide, rfl⟩ ⟨by omega, by omega⟩ rfl dX12_moves_103 (fun x186 ex186 gx186 => ?_)
      clear gx186
      refine lv_if_le (tgt := 108) hx hb dX12_moves_104 (by decide) (fun b187 => ?_) (fun b187 => ?_)
      · have b187 := zi_le b187 (rfl : x186.toInt = x186.toInt) (zl_0 : (0 : Int32).toInt = 0)
        refine lv_aload_n hx hb dX12_moves_108 rfl (lv_at hl 2 rfl) ?_
        refine zq_getr E hM k_h0 (zFX12_39 E hZ) ⟨by decide, by decide, by decide, rfl⟩ dX12_moves_109 ?_
        have k188 : zq_k X (zq_r X h0 20) = 59 := zq_lk L.1 k_h0 rfl (by decide)
        refine lv_bipush (v := 25) hx hb dX12_moves_112 (by decide +kernel) ?_
        refine lv_iconst (v := 5) hx hb dX12_moves_114 (by decide +kernel) ?_
        refine lv_iload_n hx hb dX12_moves_115 rfl (lv_at hl 0 rfl) ?_
        refine lv_imul hx hb dX12_moves_116 ?_
        refine lv_topi (fun x189 ex189 => ?_)
        have tx189 := zi_mul ex189 (zl_5 : (5 : Int32).toInt = 5) (rfl : x104.toInt = x104.toInt) ⟨by omega, by omega⟩
        refine lv_iadd hx hb dX12_moves_117 ?_
        refine lv_topi (fun x190 ex190 => ?_)
        have tx190 := zi_add ex190 (zl_25 : (25 : Int32).toInt = 25) (rfl : x189.toInt = x189.toInt) ⟨by omega, by omega⟩
        refine lv_iconst (v := 2) hx hb dX12_moves_118 (by decide +kernel) ?_
        refine lv_iadd hx hb dX12_moves_119 ?_
        refine lv_topi (fun x191 ex191 => ?_)
        have tx191 := zi_add ex191 (rfl : x190.toInt = x190.toInt) (zl_2 : (2 : Int32).toInt = 2) ⟨by omega, by omega⟩
        refine W.eq (g2 := F0 m 120 ls [.int x191, .ref (zq_r X h0 20)]) rfl ?_
        refine lv_dup2_11 hx hb dX12_moves_120 rfl rfl ?_
        refine zq_ian (n := 106) (j := (x191.toNatClampNeg)) E hZ hM k188 ⟨by decide, rfl⟩ ⟨by omega, by omega⟩ rfl dX12_moves_121 (fun x192 ex192 gx192 => ?_)
        have hclx191 := zq_cl (i := x191) (by omega)
        have hc193 : x191.toNatClampNeg = 27 ∨ x191.toNatClampNeg = 32 ∨ x191.toNatClampNeg = 37 ∨ x191.toNatClampNeg = 42 := by omega
        replace gx192 : 0 ≤ x192.toInt ∧ x192.toInt ≤ 99 * ((zn : Nat) : Int) := by
          rcases hc193 with q9 | q9 | q9 | q9
          · rw [q9] at gx192; exact gx192
          · rw [q9] at gx192; exact gx192
          · rw [q9] at gx192; exact gx192
          · rw [q9] at gx192; exact gx192
        refine lv_aload_n hx hb dX12_moves_122 rfl (lv_at hl 2 rfl) ?_
        refine zq_getr E hM k_h0 (zFX12_39 E hZ) ⟨by decide, by decide, by decide, rfl⟩ dX12_moves_123 ?_
        have k194 : zq_k X (zq_r X h0 20) = 59 := zq_lk L.1 k_h0 rfl (by decide)
        refine lv_iload_n hx hb dX12_moves_126 rfl (lv_at hl 1 rfl) ?_
        refine lv_iconst (v := 2) hx hb dX12_moves_127 (by decide +kernel) ?_
        refine lv_iadd hx hb dX12_moves_128 ?_
        refine lv_topi (fun x195 ex195 => ?_)
        have tx195 := zi_add ex195 (rfl : x102.toInt = x102.toInt) (zl_2 : (2 : Int32).toInt = 2) ⟨by omega, by omega⟩
        refine zq_ian (n := 106) (j := (x195.toNatClampNeg)) E hZ hM k194 ⟨by decide, rfl⟩ ⟨by omega, by omega⟩ rfl dX12_moves_129 (fun x196 ex196 gx196 => ?_)
        have hclx195 := zq_cl (i := x195) (by omega)
        have hc197 : x195.toNatClampNeg = 15 ∨ x195.toNatClampNeg = 19 ∨ x195.toNatClampNeg = 23 := by omega
        replace gx196 : 0 ≤ x196.toInt ∧ x196.toInt ≤ 99 := by
          rcases hc197 with q9 | q9 | q9
          · rw [q9] at gx196; exact gx196
          · rw [q9] at gx196; exact gx196
          · rw [q9] at gx196; exact gx196
        refine lv_iadd hx hb dX12_moves_130 ?_
        refine lv_topi (fun x198 ex198 => ?_)
        have tx198 := zi_add ex198 (rfl : x192.toInt = x192.toInt) (rfl : x196.toInt = x196.toInt) ⟨by omega, by omega⟩
        have hM : zq_hm X (zk, (zn + 1)) I181 H := zq_hm.mono hM (Nat.le_refl _) (Nat.le_succ zn)
        have hclx191 := zq_cl (i := x191) (by omega)
        have hc200 : x191.toNatClampNeg = 27 ∨ x191.toNatClampNeg = 32 ∨ x191.toNatClampNeg = 37 ∨ x191.toNatClampNeg = 42 := by omega
        have hp201 : (zq_rg (zk, (zn + 1)) 59 x191.toNatClampNeg).1 ≤ x198.toInt ∧ x198.toInt ≤ (zq_rg (zk, (zn + 1)) 59 x191.toNatClampNeg).2 := by
          rcases hc200 with q9 | q9 | q9 | q9
          · rw [q9]; exact (show 0 ≤ x198.toInt ∧ x198.toInt ≤ 99 * (((zn + 1) : Nat) : Int) from ⟨by omega, by omega⟩)
          · rw [q9]; exact (show 0 ≤ x198.toInt ∧ x198.toInt ≤ 99 * (((zn + 1) : Nat) : Int) from ⟨by omega, by omega⟩)
          · rw [q9]; exact (show 0 ≤ x198.toInt ∧ x198.toInt ≤ 99 * (((zn + 1) : Nat) : Int) from ⟨by omega, by omega⟩)
          · rw [q9]; exact (show 0 ≤ x198.toInt ∧ x198.toInt ≤ 99 * (((zn + 1) : Nat) : Int) from ⟨by omega, by omega⟩)
        refine zq_isn (n := 106) (j := (x191.toNatClampNeg)) E hZ hM hS k188 ⟨by decide, rfl⟩ ⟨by omega, by omega⟩ rfl hp201 dX12_moves_131 (fun I199 H locs eI199 hM hS => ?_)
        have hR := zq_fr.putE hR eI199 (zf_ia k188 (by decide) rfl)
        refine W.eq (g2 := F0 m 132 ls []) rfl ?_
        refine lv_aload_n hx hb dX12_moves_132 rfl (lv_at hl 2 rfl) ?_
        refine zq_getr E hM k_h0 (zFX12_39 E hZ) ⟨by decide, by decide, by decide, rfl⟩ dX12_moves_133 ?_
        have k202 : zq_k X (zq_r X h0 20) = 59 := zq_lk L.1 k_h0 rfl (by decide)
        refine lv_iload_n hx hb dX12_moves_136 rfl (lv_at hl 1 rfl) ?_
        refine lv_iconst (v := (-1)) hx hb dX12_moves_137 (by decide +kernel) ?_
        have hclx102 := zq_cl (i := x102) (by omega)
        have hc204 : x102.toNatClampNeg = 13 ∨ x102.toNatClampNeg = 17 ∨ x102.toNatClampNeg = 21 := by omega
        have hp205 : (zq_rg (zk, (zn + 1)) 59 x102.toNatClampNeg).1 ≤ (-1 : Int32).toInt ∧ (-1 : Int32).toInt ≤ (zq_rg (zk, (zn + 1)) 59 x102.toNatClampNeg).2 := by
          rcases hc204 with q9 | q9 | q9
          · rw [q9]; exact (show (-1) ≤ (-1 : Int32).toInt ∧ (-1 : Int32).toInt ≤ 3 by decide +kernel)
          · rw [q9]; exact (show (-1) ≤ (-1 : Int32).toInt ∧ (-1 : Int32).toInt ≤ 3 by decide +kernel)
          · rw [q9]; exact (show (-1) ≤ (-1 : Int32).toInt ∧ (-1 : Int32).toInt ≤ 3 by decide +kernel)
        refine zq_isn (n := 106) (j := (x102.toNatClampNeg)) E hZ hM hS k202 ⟨by decide, rfl⟩ ⟨by omega, by omega⟩ rfl hp205 dX12_moves_138 (fun I203 H locs eI203 hM hS => ?_)
        have hR := zq_fr.putE hR eI203 (zf_ia k202 (by decide) rfl)
        refine lv_aload_n hx hb dX12_moves_139 rfl (lv_at hl 2 rfl) ?_
        refine zq_getr E hM k_h0 (zFX12_39 E hZ) ⟨by decide, by decide, by decide, rfl⟩ dX12_moves_140 ?_
        have k206 : zq_k X (zq_r X h0 20) = 59 := zq_lk L.1 k_h0 rfl (by decide)
        refine lv_iload_n hx hb dX12_moves_143 rfl (lv_at hl 1 rfl) ?_
        refine lv_iconst (v := 1) hx hb dX12_moves_144 (by decide +kernel) ?_
        refine lv_iadd hx hb dX12_moves_145 ?_
        refine lv_topi (fun x207 ex207 => ?_)
        have tx207 := zi_add ex207 (rfl : x102.toInt = x102.toInt) (zl_1 : (1 : Int32).toInt = 1) ⟨by omega, by omega⟩
        refine W.eq (g2 := F0 m 146 ls [.int x207, .ref (zq_r X h0 20)]) rfl ?_
        refine lv_aload_n hx hb dX12_moves_146 rfl (lv_at hl 2 rfl) ?_
        refine lv_iload_n hx hb dX12_moves_147 rfl (lv_at hl 0 rfl) ?_
        refine zq_pcalli (zq_rV (As := [.int x104]) (rest := [.int x207, .ref (zq_r X h0 20)]) E hZ hM k_h0 (c_X12_monthsTo l X zk ((zn + 1)) I203 L h0 k_h0 x104 ⟨by omega, by omega⟩ (by omega)) zmX12_302 zM_X12_monthsTo (hro (0) 2 (by first | decide | omega) (by decide)) ⟨by decide, by decide⟩ rfl hl.1 rfl rfl (Nat.le_of_ble_eq_true rfl) dX12_moves_148) hS (fun x209 H locs h208 hM hS => ?_)
        have p210 := h208
        have hclx207 := zq_cl (i := x207) (by omega)
        have hc212 : x207.toNatClampNeg = 14 ∨ x207.toNatClampNeg = 18 ∨ x207.toNatClampNeg = 22 := by omega
        have hp213 : (zq_rg (zk, (zn + 1)) 59 x207.toNatClampNeg).1 ≤ x209.toInt ∧ x209.toInt ≤ (zq_rg (zk, (zn + 1)) 59 x207.toNatClampNeg).2 := by
          rcases hc212 with q9 | q9 | q9
          · rw [q9]; exact zq_any _
          · rw [q9]; exact zq_any _
          · rw [q9]; exact zq_any _
        refine zq_isn (n := 106) (j := (x207.toNatClampNeg)) E hZ hM hS k206 ⟨by decide, rfl⟩ ⟨by omega, by omega⟩ rfl hp213 dX12_moves_151 (fun I211 H locs eI211 hM hS => ?_)
        have hR := zq_fr.putE hR eI211 (zf_ia k206 (by decide) rfl)
        refine lv_aload_n hx hb dX12_moves_152 rfl (lv_at hl 2 rfl) ?_
        refine zq_getr E hM k_h0 (zFX12_39 E hZ) ⟨by decide, by decide, by decide, rfl⟩ dX12_moves_153 ?_
        have k214 : zq_k X (zq_r X h0 20) = 59 := zq_lk L.1 k_h0 rfl (by decide)
        refine lv_iload_n hx hb dX12_moves_156 rfl (lv_at hl 1 rfl) ?_
        refine lv_iconst (v := 2) hx hb dX12_moves_157 (by decide +kernel) ?_
        refine lv_iadd hx hb dX12_moves_158 ?_
        refine lv_topi (fun x215 ex215 => ?_)
        have tx215 := zi_add ex215 (rfl : x102.toInt = x102.toInt) (zl_2 : (2 : Int32).toInt = 2) ⟨by omega, by omega⟩
        refine lv_iconst (v := 0) hx hb dX12_moves_159 (by decide +kernel) ?_
        refine W.eq (g2 := F0 m 160 ls [.int (0 : Int32), .int x215, .ref (zq_r X h0 20)]) rfl ?_
        have hclx215 := zq_cl (i := x215) (by omega)
        have hc217 : x215.toNatClampNeg = 15 ∨ x215.toNatClampNeg = 19 ∨ x215.toNatClampNeg = 23 := by omega
        have hp218 : (zq_rg (zk, (zn + 1)) 59 x215.toNatClampNeg).1 ≤ (0 : Int32).toInt ∧ (0 : Int32).toInt ≤ (zq_rg (zk, (zn + 1)) 59 x215.toNatClampNeg).2 := by
          rcases hc217 with q9 | q9 | q9
          · rw [q9]; exact (show 0 ≤ (0 : Int32).toInt ∧ (0 : Int32).toInt ≤ 99 by decide +kernel)
          · rw [q9]; exact (show 0 ≤ (0 : Int32).toInt ∧ (0 : Int32).toInt ≤ 99 by decide +kernel)
          · rw [q9]; exact (show 0 ≤ (0 : Int32).toInt ∧ (0 : Int32).toInt ≤ 99 by decide +kernel)
        refine zq_isn (n := 106) (j := (x215.toNatClampNeg)) E hZ hM hS k214 ⟨by decide, rfl⟩ ⟨by omega, by omega⟩ rfl hp218 dX12_moves_160 (fun I216 H locs eI216 hM hS => ?_)
        have hR := zq_fr.putE hR eI216 (zf_ia k214 (by decide) rfl)
        refine lv_aload_n hx hb dX12_moves_161 rfl (lv_at hl 2 rfl) ?_
        refine zq_getr E hM k_h0 (zFX12_39 E hZ) ⟨by decide, by decide, by decide, rfl⟩ dX12_moves_162 ?_
        have k219 : zq_k X (zq_r X h0 20) = 59 := zq_lk L.1 k_h0 rfl (by decide)
        refine lv_iload_n hx hb dX12_moves_165 rfl (lv_at hl 1 rfl) ?_
        refine lv_iconst (v := 3) hx hb dX12_moves_166 (by decide +kernel) ?_
        refine lv_iadd hx hb dX12_moves_167 ?_
        refine lv_topi (fun x220 ex220 => ?_)
        have tx220 := zi_add ex220 (rfl : x102.toInt = x102.toInt) (zl_3 : (3 : Int32).toInt = 3) ⟨by omega, by omega⟩
        refine lv_iconst (v := 0) hx hb dX12_moves_168 (by decide +kernel) ?_
        have hclx220 := zq_cl (i := x220) (by omega)
        have hc222 : x220.toNatClampNeg = 16 ∨ x220.toNatClampNeg = 20 ∨ x220.toNatClampNeg = 24 := by omega
        have hp223 : (zq_rg (zk, (zn + 1)) 59 x220.toNatClampNeg).1 ≤ (0 : Int32).toInt ∧ (0 : Int32).toInt ≤ (zq_rg (zk, (zn + 1)) 59 x220.toNatClampNeg).2 := by
          rcases hc222 with q9 | q9 | q9
          · rw [q9]; exact zq_any _
          · rw [q9]; exact zq_any _
          · rw [q9]; exact zq_any _
        refine zq_isn (n := 106) (j := (x220.toNatClampNeg)) E hZ hM hS k219 ⟨by decide, rfl⟩ ⟨by omega, by omega⟩ rfl hp223 dX12_moves_169 (fun I221 H locs eI221 hM hS => ?_)
        have hR := zq_fr.putE hR eI221 (zf_ia k219 (by decide) rfl)
        subst hQ
        exact zq_vret E hr hZ hM hS hR hlocks dX12_moves_170
      · have b187 := zi_nle b187 (rfl : x186.toInt = x186.toInt) (zl_0 : (0 : Int32).toInt = 0)
        have hM : zq_hm X (zk, (zn + 1)) I181 H := zq_hm.mono hM (Nat.le_refl _) (by omega)
        subst hQ
        exact zq_vret E hr hZ hM hS hR hlocks dX12_moves_107
    refine lv_icmp_ne (tgt := 79) hx hb dX12_moves_72 (by decide) (fun b224 => ?_) (fun b224 => ?_)
    · have b224 := zi_ne b224 (rfl : x115.toInt = x115.toInt) (zl_1 : (1 : Int32).toInt = 1)
      refine lv_iconst (v := 0) hx hb dX12_moves_79 (by decide +kernel) ?_
      exact J80 ls (0 : Int32) (by rw [zl_0]; decide) (lv_sub hl [0, 1, 2, 3] rfl)
    · have b224 := zi_eq b224 (rfl : x115.toInt = x115.toInt) (zl_1 : (1 : Int32).toInt = 1)
      refine lv_iconst (v := 1) hx hb dX12_moves_75 (by decide +kernel) ?_
      refine lv_goto (tgt := 80) hx hb dX12_moves_76 (by decide) ?_
      exact J80 ls (1 : Int32) (by rw [zl_1]; decide) (lv_sub hl [0, 1, 2, 3] rfl)
  · have b106 := zi_nle b106 (zl_0 : (0 : Int32).toInt = 0) (rfl : x104.toInt = x104.toInt)
    refine lv_aload_n hx hb dX12_moves_18 rfl (lv_at hl 2 rfl) ?_
    refine zq_getr E hM k_h0 (zFX12_39 E hZ) ⟨by decide, by decide, by decide, rfl⟩ dX12_moves_19 ?_
    have k225 : zq_k X (zq_r X h0 20) = 59 := zq_lk L.1 k_h0 rfl (by decide)
    refine lv_iload_n hx hb dX12_moves_22 rfl (lv_at hl 1 rfl) ?_
    refine lv_iconst (v := 1) hx hb dX12_moves_23 (by decide +kernel) ?_
    refine lv_iadd hx hb dX12_moves_24 ?_
    refine lv_topi (fun x226 ex226 => ?_)
    have tx226 := zi_add ex226 (rfl : x102.toInt = x102.toInt) (zl_1 : (1 : Int32).toInt = 1) ⟨by omega, by omega⟩
    refine lv_dup2_11 hx hb dX12_moves_25 rfl rfl ?_
    refine zq_ian (n := 106) (j := (x226.toNatClampNeg)) E hZ hM k225 ⟨by decide, rfl⟩ ⟨by omega, by omega⟩ rfl dX12_moves_26 (fun x227 ex227 gx227 => ?_)
    clear gx227
    refine lv_aload_n hx hb dX12_moves_27 rfl (lv_at hl 2 rfl) ?_
    refine zq_getr E hM k_h0 (zFX12_39 E hZ) ⟨by decide, by decide, by decide, rfl⟩ dX12_moves_28 ?_
    have k228 : zq_k X (zq_r X h0 20) = 59 := zq_lk L.1 k_h0 rfl (by decide)
    refine W.eq (g2 := F0 m 31 ls [.ref (zq_r X h0 20), .int x227, .int x226, .ref (zq_r X h0 20)]) rfl ?_
    refine lv_iload_n hx hb dX12_moves_31 rfl (lv_at hl 1 rfl) ?_
    refine lv_iconst (v := 1) hx hb dX12_moves_32 (by decide +kernel) ?_
    refine lv_iadd hx hb dX12_moves_33 ?_
    refine lv_topi (fun x229 ex229 => ?_)
    have tx229 := zi_add ex229 (rfl : x102.toInt = x102.toInt) (zl_1 : (1 : Int32).toInt = 1) ⟨by omega, by omega⟩
    refine zq_ian (n := 106) (j := (x229.toNatClampNeg)) E hZ hM k228 ⟨by decide, rfl⟩ ⟨by omega, by omega⟩ rfl dX12_moves_34 (fun x230 ex230 gx230 => ?_)
    clear gx230
    have J43 : ∀ (ls : Array Slot) (j231 : Int32), (0 ≤ j231.toInt ∧ j231.toInt ≤ 1) → (lv_has ls 4 [(3, .int x104), (2, .int x102), (0, .ref h0), (1, .int p1)]) → W p l e R s m args below meth c H locs 0 0 Q (F0 m 43 ls [.int j231, .int x227, .int x226, .ref (zq_r X h0 20)]) := by
      intro ls j231 gj231 hl
      refine lv_isub hx hb dX12_moves_43 ?_
      refine lv_topi (fun x236 ex236 => ?_)
      have hclx226 := zq_cl (i := x226) (by omega)
      have hc238 : x226.toNatClampNeg = 14 ∨ x226.toNatClampNeg = 18 ∨ x226.toNatClampNeg = 22 := by omega
      have hp239 : (zq_rg (zk, zn) 59 x226.toNatClampNeg).1 ≤ x236.toInt ∧ x236.toInt ≤ (zq_rg (zk, zn) 59 x226.toNatClampNeg).2 := by
        rcases hc238 with q9 | q9 | q9
        · rw [q9]; exact zq_any _
        · rw [q9]; exact zq_any _
        · rw [q9]; exact zq_any _
      refine zq_isn (n := 106) (j := (x226.toNatClampNeg)) E hZ hM hS k225 ⟨by decide, rfl⟩ ⟨by omega, by omega⟩ rfl hp239 dX12_moves_44 (fun I237 H locs eI237 hM hS => ?_)
      have hR := zq_fr.putE hR eI237 (zf_ia k225 (by decide) rfl)
      have hM : zq_hm X (zk, (zn + 1)) I237 H := zq_hm.mono hM (Nat.le_refl _) (by omega)
      subst hQ
      exact zq_vret E hr hZ hM hS hR hlocks dX12_moves_45
    refine lv_if_le (tgt := 42) hx hb dX12_moves_35 (by decide) (fun b240 => ?_) (fun b240 => ?_)
    · have b240 := zi_le b240 (rfl : x230.toInt = x230.toInt) (zl_0 : (0 : Int32).toInt = 0)
      refine lv_iconst (v := 0) hx hb dX12_moves_42 (by decide +kernel) ?_
      exact J43 ls (0 : Int32) (by rw [zl_0]; decide) (lv_sub hl [0, 1, 2, 3] rfl)
    · have b240 := zi_nle b240 (rfl : x230.toInt = x230.toInt) (zl_0 : (0 : Int32).toInt = 0)
      refine lv_iconst (v := 1) hx hb dX12_moves_38 (by decide +kernel) ?_
      refine lv_goto (tgt := 43) hx hb dX12_moves_39 (by decide) ?_
      exact J43 ls (1 : Int32) (by rw [zl_1]; decide) (lv_sub hl [0, 1, 2, 3] rfl)
def zw_X12_passes : List (Nat × Nat) := [(10, 18), (59, 999)]
set_option maxHeartbeats 8000000 in
set_option maxRecDepth 100000 in
theorem c_X12_passes (l : Launch) (X : zq_X) (zk zn : Nat) (I : zq_M) (L : zq_L X)  (h0 : Nat) (k_h0 : zq_k X h0 = 10) (q_0 : zk ≤ 4400 ∧ zn ≤ 4400) (q_1 : zWF X I h0) (q_2 : zn ≤ 4390) : Met l yX12_passes (zt_w yX12_passes cX12_passes 3 (some .int)) (zq_rm (4)) (va_Pc [.ref h0] (zq_W X (zk, zn) I)) (va_Qi (fun (r : Int32) I2 => zq_fr (zf X zw_X12_passes (fun _ => False)) I I2) (zq_E X (zk, zn + 4)) (zq_A X)) 0 0 (zq_A X) := by
  refine Met.ofW (cc := cX12_passes) (maxL := 3) (ret := (some .int)) (by decide) rfl ?_
  intro p e s m args below meth c s₁ B hml hv
  obtain ⟨hargs, hM, hZ⟩ := hv
  have hown : s.vm.findClass RX12 = some m.cls := findClass_of_methodNamed B.named
  have hts := atoms_spec (ws := zt_w yX12_passes cX12_passes 3 (some .int)) B.pre
  have E : CallFix p m c cX12_passes 3 s args (Cond.code yX12_passes cX12_passes 3 (some .int) :: zt) RX12 := ⟨B.exec, B.bytes, hml, hown, hts⟩
  have hx := B.exec
  have hb := B.bytes
  have hr := B.returns
  have hlocks := B.notSynchronized
  clear B
  have hS : va_S (zq_A X) s.heap s.heap [] := va_S.rf
  have hR : zq_fr (zf X zw_X12_passes (fun _ => False)) I I := zq_fr.rf
  have hl := lv_entry ([.ref h0]) (n := 3) (by exact Nat.le_of_ble_eq_true rfl)
  have hg : entryFrame m args 3 = F0 m 0 ((lg_sl ([.ref h0]) ++ List.replicate (3 - (lg_sl ([.ref h0])).length) Slot.unset).toArray) [] := by rw [hargs]; exact lg_entry_eq m ([.ref h0]) 3
  rw [hg]
  clear hg hargs
  generalize (lg_sl ([.ref h0]) ++ List.replicate (3 - (lg_sl ([.ref h0])).length) Slot.unset).toArray = ls at hl ⊢
  have hl : lv_has ls 3 [(0, .ref h0)] := by exact hl
  obtain ⟨R, hRm⟩ : ∃ R : Room, R = (headSpec (zt_w yX12_passes cX12_passes 3 (some .int)) (zq_rm (4))).room := ⟨_, rfl⟩
  rw [← hRm]
  have hro : ∀ d q : Nat, d + 1 ≤ 4 → q ≤ 45 → zq_rok d q R := fun d q h1 h2 => by rw [hRm]; exact zq_rokI h1 h2
  generalize hQ : MQ below _ args s 0 0 (zq_A X) = Q
  obtain ⟨H, hH⟩ : ∃ H, H = s.heap := ⟨_, rfl⟩
  obtain ⟨locs, hlo⟩ : ∃ x : List Loc, x = [] := ⟨_, rfl⟩
  rw [show W p l e R s m args below meth c s.heap [] 0 0 Q = W p l e R s m args below meth c H locs 0 0 Q by rw [hH, hlo]]
  have hM : zq_hm X (zk, zn) I H := by rw [hH]; exact hM
  have hS : va_S (zq_A X) s.heap H locs := by rw [hH, hlo]; exact hS
  clear hH hlo
  refine lv_iconst (v := 0) hx hb dX12_passes_0 (by decide +kernel) ?_
  refine lv_istore_n (lv' := [(1, .int (0 : Int32)), (0, .ref h0)]) hx hb dX12_passes_1 rfl hl (by decide) rfl (fun ls hl => ?_)
  refine lv_iconst (v := 0) hx hb dX12_passes_2 (by decide +kernel) ?_
  refine lv_istore_n (lv' := [(2, .int (0 : Int32)), (1, .int (0 : Int32)), (0, .ref h0)]) hx hb dX12_passes_3 rfl hl (by decide) rfl (fun ls hl => ?_)
  have J4 : ∀ (n3468 : Nat) (I3466 : zq_M) (H : Heap) (locs : List Loc) (ls : Array Slot) (j3465 : Int32), 3 + 1 - j3465.toInt ≤ ((n3468 : Nat) : Int) → (zq_hm X (zk, zn) I3466 H) → (va_S (zq_A X) s.heap H locs) → (zq_fr (zf X zw_X12_passes (fun _ => False)) I I3466) → (0 ≤ j3465.toInt ∧ j3465.toInt ≤ 3) → (zWF X I3466 h0) → (lv_has ls 3 [(2, .int j3465), (1, .int (0 : Int32)), (0, .ref h0)]) → W p l e R s m args below meth c H locs 0 0 Q (F0 m 4 ls []) := by
    intro n3468
    induction n3468 with
    | zero => intro I3466 H locs ls j3465 mu3469 hM hS hR gj3465 F3467 hl; exfalso; have := zi_rng j3465; omega
    | succ n3468 ih4 =>
      intro I3466 H locs ls j3465 mu3469 hM hS hR gj3465 F3467 hl
      refine lv_iload_n hx hb dX12_passes_4 rfl (lv_at hl 0 rfl) ?_
      refine lv_aload_n hx hb dX12_passes_5 rfl (lv_at hl 2 rfl) ?_
      refine zq_getr E hM k_h0 (zFX12_39 E hZ) ⟨by decide, by decide, by decide, rfl⟩ dX12_passes_6 ?_
      have k3470 : zq_k X (zq_r X h0 20) = 59 := zq_lk L.1 k_h0 rfl (by decide)
      refine lv_iconst (v := 2) hx hb dX12_passes_9 (by decide +kernel) ?_
      refine zq_ian (n := 106) (j := 2) E hZ hM k3470 ⟨by decide, rfl⟩ (by rw [zl_2]; decide) (by decide +kernel) dX12_passes_10 (fun x3471 ex3471 gx3471 => ?_)
      replace gx3471 : 0 ≤ x3471.toInt ∧ x3471.toInt ≤ 3 := gx3471
      have J40 : ∀ (ls : Array Slot), (lv_has ls 3 [(2, .int j3465), (1, .int (0 : Int32)), (0, .ref h0)]) → W p l e R s m args below meth c H locs 0 0 Q (F0 m 40 ls []) := by
        intro ls hl
        refine lv_aload_n hx hb dX12_passes_40 rfl (lv_at hl 2 rfl) ?_
        refine zq_callv (zq_rV (As := []) (rest := []) E hZ hM k_h0 (c_X12_grows l X zk (zn) I3466 L h0 k_h0 (by omega)) zmX12_348 zM_X12_grows (hro (1) 2 (by first | decide | omega) (by decide)) ⟨by decide, by decide⟩ rfl hl.1 rfl rfl (Nat.le_of_ble_eq_true rfl) dX12_passes_41) hS (fun I4310 H locs h4308 hM hS => ?_)
        have fr4311 := h4308
        have hR := zq_fr.call hR fr4311 (zf_sub (by decide +kernel) (fun _ _ q => q.elim))
        have hWF4312 := zWF.fr F3467 L k_h0 fr4311 (by decide)
        refine lv_iconst (v := 0) hx hb dX12_passes_44 (by decide +kernel) ?_
        refine lv_istore_n (lv' := [(2, .int (0 : Int32)), (1, .int (0 : Int32)), (0, .ref h0)]) hx hb dX12_passes_45 rfl hl (by decide) rfl (fun ls hl => ?_)
        have J46 : ∀ (n4972 : Nat) (I4969 : zq_M) (H : Heap) (locs : List Loc) (ls : Array Slot) (zv4971 : Nat) (j4968 : Int32), 3 + 1 - j4968.toInt ≤ ((n4972 : Nat) : Int) → (zq_hm X (zk, zv4971) I4969 H) → (va_S (zq_A X) s.heap H locs) → (zq_fr (zf X zw_X12_passes (fun _ => False)) I I4969) → (0 ≤ j4968.toInt ∧ j4968.toInt ≤ 3) → (zWF X I4969 h0) → (((zv4971 : Nat) : Int) ≤ ((zn : Nat) : Int) + j4968.toInt) → (lv_has ls 3 [(2, .int j4968), (1, .int (0 : Int32)), (0, .ref h0)]) → W p l e R s m args below meth c H locs 0 0 Q (F0 m 46 ls []) := by
          intro n4972
          induction n4972 with
          | zero => intro I4969 H locs ls zv4971 j4968 mu4973 hM hS hR gj4968 F4970 hz46 hl; exfalso; have := zi_rng j4968; omega
          | succ n4972 ih46 =>
            intro I4969 H locs ls zv4971 j4968 mu4973 hM hS hR gj4968 F4970 hz46 hl
            refine lv_iload_n hx hb dX12_passes_46 rfl (lv_at hl 0 rfl) ?_
            refine lv_aload_n hx hb dX12_passes_47 rfl (lv_at hl 2 rfl) ?_
            refine zq_getr E hM k_h0 (zFX12_39 E hZ) ⟨by decide, by decide, by decide, rfl⟩ dX12_passes_48 ?_
            have k4974 : zq_k X (zq_r X h0 20) = 59 := zq_lk L.1 k_h0 rfl (by decide)
            refine lv_iconst (v := 2) hx hb dX12_passes_51 (by decide +kernel) ?_
            refine zq_ian (n := 106) (j := 2) E hZ hM k4974 ⟨by decide, rfl⟩ (by rw [zl_2]; decide) (by decide +kernel) dX12_passes_52 (fun x4975 ex4975 gx4975 => ?_)
            replace gx4975 : 0 ≤ x4975.toInt ∧ x4975.toInt ≤ 3 := gx4975
            refine lv_icmp_ge (tgt := 67) hx hb dX12_passes_53 (by decide) (fun b4976 => ?_) (fun b4976 => ?_)
            · have b4976 := zi_le b4976 (rfl : x4975.toInt = x4975.toInt) (rfl : j4968.toInt = j4968.toInt)
              have hM : zq_hm X (zk, (zn + 3)) I4969 H := zq_hm.mono hM (Nat.le_refl _) (by omega)
              refine lv_iconst (v := 0) hx hb dX12_passes_67 (by decide +kernel) ?_
              refine lv_istore_n (lv' := [(2, .int (0 : Int32)), (1, .int (0 : Int32)), (0, .ref h0)]) hx hb dX12_passes_68 rfl hl (by decide) rfl (fun ls hl => ?_)
              have J69 : ∀ (n5114 : Nat) (I5112 : zq_M) (H : Heap) (locs : List Loc) (ls : Array Slot) (j5110 : Int32) (j5111 : Int32), 4 + 1 - j5110.toInt ≤ ((n5114 : Nat) : Int) → (zq_hm X (zk, (zn + 3)) I5112 H) → (va_S (zq_A X) s.heap H locs) → (zq_fr (zf X zw_X12_passes (fun _ => False)) I I5112) → (0 ≤ j5110.toInt ∧ j5110.toInt ≤ 4) → (zWF X I5112 h0) → (lv_has ls 3 [(2, .int j5110), (1, .int j5111), (0, .ref h0)]) → W p l e R s m args below meth c H locs 0 0 Q (F0 m 69 ls []) := by
                intro n5114
                induction n5114 with
                | zero => intro I5112 H locs ls j5110 j5111 mu5115 hM hS hR gj5110 F5113 hl; exfalso; have := zi_rng j5110; omega
                | succ n5114 ih69 =>
                  intro I5112 H locs ls j5110 j5111 mu5115 hM hS hR gj5110 F5113 hl
                  refine lv_iload_n hx hb dX12_passes_69 rfl (lv_at hl 0 rfl) ?_
                  refine lv_aload_n hx hb dX12_passes_70 rfl (lv_at hl 2 rfl) ?_
                  refine zq_getr E hM k_h0 (zFX12_39 E hZ) ⟨by decide, by decide, by decide, rfl⟩ dX12_passes_71 ?_
                  have k5116 : zq_k X (zq_r X h0 20) = 59 := zq_lk L.1 k_h0 rfl (by decide)
                  refine lv_iconst (v := 3) hx hb dX12_passes_74 (by decide +kernel) ?_
                  refine zq_ian (n := 106) (j := 3) E hZ hM k5116 ⟨by decide, rfl⟩ (by rw [zl_3]; decide) (by decide +kernel) dX12_passes_75 (fun x5117 ex5117 gx5117 => ?_)
                  replace gx5117 : 0 ≤ x5117.toInt ∧ x5117.toInt ≤ 4 := gx5117
                  refine lv_icmp_ge (tgt := 93) hx hb dX12_passes_76 (by decide) (fun b5118 => ?_) (fun b5118 => ?_)
                  · have b5118 := zi_le b5118 (rfl : x5117.toInt = x5117.toInt) (rfl : j5110.toInt = j5110.toInt)
                    refine lv_aload_n hx hb dX12_passes_93 rfl (lv_at hl 2 rfl) ?_
                    refine zq_getr E hM k_h0 (zFX12_39 E hZ) ⟨by decide, by decide, by decide, rfl⟩ dX12_passes_94 ?_
                    have k5119 : zq_k X (zq_r X h0 20) = 59 := zq_lk L.1 k_h0 rfl (by decide)
                    refine lv_bipush (v := 12) hx hb dX12_passes_97 (by decide +kernel) ?_
                    refine lv_dup2_11 hx hb dX12_passes_99 rfl rfl ?_
                    refine zq_ian (n := 106) (j := 12) E hZ hM k5119 ⟨by decide, rfl⟩ (by rw [zl_12]; decide) (by decide +kernel) dX12_passes_100 (fun x5120 ex5120 gx5120 => ?_)
                    replace gx5120 : 0 ≤ x5120.toInt ∧ x5120.toInt ≤ (((zn + 3) : Nat) : Int) := gx5120
                    refine lv_iconst (v := 1) hx hb dX12_passes_101 (by decide +kernel) ?_
                    refine lv_iadd hx hb dX12_passes_102 ?_
                    refine lv_topi (fun x5121 ex5121 => ?_)
                    have tx5121 := zi_add ex5121 (rfl : x5120.toInt = x5120.toInt) (zl_1 : (1 : Int32).toInt = 1) ⟨by omega, by omega⟩
                    have hM : zq_hm X (zk, (zn + 4)) I5112 H := zq_hm.mono hM (Nat.le_refl _) (by omega)
                    refine zq_isn (n := 106) (j := 12) E hZ hM hS k5119 ⟨by decide, rfl⟩ (by rw [zl_12]; decide) (by decide +kernel) (by exact (show 0 ≤ x5121.toInt ∧ x5121.toInt ≤ (((zn + 4) : Nat) : Int) from ⟨by omega, by omega⟩)) dX12_passes_103 (fun I5122 H locs eI5122 hM hS => ?_)
                    have hR := zq_fr.putE hR eI5122 (zf_ia k5119 (by decide) rfl)
                    have hWF5123 := zWF.put F5113 L k_h0 eI5122 k5119 (by decide)
                    refine lv_iload_n hx hb dX12_passes_104 rfl (lv_at hl 1 rfl) ?_
                    refine W.eq (g2 := F0 m 105 ls [.int j5111]) rfl ?_
                    subst hQ
                    exact zq_iret E hr hZ hM hS hR hlocks dX12_passes_105
                  · have b5118 := zi_nle b5118 (rfl : x5117.toInt = x5117.toInt) (rfl : j5110.toInt = j5110.toInt)
                    refine lv_iload_n hx hb dX12_passes_79 rfl (lv_at hl 1 rfl) ?_
                    refine lv_aload_n hx hb dX12_passes_80 rfl (lv_at hl 2 rfl) ?_
                    refine lv_iload_n hx hb dX12_passes_81 rfl (lv_at hl 0 rfl) ?_
                    refine zq_calli (zq_rV (As := [.int j5110]) (rest := [.int j5111]) E hZ hM k_h0 (c_X12_sells l X zk ((zn + 3)) I5112 L h0 k_h0 j5110 ⟨by omega, by omega⟩ (by omega)) zmX12_354 zM_X12_sells (hro (1) 6 (by first | decide | omega) (by decide)) ⟨by decide, by decide⟩ rfl hl.1 rfl rfl (Nat.le_of_ble_eq_true rfl) dX12_passes_82) hS (fun x5125 I5126 H locs h5124 hM hS => ?_)
                    obtain ⟨fr5127, p5128⟩ := h5124
                    have hR := zq_fr.call hR fr5127 (zf_sub (by decide +kernel) (fun _ _ q => q.elim))
                    have hWF5129 := zWF.fr F5113 L k_h0 fr5127 (by decide)
                    refine lv_iadd hx hb dX12_passes_85 ?_
                    refine lv_topi (fun x5130 ex5130 => ?_)
                    refine lv_istore_n (lv' := [(1, .int x5130), (2, .int j5110), (0, .ref h0)]) hx hb dX12_passes_86 rfl hl (by decide) rfl (fun ls hl => ?_)
                    obtain ⟨x5131, ex5131⟩ : ∃ y : Int32, y = j5110 + 1 := ⟨_, rfl⟩
                    have tx5131 := zi_add ex5131 (rfl : j5110.toInt = j5110.toInt) zl_1 ⟨by omega, by omega⟩
                    refine lv_iinc (v := x5131) (lv' := [(2, .int x5131), (1, .int x5130), (0, .ref h0)]) hx hb dX12_passes_87 hl (k := 1) rfl (by rw [ex5131]; rfl) (by decide) rfl (fun ls hl => ?_)
                    refine lv_goto (tgt := 69) hx hb dX12_passes_90 (by decide) ?_
                    exact ih69 I5126 H locs ls x5131 x5130 (by omega) hM hS hR (⟨by omega, by omega⟩) hWF5129 (lv_sub hl [0, 1, 2] rfl)
              exact J69 (4 + 1 - (0 : Int32).toInt).toNat I4969 H locs ls (0 : Int32) (0 : Int32) (by omega) hM hS hR (by rw [zl_0]; decide) F4970 (lv_sub hl [0, 1, 2] rfl)
            · have b4976 := zi_nle b4976 (rfl : x4975.toInt = x4975.toInt) (rfl : j4968.toInt = j4968.toInt)
              refine lv_aload_n hx hb dX12_passes_56 rfl (lv_at hl 2 rfl) ?_
              refine lv_iload_n hx hb dX12_passes_57 rfl (lv_at hl 0 rfl) ?_
              refine zq_callv (zq_rV (As := [.int j4968]) (rest := []) E hZ hM k_h0 (c_X12_moves l X zk (zv4971) I4969 L h0 k_h0 j4968 ⟨by omega, by omega⟩ (by omega) (by omega)) zmX12_351 zM_X12_moves (hro (2) 4 (by first | decide | omega) (by decide)) ⟨by decide, by decide⟩ rfl hl.1 rfl rfl (Nat.le_of_ble_eq_true rfl) dX12_passes_58) hS (fun I5134 H locs h5132 hM hS => ?_)
              have fr5135 := h5132
              have hR := zq_fr.call hR fr5135 (zf_sub (by decide +kernel) (fun _ _ q => q.elim))
              have hWF5136 := zWF.fr F4970 L k_h0 fr5135 (by decide)
              obtain ⟨x5137, ex5137⟩ : ∃ y : Int32, y = j4968 + 1 := ⟨_, rfl⟩
              have tx5137 := zi_add ex5137 (rfl : j4968.toInt = j4968.toInt) zl_1 ⟨by omega, by omega⟩
              refine lv_iinc (v := x5137) (lv' := [(2, .int x5137), (1, .int (0 : Int32)), (0, .ref h0)]) hx hb dX12_passes_61 hl (k := 0) rfl (by rw [ex5137]; rfl) (by decide) rfl (fun ls hl => ?_)
              refine lv_goto (tgt := 46) hx hb dX12_passes_64 (by decide) ?_
              exact ih46 I5134 H locs ls ((zv4971 + 1)) x5137 (by omega) hM hS hR (⟨by omega, by omega⟩) hWF5136 (by have := zl_0; omega) (lv_sub hl [0, 1, 2] rfl)
        exact J46 (3 + 1 - (0 : Int32).toInt).toNat I4310 H locs ls (zn) (0 : Int32) (by omega) hM hS hR (by rw [zl_0]; decide) hWF4312 (by have := zl_0; omega) (lv_sub hl [0, 1, 2] rfl)
      refine lv_icmp_ge (tgt := 40) hx hb dX12_passes_11 (by decide) (fun b5138 => ?_) (fun b5138 => ?_)
      · have b5138 := zi_le b5138 (rfl : x3471.toInt = x3471.toInt) (rfl : j3465.toInt = j3465.toInt)
        exact J40 ls (lv_sub hl [0, 1, 2] rfl)
      · have b5138 := zi_nle b5138 (rfl : x3471.toInt = x3471.toInt) (rfl : j3465.toInt = j3465.toInt)
        refine lv_aload_n hx hb dX12_passes_14 rfl (lv_at hl 2 rfl) ?_
        refine zq_gn E hM k_h0 (zFX12_42 E hZ) (Or.inl ⟨by decide, by decide, by decide, rfl⟩) dX12_passes_15 (fun x5139 ex5139 gx5139 => ?_)
        replace gx5139 : (-1) ≤ x5139.toInt ∧ x5139.toInt ≤ 5 := gx5139
        have := congrArg Int32.toInt ex5139
        refine lv_if_lt (tgt := 40) hx hb dX12_passes_18 (by decide) (fun b5140 => ?_) (fun b5140 => ?_)
        · have b5140 := zi_lt b5140 (rfl : x5139.toInt = x5139.toInt) (zl_0 : (0 : Int32).toInt = 0)
          exact J40 ls (lv_sub hl [0, 1, 2] rfl)
        · have b5140 := zi_nlt b5140 (rfl : x5139.toInt = x5139.toInt) (zl_0 : (0 : Int32).toInt = 0)
          refine lv_aload_n hx hb dX12_passes_21 rfl (lv_at hl 2 rfl) ?_
          refine lv_iload_n hx hb dX12_passes_22 rfl (lv_at hl 0 rfl) ?_
          refine zq_pcalli (zq_rV (As := [.int j3465]) (rest := []) E hZ hM k_h0 (c_X12_isHome l X zk (zn) I3466 L h0 k_h0 j3465 ⟨by omega, by omega⟩ (by omega)) zmX12_342 zM_X12_isHome (hro (1) 2 (by first | decide | omega) (by decide)) ⟨by decide, by decide⟩ rfl hl.1 rfl rfl (Nat.le_of_ble_eq_true rfl) dX12_passes_23) hS (fun x5142 H locs h5141 hM hS => ?_)
          have p5143 := h5141
          have J34 : ∀ (I5149 : zq_M) (H : Heap) (locs : List Loc) (ls : Array Slot), (zq_hm X (zk, zn) I5149 H) → (va_S (zq_A X) s.heap H locs) → (zq_fr (zf X zw_X12_passes (fun _ => False)) I I5149) → (zWF X I5149 h0) → (lv_has ls 3 [(2, .int j3465), (1, .int (0 : Int32)), (0, .ref h0)]) → W p l e R s m args below meth c H locs 0 0 Q (F0 m 34 ls []) := by
            intro I5149 H locs ls hM hS hR F5150 hl
            obtain ⟨x5152, ex5152⟩ : ∃ y : Int32, y = j3465 + 1 := ⟨_, rfl⟩
            have tx5152 := zi_add ex5152 (rfl : j3465.toInt = j3465.toInt) zl_1 ⟨by omega, by omega⟩
            refine lv_iinc (v := x5152) (lv' := [(2, .int x5152), (1, .int (0 : Int32)), (0, .ref h0)]) hx hb dX12_passes_34 hl (k := 0) rfl (by rw [ex5152]; rfl) (by decide) rfl (fun ls hl => ?_)
            refine lv_goto (tgt := 4) hx hb dX12_passes_37 (by decide) ?_
            exact ih4 I5149 H locs ls x5152 (by omega) hM hS hR (⟨by omega, by omega⟩) F5150 (lv_sub hl [0, 1, 2] rfl)
          refine lv_if_eq (tgt := 34) hx hb dX12_passes_26 (by decide) (fun b5153 => ?_) (fun b5153 => ?_)
          · have b5153 := zi_eq b5153 (rfl : x5142.toInt = x5142.toInt) (zl_0 : (0 : Int32).toInt = 0)
            exact J34 I3466 H locs ls hM hS hR F3467 (lv_sub hl [0, 1, 2] rfl)
          · have b5153 := zi_ne b5153 (rfl : x5142.toInt = x5142.toInt) (zl_0 : (0 : Int32).toInt = 0)
            refine lv_aload_n hx hb dX12_passes_29 rfl (lv_at hl 2 rfl) ?_
            refine lv_iload_n hx hb dX12_passes_30 rfl (lv_at hl 0 rfl) ?_
            refine zq_callv (zq_rV (As := [.int j3465]) (rest := []) E hZ hM k_h0 (c_X12_sailsBy l X zk (zn) I3466 L h0 k_h0 j3465 ⟨by omega, by omega⟩ (by omega) (F3467) (by omega)) zmX12_345 zM_X12_sailsBy (hro (3) 8 (by first | decide | omega) (by decide)) ⟨by decide, by decide⟩ rfl hl.1 rfl rfl (Nat.le_of_ble_eq_true rfl) dX12_passes_31) hS (fun I5156 H locs h5154 hM hS => ?_)
            have fr5157 := h5154
            have hR := zq_fr.call hR fr5157 (zf_sub (by decide +kernel) (fun _ _ q => q.elim))
            have hWF5158 := zWF.fr F3467 L k_h0 fr5157 (by decide)
            exact J34 I5156 H locs ls hM hS hR hWF5158 (lv_sub hl [0, 1, 2] rfl)
  exact J4 (3 + 1 - (0 : Int32).toInt).toNat I H locs ls (0 : Int32) (by omega) hM hS hR (by rw [zl_0]; decide) q_1 (lv_sub hl [0, 1, 2] rfl)
