def zw_X12_push : List (Nat × Nat) := [(10, 18)]
set_option maxHeartbeats 8000000 in
set_option maxRecDepth 100000 in
theorem c_X12_push (l : Launch) (X : zq_X) (zk zn : Nat) (I : zq_M) (L : zq_L X)  (h0 : Nat) (k_h0 : zq_k X h0 = 10) (p1 : Int64) (q_0 : zk ≤ 2900 ∧ zn ≤ 2900) (q_1 : (I h0 18).toInt ≤ 63) : Met l yX12_push (zt_w yX12_push cX12_push 3 none) (zq_rm (0)) (va_Pc [.ref h0, .long p1] (zq_W X (zk, zn) I)) (va_Qv (fun I2 => zq_fr (zf X zw_X12_push (fun _ => False)) I I2 ∧ ((I2 h0 18).toInt = (I h0 18).toInt + 1)) (zq_E X (zk, zn)) (zq_A X)) 0 0 (zq_A X) := by
  refine Met.ofW (cc := cX12_push) (maxL := 3) (ret := none) (by decide) rfl ?_
  intro p e s m args below meth c s₁ B hml hv
  obtain ⟨hargs, hM, hZ⟩ := hv
  have hown : s.vm.findClass RX12 = some m.cls := findClass_of_methodNamed B.named
  have hts := atoms_spec (ws := zt_w yX12_push cX12_push 3 none) B.pre
  have E : CallFix p m c cX12_push 3 s args (Cond.code yX12_push cX12_push 3 none :: zt) RX12 := ⟨B.exec, B.bytes, hml, hown, hts⟩
  have hx := B.exec
  have hb := B.bytes
  have hr := B.returns
  have hlocks := B.notSynchronized
  clear B
  have hS : va_S (zq_A X) s.heap s.heap [] := va_S.rf
  have hR : zq_fr (zf X zw_X12_push (fun _ => False)) I I := zq_fr.rf
  have hl := lv_entry ([.ref h0, .long p1]) (n := 3) (by exact Nat.le_of_ble_eq_true rfl)
  have hg : entryFrame m args 3 = F0 m 0 ((lg_sl ([.ref h0, .long p1]) ++ List.replicate (3 - (lg_sl ([.ref h0, .long p1])).length) Slot.unset).toArray) [] := by rw [hargs]; exact lg_entry_eq m ([.ref h0, .long p1]) 3
  rw [hg]
  clear hg hargs
  generalize (lg_sl ([.ref h0, .long p1]) ++ List.replicate (3 - (lg_sl ([.ref h0, .long p1])).length) Slot.unset).toArray = ls at hl ⊢
  have hl : lv_has ls 3 [(0, .ref h0), (1, .long p1)] := by exact hl
  obtain ⟨R, hRm⟩ : ∃ R : Room, R = (headSpec (zt_w yX12_push cX12_push 3 none) (zq_rm (0))).room := ⟨_, rfl⟩
  rw [← hRm]
  generalize hQ : MQ below _ args s 0 0 (zq_A X) = Q
  obtain ⟨H, hH⟩ : ∃ H, H = s.heap := ⟨_, rfl⟩
  obtain ⟨locs, hlo⟩ : ∃ x : List Loc, x = [] := ⟨_, rfl⟩
  rw [show W p l e R s m args below meth c s.heap [] 0 0 Q = W p l e R s m args below meth c H locs 0 0 Q by rw [hH, hlo]]
  have hM : zq_hm X (zk, zn) I H := by rw [hH]; exact hM
  have hS : va_S (zq_A X) s.heap H locs := by rw [hH, hlo]; exact hS
  clear hH hlo
  refine lv_aload_n hx hb dX12_push_0 rfl (lv_at hl 0 rfl) ?_
  refine zq_getr E hM k_h0 (zFX12_32 E hZ) ⟨by decide, by decide, by decide, rfl⟩ dX12_push_1 ?_
  have k101 : zq_k X (zq_r X h0 17) = 57 := zq_lk L.1 k_h0 rfl (by decide)
  refine lv_aload_n hx hb dX12_push_4 rfl (lv_at hl 0 rfl) ?_
  refine zq_gn E hM k_h0 (zFX12_266 E hZ) (Or.inl ⟨by decide, by decide, by decide, rfl⟩) dX12_push_5 (fun x102 ex102 gx102 => ?_)
  replace gx102 : 0 ≤ x102.toInt ∧ x102.toInt ≤ 64 := gx102
  have := congrArg Int32.toInt ex102
  refine lv_lload_n hx hb dX12_push_8 rfl (lv_at hl 1 rfl) ?_
  refine zq_last (n := 64) E hZ hM hS k101 ⟨by decide, rfl⟩ ⟨by omega, by omega⟩ dX12_push_9 (fun H locs hM hS => ?_)
  refine lv_aload_n hx hb dX12_push_10 rfl (lv_at hl 0 rfl) ?_
  refine lv_dup hx hb dX12_push_11 rfl ?_
  refine zq_gk (v := x102) E hM k_h0 (zFX12_266 E hZ) (Or.inl ⟨by decide, by decide, by decide, rfl⟩) ex102 dX12_push_12 ?_
  refine W.eq (g2 := F0 m 15 ls [.int x102, .ref h0]) rfl ?_
  refine lv_iconst (v := 1) hx hb dX12_push_15 (by decide +kernel) ?_
  refine lv_iadd hx hb dX12_push_16 ?_
  refine lv_topi (fun x103 ex103 => ?_)
  have tx103 := zi_add ex103 (rfl : x102.toInt = x102.toInt) (zl_1 : (1 : Int32).toInt = 1) ⟨by omega, by omega⟩
  refine zq_pn E hM hS k_h0 (zGX12_266 E hZ) ⟨by decide, by decide, by decide, rfl⟩ (show 0 ≤ x103.toInt ∧ x103.toInt ≤ 64 from ⟨by omega, by omega⟩) dX12_push_17 (fun I104 H locs eI104 hM hS => ?_)
  have hR := zq_fr.putE hR eI104 (zf_i k_h0 rfl rfl)
  subst hQ
  exact zq_vret E hr hZ hM hS ⟨hR, (by rw [(zq_kv eI104)]; omega)⟩ hlocks dX12_push_20
def zw_X12_pop : List (Nat × Nat) := [(10, 18)]
set_option maxHeartbeats 8000000 in
set_option maxRecDepth 100000 in
theorem c_X12_pop (l : Launch) (X : zq_X) (zk zn : Nat) (I : zq_M) (L : zq_L X)  (h0 : Nat) (k_h0 : zq_k X h0 = 10) (q_0 : zk ≤ 2900 ∧ zn ≤ 2900) (q_1 : 1 ≤ (I h0 18).toInt) : Met l yX12_pop (zt_w yX12_pop cX12_pop 1 (some .long)) (zq_rm (0)) (va_Pc [.ref h0] (zq_W X (zk, zn) I)) (va_Ql (fun (r : Int64) I2 => zq_fr (zf X zw_X12_pop (fun _ => False)) I I2 ∧ ((I2 h0 18).toInt = (I h0 18).toInt - 1)) (zq_E X (zk, zn)) (zq_A X)) 0 0 (zq_A X) := by
  refine Met.ofW (cc := cX12_pop) (maxL := 1) (ret := (some .long)) (by decide) rfl ?_
  intro p e s m args below meth c s₁ B hml hv
  obtain ⟨hargs, hM, hZ⟩ := hv
  have hown : s.vm.findClass RX12 = some m.cls := findClass_of_methodNamed B.named
  have hts := atoms_spec (ws := zt_w yX12_pop cX12_pop 1 (some .long)) B.pre
  have E : CallFix p m c cX12_pop 1 s args (Cond.code yX12_pop cX12_pop 1 (some .long) :: zt) RX12 := ⟨B.exec, B.bytes, hml, hown, hts⟩
  have hx := B.exec
  have hb := B.bytes
  have hr := B.returns
  have hlocks := B.notSynchronized
  clear B
  have hS : va_S (zq_A X) s.heap s.heap [] := va_S.rf
  have hR : zq_fr (zf X zw_X12_pop (fun _ => False)) I I := zq_fr.rf
  have hl := lv_entry ([.ref h0]) (n := 1) (by exact Nat.le_of_ble_eq_true rfl)
  have hg : entryFrame m args 1 = F0 m 0 ((lg_sl ([.ref h0]) ++ List.replicate (1 - (lg_sl ([.ref h0])).length) Slot.unset).toArray) [] := by rw [hargs]; exact lg_entry_eq m ([.ref h0]) 1
  rw [hg]
  clear hg hargs
  generalize (lg_sl ([.ref h0]) ++ List.replicate (1 - (lg_sl ([.ref h0])).length) Slot.unset).toArray = ls at hl ⊢
  have hl : lv_has ls 1 [(0, .ref h0)] := by exact hl
  obtain ⟨R, hRm⟩ : ∃ R : Room, R = (headSpec (zt_w yX12_pop cX12_pop 1 (some .long)) (zq_rm (0))).room := ⟨_, rfl⟩
  rw [← hRm]
  generalize hQ : MQ below _ args s 0 0 (zq_A X) = Q
  obtain ⟨H, hH⟩ : ∃ H, H = s.heap := ⟨_, rfl⟩
  obtain ⟨locs, hlo⟩ : ∃ x : List Loc, x = [] := ⟨_, rfl⟩
  rw [show W p l e R s m args below meth c s.heap [] 0 0 Q = W p l e R s m args below meth c H locs 0 0 Q by rw [hH, hlo]]
  have hM : zq_hm X (zk, zn) I H := by rw [hH]; exact hM
  have hS : va_S (zq_A X) s.heap H locs := by rw [hH, hlo]; exact hS
  clear hH hlo
  refine lv_aload_n hx hb dX12_pop_0 rfl (lv_at hl 0 rfl) ?_
  refine lv_dup hx hb dX12_pop_1 rfl ?_
  refine zq_gn E hM k_h0 (zFX12_266 E hZ) (Or.inl ⟨by decide, by decide, by decide, rfl⟩) dX12_pop_2 (fun x101 ex101 gx101 => ?_)
  replace gx101 : 0 ≤ x101.toInt ∧ x101.toInt ≤ 64 := gx101
  have := congrArg Int32.toInt ex101
  refine lv_iconst (v := 1) hx hb dX12_pop_5 (by decide +kernel) ?_
  refine lv_isub hx hb dX12_pop_6 ?_
  refine lv_topi (fun x102 ex102 => ?_)
  have tx102 := zi_sub ex102 (rfl : x101.toInt = x101.toInt) (zl_1 : (1 : Int32).toInt = 1) ⟨by omega, by omega⟩
  refine zq_pn E hM hS k_h0 (zGX12_266 E hZ) ⟨by decide, by decide, by decide, rfl⟩ (show 0 ≤ x102.toInt ∧ x102.toInt ≤ 64 from ⟨by omega, by omega⟩) dX12_pop_7 (fun I103 H locs eI103 hM hS => ?_)
  have hR := zq_fr.putE hR eI103 (zf_i k_h0 rfl rfl)
  refine lv_aload_n hx hb dX12_pop_10 rfl (lv_at hl 0 rfl) ?_
  refine zq_getr E hM k_h0 (zFX12_32 E hZ) ⟨by decide, by decide, by decide, rfl⟩ dX12_pop_11 ?_
  have k104 : zq_k X (zq_r X h0 17) = 57 := zq_lk L.1 k_h0 rfl (by decide)
  refine lv_aload_n hx hb dX12_pop_14 rfl (lv_at hl 0 rfl) ?_
  refine W.eq (g2 := F0 m 15 ls [.ref h0, .ref (zq_r X h0 17)]) rfl ?_
  refine zq_gk (v := x102) E hM k_h0 (zFX12_266 E hZ) (Or.inl ⟨by decide, by decide, by decide, rfl⟩) (zq_kv eI103) dX12_pop_15 ?_
  refine zq_lald (n := 64) E hZ hM k104 ⟨by decide, rfl⟩ ⟨by omega, by omega⟩ dX12_pop_18 (fun y105 => ?_)
  subst hQ
  exact zq_lret E hr hZ hM hS ⟨hR, (by rw [(zq_kv eI103)]; omega)⟩ hlocks dX12_pop_19
def zw_X12_reckons : List (Nat × Nat) := [(10, 18)]
set_option maxHeartbeats 8000000 in
set_option maxRecDepth 100000 in
theorem c_X12_reckons (l : Launch) (X : zq_X) (zk zn : Nat) (I : zq_M) (L : zq_L X)  (h0 : Nat) (k_h0 : zq_k X h0 = 10) (p1 : Int32) (p2 : Int32) (p3 : Int32) (g_p1 : 0 ≤ p1.toInt ∧ p1.toInt ≤ 5) (g_p2 : 0 ≤ p2.toInt ∧ p2.toInt ≤ 400) (g_p3 : 0 ≤ p3.toInt ∧ p3.toInt ≤ 400) (q_0 : zk ≤ 2900 ∧ zn ≤ 2900) (q_1 : zRN X I h0 p1.toNatClampNeg p2.toNatClampNeg p3.toNatClampNeg) : Met l yX12_reckons (zt_w yX12_reckons cX12_reckons 11 (some .long)) (zq_rm (1)) (va_Pc [.ref h0, .int p1, .int p2, .int p3] (zq_W X (zk, zn) I)) (va_Ql (fun (r : Int64) I2 => zq_fr (zf X zw_X12_reckons (fun _ => False)) I I2) (zq_E X (zk, zn)) (zq_A X)) 0 0 (zq_A X) := by
  refine Met.ofW (cc := cX12_reckons) (maxL := 11) (ret := (some .long)) (by decide) rfl ?_
  intro p e s m args below meth c s₁ B hml hv
  obtain ⟨hargs, hM, hZ⟩ := hv
  have hown : s.vm.findClass RX12 = some m.cls := findClass_of_methodNamed B.named
  have hts := atoms_spec (ws := zt_w yX12_reckons cX12_reckons 11 (some .long)) B.pre
  have E : CallFix p m c cX12_reckons 11 s args (Cond.code yX12_reckons cX12_reckons 11 (some .long) :: zt) RX12 := ⟨B.exec, B.bytes, hml, hown, hts⟩
  have hx := B.exec
  have hb := B.bytes
  have hr := B.returns
  have hlocks := B.notSynchronized
  clear B
  have hS : va_S (zq_A X) s.heap s.heap [] := va_S.rf
  have hR : zq_fr (zf X zw_X12_reckons (fun _ => False)) I I := zq_fr.rf
  have hl := lv_entry ([.ref h0, .int p1, .int p2, .int p3]) (n := 11) (by exact Nat.le_of_ble_eq_true rfl)
  have hg : entryFrame m args 11 = F0 m 0 ((lg_sl ([.ref h0, .int p1, .int p2, .int p3]) ++ List.replicate (11 - (lg_sl ([.ref h0, .int p1, .int p2, .int p3])).length) Slot.unset).toArray) [] := by rw [hargs]; exact lg_entry_eq m ([.ref h0, .int p1, .int p2, .int p3]) 11
  rw [hg]
  clear hg hargs
  generalize (lg_sl ([.ref h0, .int p1, .int p2, .int p3]) ++ List.replicate (11 - (lg_sl ([.ref h0, .int p1, .int p2, .int p3])).length) Slot.unset).toArray = ls at hl ⊢
  have hl : lv_has ls 11 [(0, .ref h0), (1, .int p1), (2, .int p2), (3, .int p3)] := by exact hl
  obtain ⟨R, hRm⟩ : ∃ R : Room, R = (headSpec (zt_w yX12_reckons cX12_reckons 11 (some .long)) (zq_rm (1))).room := ⟨_, rfl⟩
  rw [← hRm]
  have hro : ∀ d q : Nat, d + 1 ≤ 1 → q ≤ 45 → zq_rok d q R := fun d q h1 h2 => by rw [hRm]; exact zq_rokI h1 h2
  generalize hQ : MQ below _ args s 0 0 (zq_A X) = Q
  obtain ⟨H, hH⟩ : ∃ H, H = s.heap := ⟨_, rfl⟩
  obtain ⟨locs, hlo⟩ : ∃ x : List Loc, x = [] := ⟨_, rfl⟩
  rw [show W p l e R s m args below meth c s.heap [] 0 0 Q = W p l e R s m args below meth c H locs 0 0 Q by rw [hH, hlo]]
  have hM : zq_hm X (zk, zn) I H := by rw [hH]; exact hM
  have hS : va_S (zq_A X) s.heap H locs := by rw [hH, hlo]; exact hS
  clear hH hlo
  obtain ⟨hle9, _, D, hD0, hD1, hD9⟩ := q_1
  have hA9 : ∀ j, I (zq_r X h0 3) j = I (zq_r X h0 3) j := fun _ => rfl
  have hle8 : p2.toInt ≤ p3.toInt := by have h1 := zq_cl (i := p2) (by omega); have h2 := zq_cl (i := p3) (by omega); omega
  refine lv_aload_n hx hb dX12_reckons_0 rfl (lv_at hl 0 rfl) ?_
  refine lv_iconst (v := 0) hx hb dX12_reckons_1 (by decide +kernel) ?_
  refine zq_pn E hM hS k_h0 (zGX12_266 E hZ) ⟨by decide, by decide, by decide, rfl⟩ (show 0 ≤ (0 : Int32).toInt ∧ (0 : Int32).toInt ≤ 64 by decide +kernel) dX12_reckons_2 (fun I101 H locs eI101 hM hS => ?_)
  have hR := zq_fr.putE hR eI101 (zf_i k_h0 rfl rfl)
  have hA102 := fun j => zq_kp eI101 (Or.inl (zq_kne (zq_lk L.1 k_h0 rfl (by decide) : zq_k X (zq_r X h0 3) = 51) k_h0 (by decide))) (hA9 j)
  refine lv_iload_n hx hb dX12_reckons_5 rfl (lv_at hl 2 rfl) ?_
  refine lv_istore (lv' := [(4, .int p2), (0, .ref h0), (1, .int p1), (2, .int p2), (3, .int p3)]) hx hb dX12_reckons_6 hl (by decide) rfl (fun ls hl => ?_)
  have J8 : ∀ (n176 : Nat) (I174 : zq_M) (H : Heap) (locs : List Loc) (ls : Array Slot) (j173 : Int32), 400 + 1 - j173.toInt ≤ ((n176 : Nat) : Int) → (zq_hm X (zk, zn) I174 H) → (va_S (zq_A X) s.heap H locs) → (zq_fr (zf X zw_X12_reckons (fun _ => False)) I I174) → (0 ≤ j173.toInt ∧ j173.toInt ≤ 400) → (∀ j, I174 (zq_r X h0 3) j = I (zq_r X h0 3) j) → ((I174 h0 18).toInt = ((D j173.toNatClampNeg : Nat) : Int)) → (p2.toInt ≤ j173.toInt ∧ j173.toInt ≤ p3.toInt) → (lv_has ls 11 [(4, .int j173), (0, .ref h0), (1, .int p1), (2, .int p2), (3, .int p3)]) → W p l e R s m args below meth c H locs 0 0 Q (F0 m 8 ls []) := by
    intro n176
    induction n176 with
    | zero => intro I174 H locs ls j173 mu177 hM hS hR gj173 F175 hi18 hi17 hl; exfalso; have := zi_rng j173; omega
    | succ n176 ih8 =>
      intro I174 H locs ls j173 mu177 hM hS hR gj173 F175 hi18 hi17 hl
      refine lv_iload hx hb dX12_reckons_8 (lv_at hl 0 rfl) ?_
      refine lv_iload_n hx hb dX12_reckons_10 rfl (lv_at hl 4 rfl) ?_
      refine lv_icmp_ge (tgt := 135) hx hb dX12_reckons_11 (by decide) (fun b178 => ?_) (fun b178 => ?_)
      · have b178 := zi_le b178 (rfl : p3.toInt = p3.toInt) (rfl : j173.toInt = j173.toInt)
        have hD8 : (I174 h0 18).toInt = 1 := by rw [hi18, show j173.toNatClampNeg = p3.toNatClampNeg by have h1 := zq_cl (i := j173) (by omega); have h2 := zq_cl (i := p3) (by omega); omega, hD1]; rfl
        refine lv_aload_n hx hb dX12_reckons_135 rfl (lv_at hl 1 rfl) ?_
        refine zq_calll (zq_rV (As := []) (rest := []) E hZ hM k_h0 (c_X12_pop l X zk (zn) I174 L h0 k_h0 (by omega) (by omega)) zmX12_273 zM_X12_pop (hro (0) 1 (by first | decide | omega) (by decide)) ⟨by decide, by decide⟩ rfl hl.1 rfl rfl (Nat.le_of_ble_eq_true rfl) dX12_reckons_136) hS (fun y180 I181 H locs h179 hM hS => ?_)
        obtain ⟨fr182, p183⟩ := h179
        have hR := zq_fr.call hR fr182 (zf_sub (by decide +kernel) (fun _ _ q => q.elim))
        have hA184 := fun j => zq_fr.kp fr182 (zf_n (zq_lk L.1 k_h0 rfl (by decide) : zq_k X (zq_r X h0 3) = 51) rfl) (F175 j)
        subst hQ
        exact zq_lret E hr hZ hM hS hR hlocks dX12_reckons_139
      · have b178 := zi_nle b178 (rfl : p3.toInt = p3.toInt) (rfl : j173.toInt = j173.toInt)
        refine lv_aload_n hx hb dX12_reckons_14 rfl (lv_at hl 1 rfl) ?_
        refine zq_getr E hM k_h0 (zFX12_13 E hZ) ⟨by decide, by decide, by decide, rfl⟩ dX12_reckons_15 ?_
        have k185 : zq_k X (zq_r X h0 3) = 51 := zq_lk L.1 k_h0 rfl (by decide)
        refine lv_sipush (v := 400) hx hb dX12_reckons_18 (by decide +kernel) ?_
        refine lv_iload_n hx hb dX12_reckons_21 rfl (lv_at hl 2 rfl) ?_
        refine lv_imul hx hb dX12_reckons_22 ?_
        refine lv_topi (fun x186 ex186 => ?_)
        have tx186 := zi_mul ex186 (zl_400 : (400 : Int32).toInt = 400) (rfl : p1.toInt = p1.toInt) ⟨by omega, by omega⟩
        refine lv_iload hx hb dX12_reckons_23 (lv_at hl 0 rfl) ?_
        refine lv_iadd hx hb dX12_reckons_25 ?_
        refine lv_topi (fun x187 ex187 => ?_)
        have tx187 := zi_add ex187 (rfl : x186.toInt = x186.toInt) (rfl : j173.toInt = j173.toInt) ⟨by omega, by omega⟩
        refine zq_ian (n := 2400) (j := (x187.toNatClampNeg)) E hZ hM k185 ⟨by decide, rfl⟩ ⟨by omega, by omega⟩ rfl dX12_reckons_26 (fun x188 ex188 gx188 => ?_)
        clear gx188
        have hvx188 : I (zq_r X h0 3) (400 * p1.toNatClampNeg + j173.toNatClampNeg) = x188 := by
          have h1 := zq_cl (i := p1) (by omega); have h2 := zq_cl (i := j173) (by omega); have h3 := zq_cl (i := x187) (by omega)
          rw [show 400 * p1.toNatClampNeg + j173.toNatClampNeg = x187.toNatClampNeg by omega, ← F175 _]; exact ex188
        refine lv_bipush (v := 15) hx hb dX12_reckons_27 (by decide +kernel) ?_
        refine W.eq (g2 := F0 m 29 ls [.int (15 : Int32), .int x188]) rfl ?_
        refine lv_iand hx hb dX12_reckons_29 ?_
        refine lv_topi (fun x189 ex189 => ?_)
        have tx189 := zi_and 4 (by decide +kernel) (by decide) ex189
        refine lv_istore (lv' := [(5, .int x189), (4, .int j173), (0, .ref h0), (1, .int p1), (2, .int p2), (3, .int p3)]) hx hb dX12_reckons_30 hl (by decide) rfl (fun ls hl => ?_)
        refine lv_aload_n hx hb dX12_reckons_32 rfl (lv_at hl 2 rfl) ?_
        refine zq_getr E hM k_h0 (zFX12_13 E hZ) ⟨by decide, by decide, by decide, rfl⟩ dX12_reckons_33 ?_
        have k190 : zq_k X (zq_r X h0 3) = 51 := zq_lk L.1 k_h0 rfl (by decide)
        refine lv_sipush (v := 400) hx hb dX12_reckons_36 (by decide +kernel) ?_
        refine lv_iload_n hx hb dX12_reckons_39 rfl (lv_at hl 3 rfl) ?_
        refine lv_imul hx hb dX12_reckons_40 ?_
        refine lv_topi (fun x191 ex191 => ?_)
        have tx191 := zi_mul ex191 (zl_400 : (400 : Int32).toInt = 400) (rfl : p1.toInt = p1.toInt) ⟨by omega, by omega⟩
        refine lv_iload hx hb dX12_reckons_41 (lv_at hl 1 rfl) ?_
        refine lv_iadd hx hb dX12_reckons_43 ?_
        refine lv_topi (fun x192 ex192 => ?_)
        have tx192 := zi_add ex192 (rfl : x191.toInt = x191.toInt) (rfl : j173.toInt = j173.toInt) ⟨by omega, by omega⟩
        refine zq_ian (n := 2400) (j := (x192.toNatClampNeg)) E hZ hM k190 ⟨by decide, rfl⟩ ⟨by omega, by omega⟩ rfl dX12_reckons_44 (fun x193 ex193 gx193 => ?_)
        clear gx193
        have hvx193 : I (zq_r X h0 3) (400 * p1.toNatClampNeg + j173.toNatClampNeg) = x193 := by
          have h1 := zq_cl (i := p1) (by omega); have h2 := zq_cl (i := j173) (by omega); have h3 := zq_cl (i := x192) (by omega)
          rw [show 400 * p1.toNatClampNeg + j173.toNatClampNeg = x192.toNatClampNeg by omega, ← F175 _]; exact ex193
        refine W.eq (g2 := F0 m 45 ls [.int x193]) rfl ?_
        refine lv_iconst (v := 4) hx hb dX12_reckons_45 (by decide +kernel) ?_
        refine lv_ishr hx hb dX12_reckons_46 ?_
        refine lv_topi (fun x194 ex194 => ?_)
        refine lv_istore (lv' := [(6, .int x194), (5, .int x189), (4, .int j173), (0, .ref h0), (1, .int p1), (2, .int p2), (3, .int p3)]) hx hb dX12_reckons_47 hl (by decide) rfl (fun ls hl => ?_)
        have hst : zst x189 x194 (D j173.toNatClampNeg) (D (j173.toNatClampNeg + 1)) := by
          have q := hD9 j173.toNatClampNeg (by have h1 := zq_cl (i := j173) (by omega); have h2 := zq_cl (i := p2) (by omega); omega) (by have h1 := zq_cl (i := j173) (by omega); have h2 := zq_cl (i := p3) (by omega); omega)
          rw [hvx193] at q
          rw [ex189, ex194, show x188 = x193 from hvx188.symm.trans hvx193]; exact q
        unfold zst at hst
        refine lv_iload hx hb dX12_reckons_49 (lv_at hl 1 rfl) ?_
        have J129 : ∀ (I243 : zq_M) (H : Heap) (locs : List Loc) (ls : Array Slot), (zq_hm X (zk, zn) I243 H) → (va_S (zq_A X) s.heap H locs) → (zq_fr (zf X zw_X12_reckons (fun _ => False)) I I243) → (∀ j, I243 (zq_r X h0 3) j = I (zq_r X h0 3) j) → ((I243 h0 18).toInt = ((D (j173.toNatClampNeg + 1) : Nat) : Int)) → (lv_has ls 11 [(6, .int x194), (5, .int x189), (4, .int j173), (0, .ref h0), (1, .int p1), (2, .int p2), (3, .int p3)]) → W p l e R s m args below meth c H locs 0 0 Q (F0 m 129 ls []) := by
          intro I243 H locs ls hM hS hR F244 hi29 hl
          obtain ⟨x246, ex246⟩ : ∃ y : Int32, y = j173 + 1 := ⟨_, rfl⟩
          have tx246 := zi_add ex246 (rfl : j173.toInt = j173.toInt) zl_1 ⟨by omega, by omega⟩
          refine lv_iinc (v := x246) (lv' := [(4, .int x246), (6, .int x194), (5, .int x189), (0, .ref h0), (1, .int p1), (2, .int p2), (3, .int p3)]) hx hb dX12_reckons_129 hl (k := 2) rfl (by rw [ex246]; rfl) (by decide) rfl (fun ls hl => ?_)
          refine lv_goto (tgt := 8) hx hb dX12_reckons_132 (by decide) ?_
          exact ih8 I243 H locs ls x246 (by omega) hM hS hR (⟨by omega, by omega⟩) F244 (by rw [show x246.toNatClampNeg = j173.toNatClampNeg + 1 by have h1 := zq_cl (i := x246) (by omega); have h2 := zq_cl (i := j173) (by omega); omega]; omega) (⟨by omega, by omega⟩) (lv_sub hl [0, 3, 4, 5, 6] rfl)
        refine lv_if_ne (tgt := 64) hx hb dX12_reckons_51 (by decide) (fun b247 => ?_) (fun b247 => ?_)
        · have b247 := zi_ne b247 (rfl : x189.toInt = x189.toInt) (zl_0 : (0 : Int32).toInt = 0)
          refine lv_iload hx hb dX12_reckons_64 (lv_at hl 1 rfl) ?_
          refine lv_iconst (v := 1) hx hb dX12_reckons_66 (by decide +kernel) ?_
          refine lv_icmp_ne (tgt := 84) hx hb dX12_reckons_67 (by decide) (fun b248 => ?_) (fun b248 => ?_)
          · have b248 := zi_ne b248 (rfl : x189.toInt = x189.toInt) (zl_1 : (1 : Int32).toInt = 1)
            refine lv_iload hx hb dX12_reckons_84 (lv_at hl 1 rfl) ?_
            refine lv_bipush (v := 11) hx hb dX12_reckons_86 (by decide +kernel) ?_
            refine lv_icmp_ne (tgt := 104) hx hb dX12_reckons_88 (by decide) (fun b249 => ?_) (fun b249 => ?_)
            · have b249 := zi_ne b249 (rfl : x189.toInt = x189.toInt) (zl_11 : (11 : Int32).toInt = 11)
              refine lv_aload_n hx hb dX12_reckons_104 rfl (lv_at hl 3 rfl) ?_
              refine zq_calll (zq_rV (As := []) (rest := []) E hZ hM k_h0 (c_X12_pop l X zk (zn) I174 L h0 k_h0 (by omega) (by omega)) zmX12_273 zM_X12_pop (hro (0) 1 (by first | decide | omega) (by decide)) ⟨by decide, by decide⟩ rfl hl.1 rfl rfl (Nat.le_of_ble_eq_true rfl) dX12_reckons_105) hS (fun y251 I252 H locs h250 hM hS => ?_)
              obtain ⟨fr253, p254⟩ := h250
              have hR := zq_fr.call hR fr253 (zf_sub (by decide +kernel) (fun _ _ q => q.elim))
              have hA255 := fun j => zq_fr.kp fr253 (zf_n (zq_lk L.1 k_h0 rfl (by decide) : zq_k X (zq_r X h0 3) = 51) rfl) (F175 j)
              refine lv_lstore (lv' := [(7, .long y251), (6, .int x194), (5, .int x189), (4, .int j173), (0, .ref h0), (1, .int p1), (2, .int p2), (3, .int p3)]) hx hb dX12_reckons_108 hl (by decide) rfl (fun ls hl => ?_)
              refine lv_aload_n hx hb dX12_reckons_110 rfl (lv_at hl 4 rfl) ?_
              refine zq_calll (zq_rV (As := []) (rest := []) E hZ hM k_h0 (c_X12_pop l X zk (zn) I252 L h0 k_h0 (by omega) (by omega)) zmX12_273 zM_X12_pop (hro (0) 1 (by first | decide | omega) (by decide)) ⟨by decide, by decide⟩ rfl hl.1 rfl rfl (Nat.le_of_ble_eq_true rfl) dX12_reckons_111) hS (fun y257 I258 H locs h256 hM hS => ?_)
              obtain ⟨fr259, p260⟩ := h256
              have hR := zq_fr.call hR fr259 (zf_sub (by decide +kernel) (fun _ _ q => q.elim))
              have hA261 := fun j => zq_fr.kp fr259 (zf_n (zq_lk L.1 k_h0 rfl (by decide) : zq_k X (zq_r X h0 3) = 51) rfl) (hA255 j)
              refine lv_lstore (lv' := [(9, .long y257), (7, .long y251), (6, .int x194), (5, .int x189), (4, .int j173), (0, .ref h0), (1, .int p1), (2, .int p2), (3, .int p3)]) hx hb dX12_reckons_114 hl (by decide) rfl (fun ls hl => ?_)
              refine lv_aload_n hx hb dX12_reckons_116 rfl (lv_at hl 5 rfl) ?_
              refine lv_iload hx hb dX12_reckons_117 (lv_at hl 3 rfl) ?_
              refine lv_lload hx hb dX12_reckons_119 (lv_at hl 0 rfl) ?_
              refine W.eq (g2 := F0 m 121 ls [.long y257, .int x189, .ref h0]) rfl ?_
              refine lv_lload hx hb dX12_reckons_121 (lv_at hl 1 rfl) ?_
              refine zq_pcalll (zq_rS (As := [.int x189, .long y257, .long y251]) (rest := [.ref h0]) E hZ hM (c_X12_one l X zk (zn) I258 L x189 y257 y251) zmX12_277 zM_X12_one (hro (0) 5 (by first | decide | omega) (by decide)) hl.1 rfl rfl (Nat.le_of_ble_eq_true rfl) dX12_reckons_123) hS (fun y263 H locs h262 hM hS => ?_)
              clear h262
              refine zq_callv (zq_rV (As := [.long y263]) (rest := []) E hZ hM k_h0 (c_X12_push l X zk (zn) I258 L h0 k_h0 y263 (by omega) (by omega)) zmX12_269 zM_X12_push (hro (0) 3 (by first | decide | omega) (by decide)) ⟨by decide, by decide⟩ rfl hl.1 rfl rfl (Nat.le_of_ble_eq_true rfl) dX12_reckons_126) hS (fun I266 H locs h264 hM hS => ?_)
              obtain ⟨fr267, p268⟩ := h264
              have hR := zq_fr.call hR fr267 (zf_sub (by decide +kernel) (fun _ _ q => q.elim))
              have hA269 := fun j => zq_fr.kp fr267 (zf_n (zq_lk L.1 k_h0 rfl (by decide) : zq_k X (zq_r X h0 3) = 51) rfl) (hA261 j)
              exact J129 I266 H locs ls hM hS hR hA269 (by omega) (lv_sub hl [2, 3, 4, 5, 6, 7, 8] rfl)
            · have b249 := zi_eq b249 (rfl : x189.toInt = x189.toInt) (zl_11 : (11 : Int32).toInt = 11)
              refine lv_aload_n hx hb dX12_reckons_91 rfl (lv_at hl 3 rfl) ?_
              refine lv_lconst (v := 1) hx hb dX12_reckons_92 (by decide +kernel) ?_
              refine lv_aload_n hx hb dX12_reckons_93 rfl (lv_at hl 3 rfl) ?_
              refine zq_calll (zq_rV (As := []) (rest := [.long (1 : Int64), .ref h0]) E hZ hM k_h0 (c_X12_pop l X zk (zn) I174 L h0 k_h0 (by omega) (by omega)) zmX12_273 zM_X12_pop (hro (0) 1 (by first | decide | omega) (by decide)) ⟨by decide, by decide⟩ rfl hl.1 rfl rfl (Nat.le_of_ble_eq_true rfl) dX12_reckons_94) hS (fun y271 I272 H locs h270 hM hS => ?_)
              obtain ⟨fr273, p274⟩ := h270
              have hR := zq_fr.call hR fr273 (zf_sub (by decide +kernel) (fun _ _ q => q.elim))
              have hA275 := fun j => zq_fr.kp fr273 (zf_n (zq_lk L.1 k_h0 rfl (by decide) : zq_k X (zq_r X h0 3) = 51) rfl) (F175 j)
              refine lv_lsub hx hb dX12_reckons_97 ?_
              refine lv_topl (fun y276 ey276 => ?_)
              refine zq_callv (zq_rV (As := [.long y276]) (rest := []) E hZ hM k_h0 (c_X12_push l X zk (zn) I272 L h0 k_h0 y276 (by omega) (by omega)) zmX12_269 zM_X12_push (hro (0) 3 (by first | decide | omega) (by decide)) ⟨by decide, by decide⟩ rfl hl.1 rfl rfl (Nat.le_of_ble_eq_true rfl) dX12_reckons_98) hS (fun I279 H locs h277 hM hS => ?_)
              obtain ⟨fr280, p281⟩ := h277
              have hR := zq_fr.call hR fr280 (zf_sub (by decide +kernel) (fun _ _ q => q.elim))
              have hA282 := fun j => zq_fr.kp fr280 (zf_n (zq_lk L.1 k_h0 rfl (by decide) : zq_k X (zq_r X h0 3) = 51) rfl) (hA275 j)
              refine lv_goto (tgt := 129) hx hb dX12_reckons_101 (by decide) ?_
              exact J129 I279 H locs ls hM hS hR hA282 (by omega) (lv_sub hl [0, 1, 2, 3, 4, 5, 6] rfl)
          · have b248 := zi_eq b248 (rfl : x189.toInt = x189.toInt) (zl_1 : (1 : Int32).toInt = 1)
            refine lv_aload_n hx hb dX12_reckons_70 rfl (lv_at hl 3 rfl) ?_
            refine lv_aload_n hx hb dX12_reckons_71 rfl (lv_at hl 3 rfl) ?_
            refine zq_getr E hM k_h0 (zFX12_36 E hZ) ⟨by decide, by decide, by decide, rfl⟩ dX12_reckons_72 ?_
            have k283 : zq_k X (zq_r X h0 19) = 58 := zq_lk L.1 k_h0 rfl (by decide)
            refine lv_iload hx hb dX12_reckons_75 (lv_at hl 0 rfl) ?_
            refine zq_lald (n := 13) E hZ hM k283 ⟨by decide, rfl⟩ ⟨by omega, by omega⟩ dX12_reckons_77 (fun y284 => ?_)
            refine zq_callv (zq_rV (As := [.long y284]) (rest := []) E hZ hM k_h0 (c_X12_push l X zk (zn) I174 L h0 k_h0 y284 (by omega) (by omega)) zmX12_269 zM_X12_push (hro (0) 3 (by first | decide | omega) (by decide)) ⟨by decide, by decide⟩ rfl hl.1 rfl rfl (Nat.le_of_ble_eq_true rfl) dX12_reckons_78) hS (fun I287 H locs h285 hM hS => ?_)
            obtain ⟨fr288, p289⟩ := h285
            have hR := zq_fr.call hR fr288 (zf_sub (by decide +kernel) (fun _ _ q => q.elim))
            have hA290 := fun j => zq_fr.kp fr288 (zf_n (zq_lk L.1 k_h0 rfl (by decide) : zq_k X (zq_r X h0 3) = 51) rfl) (F175 j)
            refine lv_goto (tgt := 129) hx hb dX12_reckons_81 (by decide) ?_
            exact J129 I287 H locs ls hM hS hR hA290 (by omega) (lv_sub hl [0, 1, 2, 3, 4, 5, 6] rfl)
        · have b247 := zi_eq b247 (rfl : x189.toInt = x189.toInt) (zl_0 : (0 : Int32).toInt = 0)
          refine lv_aload_n hx hb dX12_reckons_54 rfl (lv_at hl 3 rfl) ?_
          refine lv_iload hx hb dX12_reckons_55 (lv_at hl 0 rfl) ?_
          refine lv_i2l hx hb dX12_reckons_57 rfl ?_
          refine lv_topl (fun y291 ey291 => ?_)
          have ty291 := zi_i2l ey291
          have := zi_rng x194
          refine zq_callv (zq_rV (As := [.long y291]) (rest := []) E hZ hM k_h0 (c_X12_push l X zk (zn) I174 L h0 k_h0 y291 (by omega) (by omega)) zmX12_269 zM_X12_push (hro (0) 3 (by first | decide | omega) (by decide)) ⟨by decide, by decide⟩ rfl hl.1 rfl rfl (Nat.le_of_ble_eq_true rfl) dX12_reckons_58) hS (fun I294 H locs h292 hM hS => ?_)
          obtain ⟨fr295, p296⟩ := h292
          have hR := zq_fr.call hR fr295 (zf_sub (by decide +kernel) (fun _ _ q => q.elim))
          have hA297 := fun j => zq_fr.kp fr295 (zf_n (zq_lk L.1 k_h0 rfl (by decide) : zq_k X (zq_r X h0 3) = 51) rfl) (F175 j)
          refine lv_goto (tgt := 129) hx hb dX12_reckons_61 (by decide) ?_
          exact J129 I294 H locs ls hM hS hR hA297 (by omega) (lv_sub hl [0, 1, 2, 3, 4, 5, 6] rfl)
  exact J8 (400 + 1 - p2.toInt).toNat I101 H locs ls p2 (by omega) hM hS hR (⟨by omega, by omega⟩) hA102 (by rw [(zq_kv eI101), hD0]; decide +kernel) (⟨by omega, by omega⟩) (lv_sub hl [0, 1, 2, 3, 4] rfl)
