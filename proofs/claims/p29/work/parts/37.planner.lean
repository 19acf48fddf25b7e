set_option maxHeartbeats 8000000 in
set_option maxRecDepth 100000 in
theorem c_X2_isSpan (l : Launch) (X : zq_X) (zk zn : Nat) (I : zq_M) (L : zq_L X)  (p1 : Int32)  : Met l yX2_isSpan (zt_w yX2_isSpan cX2_isSpan 1 (some .boolean)) (zq_rm (1)) (va_Pc [.int p1] (zq_W X (zk, zn) I)) (va_Qi (fun (r : Int32) I2 => I2 = I ∧ (0 ≤ r.toInt ∧ r.toInt ≤ 1) ∧ (r.toInt = 0 ∨ (1 ≤ p1.toInt ∧ p1.toInt ≤ 24))) (zq_E X (zk, zn)) (zq_A X)) 0 0 (zq_A X) := by
  refine Met.ofW (cc := cX2_isSpan) (maxL := 1) (ret := (some .boolean)) (by decide) rfl ?_
  intro p e s m args below meth c s₁ B hml hv
  obtain ⟨hargs, hM, hZ⟩ := hv
  have hown : s.vm.findClass RX2 = some m.cls := findClass_of_methodNamed B.named
  have hts := atoms_spec (ws := zt_w yX2_isSpan cX2_isSpan 1 (some .boolean)) B.pre
  have E : CallFix p m c cX2_isSpan 1 s args (Cond.code yX2_isSpan cX2_isSpan 1 (some .boolean) :: zt) RX2 := ⟨B.exec, B.bytes, hml, hown, hts⟩
  have hx := B.exec
  have hb := B.bytes
  have hr := B.returns
  have hlocks := B.notSynchronized
  clear B
  have hS : va_S (zq_A X) s.heap s.heap [] := va_S.rf
  have hl := lv_entry ([.int p1]) (n := 1) (by exact Nat.le_of_ble_eq_true rfl)
  have hg : entryFrame m args 1 = F0 m 0 ((lg_sl ([.int p1]) ++ List.replicate (1 - (lg_sl ([.int p1])).length) Slot.unset).toArray) [] := by rw [hargs]; exact lg_entry_eq m ([.int p1]) 1
  rw [hg]
  clear hg hargs
  generalize (lg_sl ([.int p1]) ++ List.replicate (1 - (lg_sl ([.int p1])).length) Slot.unset).toArray = ls at hl ⊢
  have hl : lv_has ls 1 [(0, .int p1)] := by exact hl
  obtain ⟨R, hRm⟩ : ∃ R : Room, R = (headSpec (zt_w yX2_isSpan cX2_isSpan 1 (some .boolean)) (zq_rm (1))).room := ⟨_, rfl⟩
  rw [← hRm]
  have hro : ∀ d q : Nat, d + 1 ≤ 1 → q ≤ 45 → zq_rok d q R := fun d q h1 h2 => by rw [hRm]; exact zq_rokI h1 h2
  generalize hQ : MQ below _ args s 0 0 (zq_A X) = Q
  obtain ⟨H, hH⟩ : ∃ H, H = s.heap := ⟨_, rfl⟩
  obtain ⟨locs, hlo⟩ : ∃ x : List Loc, x = [] := ⟨_, rfl⟩
  rw [show W p l e R s m args below meth c s.heap [] 0 0 Q = W p l e R s m args below meth c H locs 0 0 Q by rw [hH, hlo]]
  have hM : zq_hm X (zk, zn) I H := by rw [hH]; exact hM
  have hS : va_S (zq_A X) s.heap H locs := by rw [hH, hlo]; exact hS
  clear hH hlo
  refine lv_iload_n hx hb dX2_isSpan_0 rfl (lv_at hl 0 rfl) ?_
  refine lv_iconst (v := 1) hx hb dX2_isSpan_1 (by decide +kernel) ?_
  refine lv_bipush (v := 24) hx hb dX2_isSpan_2 (by decide +kernel) ?_
  refine zq_pcalli (zq_rN (As := [.int p1, .int (1 : Int32), .int (24 : Int32)]) (rest := []) E hZ hM (c_X11_isWithin l X zk (zn) I L p1 (1 : Int32) (24 : Int32)) hZ.2.2.1 zM_X11_isWithin (hro (0) 3 (by first | decide | omega) (by decide)) hl.1 rfl rfl (Nat.le_of_ble_eq_true rfl) dX2_isSpan_4) hS (fun x102 H locs h101 hM hS => ?_)
  obtain ⟨p103, p104⟩ := h101
  have := zl_1
  have := zl_24
  subst hQ
  exact zq_zret E hr hZ hM hS (show 0 ≤ x102.toInt ∧ x102.toInt ≤ 1 from ⟨by omega, by omega⟩) ⟨rfl, (by omega), (by omega)⟩ hlocks dX2_isSpan_7
def zw_X2_forget : List (Nat × Nat) := [(3, 3)]
set_option maxHeartbeats 8000000 in
set_option maxRecDepth 100000 in
theorem c_X2_forget (l : Launch) (X : zq_X) (zk zn : Nat) (I : zq_M) (L : zq_L X)  (h0 : Nat) (k_h0 : zq_k X h0 = 3)  : Met l yX2_forget (zt_w yX2_forget cX2_forget 1 none) (zq_rm (0)) (va_Pc [.ref h0] (zq_W X (zk, zn) I)) (va_Qv (fun I2 => zq_fr (zf X zw_X2_forget (fun _ => False)) I I2) (zq_E X (zk, zn)) (zq_A X)) 0 0 (zq_A X) := by
  refine Met.ofW (cc := cX2_forget) (maxL := 1) (ret := none) (by decide) rfl ?_
  intro p e s m args below meth c s₁ B hml hv
  obtain ⟨hargs, hM, hZ⟩ := hv
  have hown : s.vm.findClass RX2 = some m.cls := findClass_of_methodNamed B.named
  have hts := atoms_spec (ws := zt_w yX2_forget cX2_forget 1 none) B.pre
  have E : CallFix p m c cX2_forget 1 s args (Cond.code yX2_forget cX2_forget 1 none :: zt) RX2 := ⟨B.exec, B.bytes, hml, hown, hts⟩
  have hx := B.exec
  have hb := B.bytes
  have hr := B.returns
  have hlocks := B.notSynchronized
  clear B
  have hS : va_S (zq_A X) s.heap s.heap [] := va_S.rf
  have hR : zq_fr (zf X zw_X2_forget (fun _ => False)) I I := zq_fr.rf
  have hl := lv_entry ([.ref h0]) (n := 1) (by exact Nat.le_of_ble_eq_true rfl)
  have hg : entryFrame m args 1 = F0 m 0 ((lg_sl ([.ref h0]) ++ List.replicate (1 - (lg_sl ([.ref h0])).length) Slot.unset).toArray) [] := by rw [hargs]; exact lg_entry_eq m ([.ref h0]) 1
  rw [hg]
  clear hg hargs
  generalize (lg_sl ([.ref h0]) ++ List.replicate (1 - (lg_sl ([.ref h0])).length) Slot.unset).toArray = ls at hl ⊢
  have hl : lv_has ls 1 [(0, .ref h0)] := by exact hl
  obtain ⟨R, hRm⟩ : ∃ R : Room, R = (headSpec (zt_w yX2_forget cX2_forget 1 none) (zq_rm (0))).room := ⟨_, rfl⟩
  rw [← hRm]
  generalize hQ : MQ below _ args s 0 0 (zq_A X) = Q
  obtain ⟨H, hH⟩ : ∃ H, H = s.heap := ⟨_, rfl⟩
  obtain ⟨locs, hlo⟩ : ∃ x : List Loc, x = [] := ⟨_, rfl⟩
  rw [show W p l e R s m args below meth c s.heap [] 0 0 Q = W p l e R s m args below meth c H locs 0 0 Q by rw [hH, hlo]]
  have hM : zq_hm X (zk, zn) I H := by rw [hH]; exact hM
  have hS : va_S (zq_A X) s.heap H locs := by rw [hH, hlo]; exact hS
  clear hH hlo
  refine lv_aload_n hx hb dX2_forget_0 rfl (lv_at hl 0 rfl) ?_
  refine lv_iconst (v := 0) hx hb dX2_forget_1 (by decide +kernel) ?_
  refine zq_pn E hM hS k_h0 (zGX2_29 E hZ) ⟨by decide, by decide, by decide, rfl⟩ (zq_any _) dX2_forget_2 (fun I101 H locs eI101 hM hS => ?_)
  have hR := zq_fr.putE hR eI101 (zf_i k_h0 rfl rfl)
  subst hQ
  exact zq_vret E hr hZ hM hS hR hlocks dX2_forget_5
def zw_X2_knows : List (Nat × Nat) := [(3, 3), (3, 4), (3, 5)]
set_option maxHeartbeats 8000000 in
set_option maxRecDepth 100000 in
theorem c_X2_knows (l : Launch) (X : zq_X) (zk zn : Nat) (I : zq_M) (L : zq_L X)  (h0 : Nat) (k_h0 : zq_k X h0 = 3) (p1 : Int32) (p2 : Int32) (p3 : Int32) (g_p3 : 0 ≤ p3.toInt ∧ p3.toInt ≤ 24) : Met l yX2_knows (zt_w yX2_knows cX2_knows 5 (some .boolean)) (zq_rm (0)) (va_Pc [.ref h0, .int p1, .int p2, .int p3] (zq_W X (zk, zn) I)) (va_Qi (fun (r : Int32) I2 => zq_fr (zf X zw_X2_knows (fun _ => False)) I I2 ∧ (0 ≤ r.toInt ∧ r.toInt ≤ 1)) (zq_E X (zk, zn)) (zq_A X)) 0 0 (zq_A X) := by
  refine Met.ofW (cc := cX2_knows) (maxL := 5) (ret := (some .boolean)) (by decide) rfl ?_
  intro p e s m args below meth c s₁ B hml hv
  obtain ⟨hargs, hM, hZ⟩ := hv
  have hown : s.vm.findClass RX2 = some m.cls := findClass_of_methodNamed B.named
  have hts := atoms_spec (ws := zt_w yX2_knows cX2_knows 5 (some .boolean)) B.pre
  have E : CallFix p m c cX2_knows 5 s args (Cond.code yX2_knows cX2_knows 5 (some .boolean) :: zt) RX2 := ⟨B.exec, B.bytes, hml, hown, hts⟩
  have hx := B.exec
  have hb := B.bytes
  have hr := B.returns
  have hlocks := B.notSynchronized
  clear B
  have hS : va_S (zq_A X) s.heap s.heap [] := va_S.rf
  have hR : zq_fr (zf X zw_X2_knows (fun _ => False)) I I := zq_fr.rf
  have hl := lv_entry ([.ref h0, .int p1, .int p2, .int p3]) (n := 5) (by exact Nat.le_of_ble_eq_true rfl)
  have hg : entryFrame m args 5 = F0 m 0 ((lg_sl ([.ref h0, .int p1, .int p2, .int p3]) ++ List.replicate (5 - (lg_sl ([.ref h0, .int p1, .int p2, .int p3])).length) Slot.unset).toArray) [] := by rw [hargs]; exact lg_entry_eq m ([.ref h0, .int p1, .int p2, .int p3]) 5
  rw [hg]
  clear hg hargs
  generalize (lg_sl ([.ref h0, .int p1, .int p2, .int p3]) ++ List.replicate (5 - (lg_sl ([.ref h0, .int p1, .int p2, .int p3])).length) Slot.unset).toArray = ls at hl ⊢
  have hl : lv_has ls 5 [(0, .ref h0), (1, .int p1), (2, .int p2), (3, .int p3)] := by exact hl
  obtain ⟨R, hRm⟩ : ∃ R : Room, R = (headSpec (zt_w yX2_knows cX2_knows 5 (some .boolean)) (zq_rm (0))).room := ⟨_, rfl⟩
  rw [← hRm]
  generalize hQ : MQ below _ args s 0 0 (zq_A X) = Q
  obtain ⟨H, hH⟩ : ∃ H, H = s.heap := ⟨_, rfl⟩
  obtain ⟨locs, hlo⟩ : ∃ x : List Loc, x = [] := ⟨_, rfl⟩
  rw [show W p l e R s m args below meth c s.heap [] 0 0 Q = W p l e R s m args below meth c H locs 0 0 Q by rw [hH, hlo]]
  have hM : zq_hm X (zk, zn) I H := by rw [hH]; exact hM
  have hS : va_S (zq_A X) s.heap H locs := by rw [hH, hlo]; exact hS
  clear hH hlo
  refine lv_aload_n hx hb dX2_knows_0 rfl (lv_at hl 0 rfl) ?_
  refine zq_gn E hM k_h0 (zFX2_29 E hZ) (Or.inl ⟨by decide, by decide, by decide, rfl⟩) dX2_knows_1 (fun x101 ex101 gx101 => ?_)
  clear gx101
  refine lv_iload_n hx hb dX2_knows_4 rfl (lv_at hl 1 rfl) ?_
  have J29 : ∀ (ls : Array Slot) (j104 : Int32), (0 ≤ j104.toInt ∧ j104.toInt ≤ 1) → (lv_has ls 5 [(0, .ref h0), (1, .int p1), (2, .int p2), (3, .int p3)]) → W p l e R s m args below meth c H locs 0 0 Q (F0 m 29 ls [.int j104]) := by
    intro ls j104 gj104 hl
    refine lv_istore (lv' := [(4, .int j104), (0, .ref h0), (1, .int p1), (2, .int p2), (3, .int p3)]) hx hb dX2_knows_29 hl (by decide) rfl (fun ls hl => ?_)
    refine lv_aload_n hx hb dX2_knows_31 rfl (lv_at hl 1 rfl) ?_
    refine lv_iload_n hx hb dX2_knows_32 rfl (lv_at hl 2 rfl) ?_
    refine zq_pn E hM hS k_h0 (zGX2_29 E hZ) ⟨by decide, by decide, by decide, rfl⟩ (zq_any _) dX2_knows_33 (fun I108 H locs eI108 hM hS => ?_)
    have hR := zq_fr.putE hR eI108 (zf_i k_h0 rfl rfl)
    refine lv_aload_n hx hb dX2_knows_36 rfl (lv_at hl 1 rfl) ?_
    refine lv_iload_n hx hb dX2_knows_37 rfl (lv_at hl 3 rfl) ?_
    refine zq_pn E hM hS k_h0 (zGX2_33 E hZ) ⟨by decide, by decide, by decide, rfl⟩ (zq_any _) dX2_knows_38 (fun I109 H locs eI109 hM hS => ?_)
    have hR := zq_fr.putE hR eI109 (zf_i k_h0 rfl rfl)
    refine lv_aload_n hx hb dX2_knows_41 rfl (lv_at hl 1 rfl) ?_
    refine lv_iload_n hx hb dX2_knows_42 rfl (lv_at hl 4 rfl) ?_
    refine W.eq (g2 := F0 m 43 ls [.int p3, .ref h0]) rfl ?_
    refine zq_pn E hM hS k_h0 (zGX2_36 E hZ) ⟨by decide, by decide, by decide, rfl⟩ (show 0 ≤ p3.toInt ∧ p3.toInt ≤ 24 from ⟨by omega, by omega⟩) dX2_knows_43 (fun I110 H locs eI110 hM hS => ?_)
    have hR := zq_fr.putE hR eI110 (zf_i k_h0 rfl rfl)
    refine lv_iload hx hb dX2_knows_46 (lv_at hl 0 rfl) ?_
    subst hQ
    exact zq_zret E hr hZ hM hS (show 0 ≤ j104.toInt ∧ j104.toInt ≤ 1 from ⟨by omega, by omega⟩) ⟨hR, (by omega)⟩ hlocks dX2_knows_48
  have J28 : ∀ (ls : Array Slot), (lv_has ls 5 [(0, .ref h0), (1, .int p1), (2, .int p2), (3, .int p3)]) → W p l e R s m args below meth c H locs 0 0 Q (F0 m 28 ls []) := by
    intro ls hl
    refine lv_iconst (v := 0) hx hb dX2_knows_28 (by decide +kernel) ?_
    exact J29 ls (0 : Int32) (by rw [zl_0]; decide) (lv_sub hl [0, 1, 2, 3] rfl)
  refine lv_icmp_ne (tgt := 28) hx hb dX2_knows_5 (by decide) (fun b111 => ?_) (fun b111 => ?_)
  · have b111 := zi_ne b111 (rfl : x101.toInt = x101.toInt) (rfl : p1.toInt = p1.toInt)
    exact J28 ls (lv_sub hl [0, 1, 2, 3] rfl)
  · have b111 := zi_eq b111 (rfl : x101.toInt = x101.toInt) (rfl : p1.toInt = p1.toInt)
    refine lv_aload_n hx hb dX2_knows_8 rfl (lv_at hl 0 rfl) ?_
    refine zq_gn E hM k_h0 (zFX2_33 E hZ) (Or.inl ⟨by decide, by decide, by decide, rfl⟩) dX2_knows_9 (fun x112 ex112 gx112 => ?_)
    clear gx112
    refine lv_iload_n hx hb dX2_knows_12 rfl (lv_at hl 2 rfl) ?_
    refine lv_icmp_ne (tgt := 28) hx hb dX2_knows_13 (by decide) (fun b113 => ?_) (fun b113 => ?_)
    · have b113 := zi_ne b113 (rfl : x112.toInt = x112.toInt) (rfl : p2.toInt = p2.toInt)
      exact J28 ls (lv_sub hl [0, 1, 2, 3] rfl)
    · have b113 := zi_eq b113 (rfl : x112.toInt = x112.toInt) (rfl : p2.toInt = p2.toInt)
      refine lv_aload_n hx hb dX2_knows_16 rfl (lv_at hl 0 rfl) ?_
      refine zq_gn E hM k_h0 (zFX2_36 E hZ) (Or.inl ⟨by decide, by decide, by decide, rfl⟩) dX2_knows_17 (fun x114 ex114 gx114 => ?_)
      replace gx114 : 0 ≤ x114.toInt ∧ x114.toInt ≤ 24 := gx114
      refine lv_iload_n hx hb dX2_knows_20 rfl (lv_at hl 3 rfl) ?_
      refine lv_icmp_ne (tgt := 28) hx hb dX2_knows_21 (by decide) (fun b115 => ?_) (fun b115 => ?_)
      · have b115 := zi_ne b115 (rfl : x114.toInt = x114.toInt) (rfl : p3.toInt = p3.toInt)
        exact J28 ls (lv_sub hl [0, 1, 2, 3] rfl)
      · have b115 := zi_eq b115 (rfl : x114.toInt = x114.toInt) (rfl : p3.toInt = p3.toInt)
        refine lv_iconst (v := 1) hx hb dX2_knows_24 (by decide +kernel) ?_
        refine lv_goto (tgt := 29) hx hb dX2_knows_25 (by decide) ?_
        exact J29 ls (1 : Int32) (by rw [zl_1]; decide) (lv_sub hl [0, 1, 2, 3] rfl)
def zw_X2_setBest : List (Nat × Nat) := [(34, 999)]
set_option maxHeartbeats 8000000 in
set_option maxRecDepth 100000 in
theorem c_X2_setBest (l : Launch) (X : zq_X) (zk zn : Nat) (I : zq_M) (L : zq_L X)  (h0 : Nat) (k_h0 : zq_k X h0 = 3) (p1 : Int32) (p2 : Int32) (p3 : Int32) (p4 : Int32)  : Met l yX2_setBest (zt_w yX2_setBest cX2_setBest 5 none) (zq_rm (0)) (va_Pc [.ref h0, .int p1, .int p2, .int p3, .int p4] (zq_W X (zk, zn) I)) (va_Qv (fun I2 => zq_fr (zf X zw_X2_setBest (fun _ => False)) I I2) (zq_E X (zk, zn)) (zq_A X)) 0 0 (zq_A X) := by
  refine Met.ofW (cc := cX2_setBest) (maxL := 5) (ret := none) (by decide) rfl ?_
  intro p e s m args below meth c s₁ B hml hv
  obtain ⟨hargs, hM, hZ⟩ := hv
  have hown : s.vm.findClass RX2 = some m.cls := findClass_of_methodNamed B.named
  have hts := atoms_spec (ws := zt_w yX2_setBest cX2_setBest 5 none) B.pre
  have E : CallFix p m c cX2_setBest 5 s args (Cond.code yX2_setBest cX2_setBest 5 none :: zt) RX2 := ⟨B.exec, B.bytes, hml, hown, hts⟩
  have hx := B.exec
  have hb := B.bytes
  have hr := B.returns
  have hlocks := B.notSynchronized
  clear B
  have hS : va_S (zq_A X) s.heap s.heap [] := va_S.rf
  have hR : zq_fr (zf X zw_X2_setBest (fun _ => False)) I I := zq_fr.rf
  have hl := lv_entry ([.ref h0, .int p1, .int p2, .int p3, .int p4]) (n := 5) (by exact Nat.le_of_ble_eq_true rfl)
  have hg : entryFrame m args 5 = F0 m 0 ((lg_sl ([.ref h0, .int p1, .int p2, .int p3, .int p4]) ++ List.replicate (5 - (lg_sl ([.ref h0, .int p1, .int p2, .int p3, .int p4])).length) Slot.unset).toArray) [] := by rw [hargs]; exact lg_entry_eq m ([.ref h0, .int p1, .int p2, .int p3, .int p4]) 5
  rw [hg]
  clear hg hargs
  generalize (lg_sl ([.ref h0, .int p1, .int p2, .int p3, .int p4]) ++ List.replicate (5 - (lg_sl ([.ref h0, .int p1, .int p2, .int p3, .int p4])).length) Slot.unset).toArray = ls at hl ⊢
  have hl : lv_has ls 5 [(0, .ref h0), (1, .int p1), (2, .int p2), (3, .int p3), (4, .int p4)] := by exact hl
  obtain ⟨R, hRm⟩ : ∃ R : Room, R = (headSpec (zt_w yX2_setBest cX2_setBest 5 none) (zq_rm (0))).room := ⟨_, rfl⟩
  rw [← hRm]
  generalize hQ : MQ below _ args s 0 0 (zq_A X) = Q
  obtain ⟨H, hH⟩ : ∃ H, H = s.heap := ⟨_, rfl⟩
  obtain ⟨locs, hlo⟩ : ∃ x : List Loc, x = [] := ⟨_, rfl⟩
  rw [show W p l e R s m args below meth c s.heap [] 0 0 Q = W p l e R s m args below meth c H locs 0 0 Q by rw [hH, hlo]]
  have hM : zq_hm X (zk, zn) I H := by rw [hH]; exact hM
  have hS : va_S (zq_A X) s.heap H locs := by rw [hH, hlo]; exact hS
  clear hH hlo
  refine lv_aload_n hx hb dX2_setBest_0 rfl (lv_at hl 0 rfl) ?_
  refine zq_getr E hM k_h0 (zFX2_18 E hZ) ⟨by decide, by decide, by decide, rfl⟩ dX2_setBest_1 ?_
  have k101 : zq_k X (zq_r X h0 1) = 34 := zq_lk L.1 k_h0 rfl (by decide)
  refine lv_iconst (v := 0) hx hb dX2_setBest_4 (by decide +kernel) ?_
  refine lv_iload_n hx hb dX2_setBest_5 rfl (lv_at hl 1 rfl) ?_
  refine zq_isn (n := 4) (j := 0) E hZ hM hS k101 ⟨by decide, rfl⟩ (by rw [zl_0]; decide) (by decide +kernel) (zq_any _) dX2_setBest_6 (fun I102 H locs eI102 hM hS => ?_)
  have hR := zq_fr.putE hR eI102 (zf_ia k101 (by decide) rfl)
  refine lv_aload_n hx hb dX2_setBest_7 rfl (lv_at hl 0 rfl) ?_
  refine zq_getr E hM k_h0 (zFX2_18 E hZ) ⟨by decide, by decide, by decide, rfl⟩ dX2_setBest_8 ?_
  have k103 : zq_k X (zq_r X h0 1) = 34 := zq_lk L.1 k_h0 rfl (by decide)
  refine lv_iconst (v := 1) hx hb dX2_setBest_11 (by decide +kernel) ?_
  refine lv_iload_n hx hb dX2_setBest_12 rfl (lv_at hl 2 rfl) ?_
  refine W.eq (g2 := F0 m 13 ls [.int p2, .int (1 : Int32), .ref (zq_r X h0 1)]) rfl ?_
  refine zq_isn (n := 4) (j := 1) E hZ hM hS k103 ⟨by decide, rfl⟩ (by rw [zl_1]; decide) (by decide +kernel) (zq_any _) dX2_setBest_13 (fun I104 H locs eI104 hM hS => ?_)
  have hR := zq_fr.putE hR eI104 (zf_ia k103 (by decide) rfl)
  refine lv_aload_n hx hb dX2_setBest_14 rfl (lv_at hl 0 rfl) ?_
  refine zq_getr E hM k_h0 (zFX2_18 E hZ) ⟨by decide, by decide, by decide, rfl⟩ dX2_setBest_15 ?_
  have k105 : zq_k X (zq_r X h0 1) = 34 := zq_lk L.1 k_h0 rfl (by decide)
  refine lv_iconst (v := 2) hx hb dX2_setBest_18 (by decide +kernel) ?_
  refine lv_iload_n hx hb dX2_setBest_19 rfl (lv_at hl 3 rfl) ?_
  refine zq_isn (n := 4) (j := 2) E hZ hM hS k105 ⟨by decide, rfl⟩ (by rw [zl_2]; decide) (by decide +kernel) (zq_any _) dX2_setBest_20 (fun I106 H locs eI106 hM hS => ?_)
  have hR := zq_fr.putE hR eI106 (zf_ia k105 (by decide) rfl)
  refine lv_aload_n hx hb dX2_setBest_21 rfl (lv_at hl 0 rfl) ?_
  refine zq_getr E hM k_h0 (zFX2_18 E hZ) ⟨by decide, by decide, by decide, rfl⟩ dX2_setBest_22 ?_
  have k107 : zq_k X (zq_r X h0 1) = 34 := zq_lk L.1 k_h0 rfl (by decide)
  refine lv_iconst (v := 3) hx hb dX2_setBest_25 (by decide +kernel) ?_
  refine lv_iload hx hb dX2_setBest_26 (lv_at hl 4 rfl) ?_
  refine W.eq (g2 := F0 m 28 ls [.int p4, .int (3 : Int32), .ref (zq_r X h0 1)]) rfl ?_
  refine zq_isn (n := 4) (j := 3) E hZ hM hS k107 ⟨by decide, rfl⟩ (by rw [zl_3]; decide) (by decide +kernel) (zq_any _) dX2_setBest_28 (fun I108 H locs eI108 hM hS => ?_)
  have hR := zq_fr.putE hR eI108 (zf_ia k107 (by decide) rfl)
  subst hQ
  exact zq_vret E hr hZ hM hS hR hlocks dX2_setBest_29
def zw_X2_keepBetter : List (Nat × Nat) := [(34, 999)]
set_option maxHeartbeats 8000000 in
set_option maxRecDepth 100000 in
theorem c_X2_keepBetter (l : Launch) (X : zq_X) (zk zn : Nat) (I : zq_M) (L : zq_L X)  (h0 : Nat) (k_h0 : zq_k X h0 = 3) (p1 : Int32) (p2 : Int32) (p3 : Int32) (p4 : Int32)  : Met l yX2_keepBetter (zt_w yX2_keepBetter cX2_keepBetter 5 none) (zq_rm (1)) (va_Pc [.ref h0, .int p1, .int p2, .int p3, .int p4] (zq_W X (zk, zn) I)) (va_Qv (fun I2 => zq_fr (zf X zw_X2_keepBetter (fun _ => False)) I I2) (zq_E X (zk, zn)) (zq_A X)) 0 0 (zq_A X) := by
  refine Met.ofW (cc := cX2_keepBetter) (maxL := 5) (ret := none) (by decide) rfl ?_
  intro p e s m args below meth c s₁ B hml hv
  obtain ⟨hargs, hM, hZ⟩ := hv
  have hown : s.vm.findClass RX2 = some m.cls := findClass_of_methodNamed B.named
  have hts := atoms_spec (ws := zt_w yX2_keepBetter cX2_keepBetter 5 none) B.pre
  have E : CallFix p m c cX2_keepBetter 5 s args (Cond.code yX2_keepBetter cX2_keepBetter 5 none :: zt) RX2 := ⟨B.exec, B.bytes, hml, hown, hts⟩
  have hx := B.exec
  have hb := B.bytes
  have hr := B.returns
  have hlocks := B.notSynchronized
  clear B
  have hS : va_S (zq_A X) s.heap s.heap [] := va_S.rf
  have hR : zq_fr (zf X zw_X2_keepBetter (fun _ => False)) I I := zq_fr.rf
  have hl := lv_entry ([.ref h0, .int p1, .int p2, .int p3, .int p4]) (n := 5) (by exact Nat.le_of_ble_eq_true rfl)
  have hg : entryFrame m args 5 = F0 m 0 ((lg_sl ([.ref h0, .int p1, .int p2, .int p3, .int p4]) ++ List.replicate (5 - (lg_sl ([.ref h0, .int p1, .int p2, .int p3, .int p4])).length) Slot.unset).toArray) [] := by rw [hargs]; exact lg_entry_eq m ([.ref h0, .int p1, .int p2, .int p3, .int p4]) 5
  rw [hg]
  clear hg hargs
  generalize (lg_sl ([.ref h0, .int p1, .int p2, .int p3, .int p4]) ++ List.replicate (5 - (lg_sl ([.ref h0, .int p1, .int p2, .int p3, .int p4])).length) Slot.unset).toArray = ls at hl ⊢
  have hl : lv_has ls 5 [(0, .ref h0), (1, .int p1), (2, .int p2), (3, .int p3), (4, .int p4)] := by exact hl
  obtain ⟨R, hRm⟩ : ∃ R : Room, R = (headSpec (zt_w yX2_keepBetter cX2_keepBetter 5 none) (zq_rm (1))).room := ⟨_, rfl⟩
  rw [← hRm]
  have hro : ∀ d q : Nat, d + 1 ≤ 1 → q ≤ 45 → zq_rok d q R := fun d q h1 h2 => by rw [hRm]; exact zq_rokI h1 h2
  generalize hQ : MQ below _ args s 0 0 (zq_A X) = Q
  obtain ⟨H, hH⟩ : ∃ H, H = s.heap := ⟨_, rfl⟩
  obtain ⟨locs, hlo⟩ : ∃ x : List Loc, x = [] := ⟨_, rfl⟩
  rw [show W p l e R s m args below meth c s.heap [] 0 0 Q = W p l e R s m args below meth c H locs 0 0 Q by rw [hH, hlo]]
  have hM : zq_hm X (zk, zn) I H := by rw [hH]; exact hM
  have hS : va_S (zq_A X) s.heap H locs := by rw [hH, hlo]; exact hS
  clear hH hlo
  refine lv_iload_n hx hb dX2_keepBetter_0 rfl (lv_at hl 1 rfl) ?_
  refine lv_aload_n hx hb dX2_keepBetter_1 rfl (lv_at hl 0 rfl) ?_
  refine zq_getr E hM k_h0 (zFX2_18 E hZ) ⟨by decide, by decide, by decide, rfl⟩ dX2_keepBetter_2 ?_
  have k101 : zq_k X (zq_r X h0 1) = 34 := zq_lk L.1 k_h0 rfl (by decide)
  refine lv_iconst (v := 0) hx hb dX2_keepBetter_5 (by decide +kernel) ?_
  refine zq_ian (n := 4) (j := 0) E hZ hM k101 ⟨by decide, rfl⟩ (by rw [zl_0]; decide) (by decide +kernel) dX2_keepBetter_6 (fun x102 ex102 gx102 => ?_)
  clear gx102
  refine lv_icmp_le (tgt := 19) hx hb dX2_keepBetter_7 (by decide) (fun b103 => ?_) (fun b103 => ?_)
  · have b103 := zi_le b103 (rfl : p1.toInt = p1.toInt) (rfl : x102.toInt = x102.toInt)
    subst hQ
    exact zq_vret E hr hZ hM hS hR hlocks dX2_keepBetter_19
  · have b103 := zi_nle b103 (rfl : p1.toInt = p1.toInt) (rfl : x102.toInt = x102.toInt)
    refine lv_aload_n hx hb dX2_keepBetter_10 rfl (lv_at hl 0 rfl) ?_
    refine lv_iload_n hx hb dX2_keepBetter_11 rfl (lv_at hl 1 rfl) ?_
    refine lv_iload_n hx hb dX2_keepBetter_12 rfl (lv_at hl 2 rfl) ?_
    refine lv_iload_n hx hb dX2_keepBetter_13 rfl (lv_at hl 3 rfl) ?_
    refine lv_iload hx hb dX2_keepBetter_14 (lv_at hl 4 rfl) ?_
    refine zq_callv (zq_rV (As := [.int p1, .int p2, .int p3, .int p4]) (rest := []) E hZ hM k_h0 (c_X2_setBest l X zk (zn) I L h0 k_h0 p1 p2 p3 p4) zmX2_50 zM_X2_setBest (hro (0) 5 (by first | decide | omega) (by decide)) ⟨by decide, by decide⟩ rfl hl.1 rfl rfl (Nat.le_of_ble_eq_true rfl) dX2_keepBetter_16) hS (fun I106 H locs h104 hM hS => ?_)
    have fr107 := h104
    have hR := zq_fr.call hR fr107 (zf_sub (by decide +kernel) (fun _ _ q => q.elim))
    subst hQ
    exact zq_vret E hr hZ hM hS hR hlocks dX2_keepBetter_19
set_option maxHeartbeats 8000000 in
set_option maxRecDepth 100000 in
theorem c_X2_gainOf (l : Launch) (X : zq_X) (zk zn : Nat) (I : zq_M) (L : zq_L X)  (p1 : Nat) (k_p1 : zq_k X p1 = 7) (p2 : Int32) (p3 : Int32) (g_p2 : 1 ≤ p2.toInt ∧ p2.toInt ≤ 10) (g_p3 : 1 ≤ p3.toInt ∧ p3.toInt ≤ 10) : Met l yX2_gainOf (zt_w yX2_gainOf cX2_gainOf 5 (some .int)) (zq_rm (1)) (va_Pc [.ref p1, .int p2, .int p3] (zq_W X (zk, zn) I)) (va_Qi (fun (r : Int32) I2 => I2 = I ∧ True) (zq_E X (zk, zn)) (zq_A X)) 0 0 (zq_A X) := by
  refine Met.ofW (cc := cX2_gainOf) (maxL := 5) (ret := (some .int)) (by decide) rfl ?_
  intro p e s m args below meth c s₁ B hml hv
  obtain ⟨hargs, hM, hZ⟩ := hv
  have hown : s.vm.findClass RX2 = some m.cls := findClass_of_methodNamed B.named
  have hts := atoms_spec (ws := zt_w yX2_gainOf cX2_gainOf 5 (some .int)) B.pre
  have E : CallFix p m c cX2_gainOf 5 s args (Cond.code yX2_gainOf cX2_gainOf 5 (some .int) :: zt) RX2 := ⟨B.exec, B.bytes, hml, hown, hts⟩
  have hx := B.exec
  have hb := B.bytes
  have hr := B.returns
  have hlocks := B.notSynchronized
  clear B
  have hS : va_S (zq_A X) s.heap s.heap [] := va_S.rf
  have hl := lv_entry ([.ref p1, .int p2, .int p3]) (n := 5) (by exact Nat.le_of_ble_eq_true rfl)
  have hg : entryFrame m args 5 = F0 m 0 ((lg_sl ([.ref p1, .int p2, .int p3]) ++ List.replicate (5 - (lg_sl ([.ref p1, .int p2, .int p3])).length) Slot.unset).toArray) [] := by rw [hargs]; exact lg_entry_eq m ([.ref p1, .int p2, .int p3]) 5
  rw [hg]
  clear hg hargs
  generalize (lg_sl ([.ref p1, .int p2, .int p3]) ++ List.replicate (5 - (lg_sl ([.ref p1, .int p2, .int p3])).length) Slot.unset).toArray = ls at hl ⊢
  have hl : lv_has ls 5 [(0, .ref p1), (1, .int p2), (2, .int p3)] := by exact hl
  obtain ⟨R, hRm⟩ : ∃ R : Room, R = (headSpec (zt_w yX2_gainOf cX2_gainOf 5 (some .int)) (zq_rm (1))).room := ⟨_, rfl⟩
  rw [← hRm]
  have hro : ∀ d q : Nat, d + 1 ≤ 1 → q ≤ 45 → zq_rok d q R := fun d q h1 h2 => by rw [hRm]; exact zq_rokI h1 h2
  generalize hQ : MQ below _ args s 0 0 (zq_A X) = Q
  obtain ⟨H, hH⟩ : ∃ H, H = s.heap := ⟨_, rfl⟩
  obtain ⟨locs, hlo⟩ : ∃ x : List Loc, x = [] := ⟨_, rfl⟩
  rw [show W p l e R s m args below meth c s.heap [] 0 0 Q = W p l e R s m args below meth c H locs 0 0 Q by rw [hH, hlo]]
  have hM : zq_hm X (zk, zn) I H := by rw [hH]; exact hM
  have hS : va_S (zq_A X) s.heap H locs := by rw [hH, hlo]; exact hS
  clear hH hlo
  refine lv_iconst (v := 1) hx hb dX2_gainOf_0 (by decide +kernel) ?_
  refine lv_aload_n hx hb dX2_gainOf_1 rfl (lv_at hl 0 rfl) ?_
  refine zq_gn E hM k_p1 (zFX2_121 E hZ) (Or.inl ⟨by decide, by decide, by decide, rfl⟩) dX2_gainOf_2 (fun x101 ex101 gx101 => ?_)
  replace gx101 : (-1) ≤ x101.toInt ∧ x101.toInt ≤ 99 := gx101
  refine lv_iload_n hx hb dX2_gainOf_5 rfl (lv_at hl 1 rfl) ?_
  refine lv_imul hx hb dX2_gainOf_6 ?_
  refine lv_topi (fun x102 ex102 => ?_)
  refine lv_bipush (v := 10) hx hb dX2_gainOf_7 (by decide +kernel) ?_
  refine lv_idiv hx hb dX2_gainOf_9 (by decide +kernel) ?_
  refine lv_topi (fun x103 ex103 => ?_)
  have tx103 := (zi_divt ex103 (rfl : x102.toInt = x102.toInt) (zl_10 : (10 : Int32).toInt = 10) (by omega)).2
  have := zi_rng x102
  refine zq_pcalli (zq_rS (As := [.int (1 : Int32), .int x103]) (rest := []) E hZ hM (c_J9_max_7cf53 l X zk (zn) I L (1 : Int32) x103) zmX2_124 zM_J9_max_7cf53 (hro (0) 2 (by first | decide | omega) (by decide)) hl.1 rfl rfl (Nat.le_of_ble_eq_true rfl) dX2_gainOf_10) hS (fun x105 H locs h104 hM hS => ?_)
  have p106 := h104
  have := zl_1
  refine lv_istore_n (lv' := [(3, .int x105), (0, .ref p1), (1, .int p2), (2, .int p3)]) hx hb dX2_gainOf_13 rfl hl (by decide) rfl (fun ls hl => ?_)
  refine W.eq (g2 := F0 m 14 ls []) rfl ?_
  refine lv_iconst (v := 1) hx hb dX2_gainOf_14 (by decide +kernel) ?_
  refine lv_aload_n hx hb dX2_gainOf_15 rfl (lv_at hl 1 rfl) ?_
  refine zq_gk (v := x101) E hM k_p1 (zFX2_121 E hZ) (Or.inl ⟨by decide, by decide, by decide, rfl⟩) ex101 dX2_gainOf_16 ?_
  refine lv_iload_n hx hb dX2_gainOf_19 rfl (lv_at hl 3 rfl) ?_
  refine lv_imul hx hb dX2_gainOf_20 ?_
  refine lv_topi (fun x107 ex107 => ?_)
  refine lv_bipush (v := 10) hx hb dX2_gainOf_21 (by decide +kernel) ?_
  refine lv_idiv hx hb dX2_gainOf_23 (by decide +kernel) ?_
  refine lv_topi (fun x108 ex108 => ?_)
  have tx108 := (zi_divt ex108 (rfl : x107.toInt = x107.toInt) (zl_10 : (10 : Int32).toInt = 10) (by omega)).2
  have := zi_rng x107
  refine zq_pcalli (zq_rS (As := [.int (1 : Int32), .int x108]) (rest := []) E hZ hM (c_J9_max_7cf53 l X zk (zn) I L (1 : Int32) x108) zmX2_124 zM_J9_max_7cf53 (hro (0) 2 (by first | decide | omega) (by decide)) hl.1 rfl rfl (Nat.le_of_ble_eq_true rfl) dX2_gainOf_24) hS (fun x110 H locs h109 hM hS => ?_)
  have p111 := h109
  have := zl_1
  refine lv_istore (lv' := [(4, .int x110), (3, .int x105), (0, .ref p1), (1, .int p2), (2, .int p3)]) hx hb dX2_gainOf_27 hl (by decide) rfl (fun ls hl => ?_)
  refine lv_iload_n hx hb dX2_gainOf_29 rfl (lv_at hl 1 rfl) ?_
  refine W.eq (g2 := F0 m 30 ls [.int x105]) rfl ?_
  refine lv_iload hx hb dX2_gainOf_30 (lv_at hl 0 rfl) ?_
  refine lv_icmp_le (tgt := 37) hx hb dX2_gainOf_32 (by decide) (fun b112 => ?_) (fun b112 => ?_)
  · have b112 := zi_le b112 (rfl : x105.toInt = x105.toInt) (rfl : x110.toInt = x110.toInt)
    refine lv_iload_n hx hb dX2_gainOf_37 rfl (lv_at hl 1 rfl) ?_
    refine lv_iload_n hx hb dX2_gainOf_38 rfl (lv_at hl 1 rfl) ?_
    refine lv_iload hx hb dX2_gainOf_39 (lv_at hl 0 rfl) ?_
    have J57 : ∀ (ls : Array Slot) (j116 : Int32), ((-1) ≤ j116.toInt ∧ j116.toInt ≤ 99) → (lv_has ls 5 [(4, .int x110), (3, .int x105), (0, .ref p1), (1, .int p2), (2, .int p3)]) → W p l e R s m args below meth c H locs 0 0 Q (F0 m 57 ls [.int j116, .int x105]) := by
      intro ls j116 gj116 hl
      refine lv_imul hx hb dX2_gainOf_57 ?_
      refine lv_topi (fun x118 ex118 => ?_)
      subst hQ
      exact zq_iret E hr hZ hM hS ⟨rfl, trivial⟩ hlocks dX2_gainOf_58
    refine lv_icmp_ge (tgt := 51) hx hb dX2_gainOf_41 (by decide) (fun b119 => ?_) (fun b119 => ?_)
    · have b119 := zi_le b119 (rfl : x110.toInt = x110.toInt) (rfl : x105.toInt = x105.toInt)
      refine lv_aload_n hx hb dX2_gainOf_51 rfl (lv_at hl 2 rfl) ?_
      refine zq_gn E hM k_p1 (zFX2_130 E hZ) (Or.inl ⟨by decide, by decide, by decide, rfl⟩) dX2_gainOf_52 (fun x120 ex120 gx120 => ?_)
      replace gx120 : (-1) ≤ x120.toInt ∧ x120.toInt ≤ 99 := gx120
      refine lv_iconst (v := 2) hx hb dX2_gainOf_55 (by decide +kernel) ?_
      refine lv_idiv hx hb dX2_gainOf_56 (by decide +kernel) ?_
      refine lv_topi (fun x121 ex121 => ?_)
      have tx121 := (zi_divt ex121 (rfl : x120.toInt = x120.toInt) (zl_2 : (2 : Int32).toInt = 2) (by omega)).2
      exact J57 ls x121 (⟨by omega, by omega⟩) (lv_sub hl [0, 1, 2, 3, 4] rfl)
    · have b119 := zi_nle b119 (rfl : x110.toInt = x110.toInt) (rfl : x105.toInt = x105.toInt)
      refine lv_aload_n hx hb dX2_gainOf_44 rfl (lv_at hl 2 rfl) ?_
      refine zq_gn E hM k_p1 (zFX2_130 E hZ) (Or.inl ⟨by decide, by decide, by decide, rfl⟩) dX2_gainOf_45 (fun x122 ex122 gx122 => ?_)
      replace gx122 : (-1) ≤ x122.toInt ∧ x122.toInt ≤ 99 := gx122
      refine lv_goto (tgt := 57) hx hb dX2_gainOf_48 (by decide) ?_
      exact J57 ls x122 (⟨by omega, by omega⟩) (lv_sub hl [0, 1, 2, 3, 4] rfl)
  · have b112 := zi_nle b112 (rfl : x105.toInt = x105.toInt) (rfl : x110.toInt = x110.toInt)
    refine lv_iconst (v := 0) hx hb dX2_gainOf_35 (by decide +kernel) ?_
    subst hQ
    exact zq_iret E hr hZ hM hS ⟨rfl, trivial⟩ hlocks dX2_gainOf_36
set_option maxHeartbeats 8000000 in
set_option maxRecDepth 100000 in
theorem c_X2_isContent (l : Launch) (X : zq_X) (zk zn : Nat) (I : zq_M) (L : zq_L X)  (p1 : Nat) (k_p1 : zq_k X p1 = 7) (p2 : Int32) (p3 : Int32) (g_p2 : 1 ≤ p2.toInt ∧ p2.toInt ≤ 10) (g_p3 : 1 ≤ p3.toInt ∧ p3.toInt ≤ 10) : Met l yX2_isContent (zt_w yX2_isContent cX2_isContent 5 (some .boolean)) (zq_rm (2)) (va_Pc [.ref p1, .int p2, .int p3] (zq_W X (zk, zn) I)) (va_Qi (fun (r : Int32) I2 => I2 = I ∧ (0 ≤ r.toInt ∧ r.toInt ≤ 1)) (zq_E X (zk, zn)) (zq_A X)) 0 0 (zq_A X) := by
  refine Met.ofW (cc := cX2_isContent) (maxL := 5) (ret := (some .boolean)) (by decide) rfl ?_
  intro p e s m args below meth c s₁ B hml hv
  obtain ⟨hargs, hM, hZ⟩ := hv
  have hown : s.vm.findClass RX2 = some m.cls := findClass_of_methodNamed B.named
  have hts := atoms_spec (ws := zt_w yX2_isContent cX2_isContent 5 (some .boolean)) B.pre
  have E : CallFix p m c cX2_isContent 5 s args (Cond.code yX2_isContent cX2_isContent 5 (some .boolean) :: zt) RX2 := ⟨B.exec, B.bytes, hml, hown, hts⟩
  have hx := B.exec
  have hb := B.bytes
  have hr := B.returns
  have hlocks := B.notSynchronized
  clear B
  have hS : va_S (zq_A X) s.heap s.heap [] := va_S.rf
  have hl := lv_entry ([.ref p1, .int p2, .int p3]) (n := 5) (by exact Nat.le_of_ble_eq_true rfl)
  have hg : entryFrame m args 5 = F0 m 0 ((lg_sl ([.ref p1, .int p2, .int p3]) ++ List.replicate (5 - (lg_sl ([.ref p1, .int p2, .int p3])).length) Slot.unset).toArray) [] := by rw [hargs]; exact lg_entry_eq m ([.ref p1, .int p2, .int p3]) 5
  rw [hg]
  clear hg hargs
  generalize (lg_sl ([.ref p1, .int p2, .int p3]) ++ List.replicate (5 - (lg_sl ([.ref p1, .int p2, .int p3])).length) Slot.unset).toArray = ls at hl ⊢
  have hl : lv_has ls 5 [(0, .ref p1), (1, .int p2), (2, .int p3)] := by exact hl
  obtain ⟨R, hRm⟩ : ∃ R : Room, R = (headSpec (zt_w yX2_isContent cX2_isContent 5 (some .boolean)) (zq_rm (2))).room := ⟨_, rfl⟩
  rw [← hRm]
  have hro : ∀ d q : Nat, d + 1 ≤ 2 → q ≤ 45 → zq_rok d q R := fun d q h1 h2 => by rw [hRm]; exact zq_rokI h1 h2
  generalize hQ : MQ below _ args s 0 0 (zq_A X) = Q
  obtain ⟨H, hH⟩ : ∃ H, H = s.heap := ⟨_, rfl⟩
  obtain ⟨locs, hlo⟩ : ∃ x : List Loc, x = [] := ⟨_, rfl⟩
  rw [show W p l e R s m args below meth c s.heap [] 0 0 Q = W p l e R s m args below meth c H locs 0 0 Q by rw [hH, hlo]]
  have hM : zq_hm X (zk, zn) I H := by rw [hH]; exact hM
  have hS : va_S (zq_A X) s.heap H locs := by rw [hH, hlo]; exact hS
  clear hH hlo
  refine lv_aload_n hx hb dX2_isContent_0 rfl (lv_at hl 0 rfl) ?_
  refine lv_iload_n hx hb dX2_isContent_1 rfl (lv_at hl 1 rfl) ?_
  refine lv_iload_n hx hb dX2_isContent_2 rfl (lv_at hl 2 rfl) ?_
  refine zq_pcalli (zq_rS (As := [.ref p1, .int p2, .int p3]) (rest := []) E hZ hM (c_X2_gainOf l X zk (zn) I L p1 k_p1 p2 p3 ⟨by omega, by omega⟩ ⟨by omega, by omega⟩) zmX2_117 zM_X2_gainOf (hro (1) 5 (by first | decide | omega) (by decide)) hl.1 rfl rfl (Nat.le_of_ble_eq_true rfl) dX2_isContent_3) hS (fun x102 H locs h101 hM hS => ?_)
  clear h101
  refine lv_istore_n (lv' := [(3, .int x102), (0, .ref p1), (1, .int p2), (2, .int p3)]) hx hb dX2_isContent_6 rfl hl (by decide) rfl (fun ls hl => ?_)
  refine lv_iconst (v := 1) hx hb dX2_isContent_7 (by decide +kernel) ?_
  refine lv_istore (lv' := [(4, .int (1 : Int32)), (3, .int x102), (0, .ref p1), (1, .int p2), (2, .int p3)]) hx hb dX2_isContent_8 hl (by decide) rfl (fun ls hl => ?_)
  have J10 : ∀ (n120 : Nat) (H : Heap) (locs : List Loc) (ls : Array Slot) (j119 : Int32), 11 + 1 - j119.toInt ≤ ((n120 : Nat) : Int) → (zq_hm X (zk, zn) I H) → (va_S (zq_A X) s.heap H locs) → (1 ≤ j119.toInt ∧ j119.toInt ≤ 11) → (lv_has ls 5 [(4, .int j119), (3, .int x102), (0, .ref p1), (1, .int p2), (2, .int p3)]) → W p l e R s m args below meth c H locs 0 0 Q (F0 m 10 ls []) := by
    intro n120
    induction n120 with
    | zero => intro H locs ls j119 mu121 hM hS gj119 hl; exfalso; have := zi_rng j119; omega
    | succ n120 ih10 =>
      intro H locs ls j119 mu121 hM hS gj119 hl
      refine lv_iload hx hb dX2_isContent_10 (lv_at hl 0 rfl) ?_
      refine lv_bipush (v := 10) hx hb dX2_isContent_12 (by decide +kernel) ?_
      refine lv_icmp_gt (tgt := 36) hx hb dX2_isContent_14 (by decide) (fun b122 => ?_) (fun b122 => ?_)
      · have b122 := zi_lt b122 (zl_10 : (10 : Int32).toInt = 10) (rfl : j119.toInt = j119.toInt)
        refine lv_iconst (v := 1) hx hb dX2_isContent_36 (by decide +kernel) ?_
        subst hQ
        exact zq_zret E hr hZ hM hS (show 0 ≤ (1 : Int32).toInt ∧ (1 : Int32).toInt ≤ 1 by decide +kernel) ⟨rfl, (by have := zl_1; omega)⟩ hlocks dX2_isContent_37
      · have b122 := zi_nlt b122 (zl_10 : (10 : Int32).toInt = 10) (rfl : j119.toInt = j119.toInt)
        refine lv_aload_n hx hb dX2_isContent_17 rfl (lv_at hl 2 rfl) ?_
        refine lv_iload hx hb dX2_isContent_18 (lv_at hl 0 rfl) ?_
        refine lv_iload_n hx hb dX2_isContent_20 rfl (lv_at hl 4 rfl) ?_
        refine zq_pcalli (zq_rS (As := [.ref p1, .int j119, .int p3]) (rest := []) E hZ hM (c_X2_gainOf l X zk (zn) I L p1 k_p1 j119 p3 ⟨by omega, by omega⟩ ⟨by omega, by omega⟩) zmX2_117 zM_X2_gainOf (hro (1) 5 (by first | decide | omega) (by decide)) hl.1 rfl rfl (Nat.le_of_ble_eq_true rfl) dX2_isContent_21) hS (fun x124 H locs h123 hM hS => ?_)
        clear h123
        refine lv_iload_n hx hb dX2_isContent_24 rfl (lv_at hl 1 rfl) ?_
        refine lv_icmp_le (tgt := 30) hx hb dX2_isContent_25 (by decide) (fun b125 => ?_) (fun b125 => ?_)
        · have b125 := zi_le b125 (rfl : x124.toInt = x124.toInt) (rfl : x102.toInt = x102.toInt)
          obtain ⟨x126, ex126⟩ : ∃ y : Int32, y = j119 + 1 := ⟨_, rfl⟩
          have tx126 := zi_add ex126 (rfl : j119.toInt = j119.toInt) zl_1 ⟨by omega, by omega⟩
          refine lv_iinc (v := x126) (lv' := [(4, .int x126), (3, .int x102), (0, .ref p1), (1, .int p2), (2, .int p3)]) hx hb dX2_isContent_30 hl (k := 0) rfl (by rw [ex126]; rfl) (by decide) rfl (fun ls hl => ?_)
          refine lv_goto (tgt := 10) hx hb dX2_isContent_33 (by decide) ?_
          exact ih10 H locs ls x126 (by omega) hM hS (⟨by omega, by omega⟩) (lv_sub hl [0, 1, 2, 3, 4] rfl)
        · have b125 := zi_nle b125 (rfl : x124.toInt = x124.toInt) (rfl : x102.toInt = x102.toInt)
          refine lv_iconst (v := 0) hx hb dX2_isContent_28 (by decide +kernel) ?_
          subst hQ
          exact zq_zret E hr hZ hM hS (show 0 ≤ (0 : Int32).toInt ∧ (0 : Int32).toInt ≤ 1 by decide +kernel) ⟨rfl, (by have := zl_0; omega)⟩ hlocks dX2_isContent_29
  exact J10 (11 + 1 - (1 : Int32).toInt).toNat H locs ls (1 : Int32) (by omega) hM hS (by rw [zl_1]; decide) (lv_sub hl [0, 1, 2, 3, 4] rfl)
def zw_X2_findPeace : List (Nat × Nat) := [(3, 3), (34, 999)]
set_option maxHeartbeats 8000000 in
set_option maxRecDepth 100000 in
theorem c_X2_findPeace (l : Launch) (X : zq_X) (zk zn : Nat) (I : zq_M) (L : zq_L X)  (h0 : Nat) (k_h0 : zq_k X h0 = 3) (p1 : Nat) (k_p1 : zq_k X p1 = 7)  : Met l yX2_findPeace (zt_w yX2_findPeace cX2_findPeace 4 none) (zq_rm (3)) (va_Pc [.ref h0, .ref p1] (zq_W X (zk, zn) I)) (va_Qv (fun I2 => zq_fr (zf X zw_X2_findPeace (fun _ => False)) I I2) (zq_E X (zk, zn)) (zq_A X)) 0 0 (zq_A X) := by
  refine Met.ofW (cc := cX2_findPeace) (maxL := 4) (ret := none) (by decide) rfl ?_
  intro p e s m args below meth c s₁ B hml hv
  obtain ⟨hargs, hM, hZ⟩ := hv
  have hown : s.vm.findClass RX2 = some m.cls := findClass_of_methodNamed B.named
  have hts := atoms_spec (ws := zt_w yX2_findPeace cX2_findPeace 4 none) B.pre
  have E : CallFix p m c cX2_findPeace 4 s args (Cond.code yX2_findPeace cX2_findPeace 4 none :: zt) RX2 := ⟨B.exec, B.bytes, hml, hown, hts⟩
  have hx := B.exec
  have hb := B.bytes
  have hr := B.returns
  have hlocks := B.notSynchronized
  clear B
  have hS : va_S (zq_A X) s.heap s.heap [] := va_S.rf
  have hR : zq_fr (zf X zw_X2_findPeace (fun _ => False)) I I := zq_fr.rf
  have hl := lv_entry ([.ref h0, .ref p1]) (n := 4) (by exact Nat.le_of_ble_eq_true rfl)
  have hg : entryFrame m args 4 = F0 m 0 ((lg_sl ([.ref h0, .ref p1]) ++ List.replicate (4 - (lg_sl ([.ref h0, .ref p1])).length) Slot.unset).toArray) [] := by rw [hargs]; exact lg_entry_eq m ([.ref h0, .ref p1]) 4
  rw [hg]
  clear hg hargs
  generalize (lg_sl ([.ref h0, .ref p1]) ++ List.replicate (4 - (lg_sl ([.ref h0, .ref p1])).length) Slot.unset).toArray = ls at hl ⊢
  have hl : lv_has ls 4 [(0, .ref h0), (1, .ref p1)] := by exact hl
  obtain ⟨R, hRm⟩ : ∃ R : Room, R = (headSpec (zt_w yX2_findPeace cX2_findPeace 4 none) (zq_rm (3))).room := ⟨_, rfl⟩
  rw [← hRm]
  have hro : ∀ d q : Nat, d + 1 ≤ 3 → q ≤ 45 → zq_rok d q R := fun d q h1 h2 => by rw [hRm]; exact zq_rokI h1 h2
  generalize hQ : MQ below _ args s 0 0 (zq_A X) = Q
  obtain ⟨H, hH⟩ : ∃ H, H = s.heap := ⟨_, rfl⟩
  obtain ⟨locs, hlo⟩ : ∃ x : List Loc, x = [] := ⟨_, rfl⟩
  rw [show W p l e R s m args below meth c s.heap [] 0 0 Q = W p l e R s m args below meth c H locs 0 0 Q by rw [hH, hlo]]
  have hM : zq_hm X (zk, zn) I H := by rw [hH]; exact hM
  have hS : va_S (zq_A X) s.heap H locs := by rw [hH, hlo]; exact hS
  clear hH hlo
  refine lv_aload_n hx hb dX2_findPeace_0 rfl (lv_at hl 0 rfl) ?_
  refine zq_callv (zq_rV (As := []) (rest := []) E hZ hM k_h0 (c_X2_forget l X zk (zn) I L h0 k_h0) zmX2_110 zM_X2_forget (hro (0) 1 (by first | decide | omega) (by decide)) ⟨by decide, by decide⟩ rfl hl.1 rfl rfl (Nat.le_of_ble_eq_true rfl) dX2_findPeace_1) hS (fun I103 H locs h101 hM hS => ?_)
  have fr104 := h101
  have hR := zq_fr.call hR fr104 (zf_sub (by decide +kernel) (fun _ _ q => q.elim))
  refine lv_aload_n hx hb dX2_findPeace_4 rfl (lv_at hl 0 rfl) ?_
  refine lv_iconst (v := 0) hx hb dX2_findPeace_5 (by decide +kernel) ?_
  refine lv_bipush (v := (-2)) hx hb dX2_findPeace_6 (by decide +kernel) ?_
  refine lv_bipush (v := (-2)) hx hb dX2_findPeace_8 (by decide +kernel) ?_
  refine lv_iconst (v := 0) hx hb dX2_findPeace_10 (by decide +kernel) ?_
  refine zq_callv (zq_rV (As := [.int (0 : Int32), .int (-2 : Int32), .int (-2 : Int32), .int (0 : Int32)]) (rest := []) E hZ hM k_h0 (c_X2_setBest l X zk (zn) I103 L h0 k_h0 (0 : Int32) (-2 : Int32) (-2 : Int32) (0 : Int32)) zmX2_50 zM_X2_setBest (hro (0) 5 (by first | decide | omega) (by decide)) ⟨by decide, by decide⟩ rfl hl.1 rfl rfl (Nat.le_of_ble_eq_true rfl) dX2_findPeace_11) hS (fun I107 H locs h105 hM hS => ?_)
  have fr108 := h105
  have := zl_m2
  have := zl_0
  have hR := zq_fr.call hR fr108 (zf_sub (by decide +kernel) (fun _ _ q => q.elim))
  refine lv_iconst (v := 1) hx hb dX2_findPeace_14 (by decide +kernel) ?_
  refine W.eq (g2 := F0 m 15 ls [.int (1 : Int32)]) rfl ?_
  refine lv_istore_n (lv' := [(2, .int (1 : Int32)), (0, .ref h0), (1, .ref p1)]) hx hb dX2_findPeace_15 rfl hl (by decide) rfl (fun ls hl => ?_)
  have J16 : ∀ (n531 : Nat) (I530 : zq_M) (H : Heap) (locs : List Loc) (ls : Array Slot) (j529 : Int32), 11 + 1 - j529.toInt ≤ ((n531 : Nat) : Int) → (zq_hm X (zk, zn) I530 H) → (va_S (zq_A X) s.heap H locs) → (zq_fr (zf X zw_X2_findPeace (fun _ => False)) I I530) → (1 ≤ j529.toInt ∧ j529.toInt ≤ 11) → (lv_has ls 4 [(2, .int j529), (0, .ref h0), (1, .ref p1)]) → W p l e R s m args below meth c H locs 0 0 Q (F0 m 16 ls []) := by
    intro n531
    induction n531 with
    | zero => intro I530 H locs ls j529 mu532 hM hS hR gj529 hl; exfalso; have := zi_rng j529; omega
    | succ n531 ih16 =>
      intro I530 H locs ls j529 mu532 hM hS hR gj529 hl
      refine lv_iload_n hx hb dX2_findPeace_16 rfl (lv_at hl 0 rfl) ?_
      refine lv_bipush (v := 10) hx hb dX2_findPeace_17 (by decide +kernel) ?_
      refine lv_icmp_gt (tgt := 95) hx hb dX2_findPeace_19 (by decide) (fun b533 => ?_) (fun b533 => ?_)
      · have b533 := zi_lt b533 (zl_10 : (10 : Int32).toInt = 10) (rfl : j529.toInt = j529.toInt)
        subst hQ
        exact zq_vret E hr hZ hM hS hR hlocks dX2_findPeace_95
      · have b533 := zi_nlt b533 (zl_10 : (10 : Int32).toInt = 10) (rfl : j529.toInt = j529.toInt)
        refine lv_iconst (v := 1) hx hb dX2_findPeace_22 (by decide +kernel) ?_
        refine lv_istore_n (lv' := [(3, .int (1 : Int32)), (2, .int j529), (0, .ref h0), (1, .ref p1)]) hx hb dX2_findPeace_23 rfl hl (by decide) rfl (fun ls hl => ?_)
        have J24 : ∀ (n618 : Nat) (I617 : zq_M) (H : Heap) (locs : List Loc) (ls : Array Slot) (j616 : Int32), 11 + 1 - j616.toInt ≤ ((n618 : Nat) : Int) → (zq_hm X (zk, zn) I617 H) → (va_S (zq_A X) s.heap H locs) → (zq_fr (zf X zw_X2_findPeace (fun _ => False)) I I617) → (1 ≤ j616.toInt ∧ j616.toInt ≤ 11) → (lv_has ls 4 [(3, .int j616), (2, .int j529), (0, .ref h0), (1, .ref p1)]) → W p l e R s m args below meth c H locs 0 0 Q (F0 m 24 ls []) := by
          intro n618
          induction n618 with
          | zero => intro I617 H locs ls j616 mu619 hM hS hR gj616 hl; exfalso; have := zi_rng j616; omega
          | succ n618 ih24 =>
            intro I617 H locs ls j616 mu619 hM hS hR gj616 hl
            refine lv_iload_n hx hb dX2_findPeace_24 rfl (lv_at hl 0 rfl) ?_
            refine lv_bipush (v := 10) hx hb dX2_findPeace_25 (by decide +kernel) ?_
            refine lv_icmp_gt (tgt := 89) hx hb dX2_findPeace_27 (by decide) (fun b620 => ?_) (fun b620 => ?_)
            · have b620 := zi_lt b620 (zl_10 : (10 : Int32).toInt = 10) (rfl : j616.toInt = j616.toInt)
              obtain ⟨x621, ex621⟩ : ∃ y : Int32, y = j529 + 1 := ⟨_, rfl⟩
              have tx621 := zi_add ex621 (rfl : j529.toInt = j529.toInt) zl_1 ⟨by omega, by omega⟩
              refine lv_iinc (v := x621) (lv' := [(2, .int x621), (3, .int j616), (0, .ref h0), (1, .ref p1)]) hx hb dX2_findPeace_89 hl (k := 1) rfl (by rw [ex621]; rfl) (by decide) rfl (fun ls hl => ?_)
              refine lv_goto (tgt := 16) hx hb dX2_findPeace_92 (by decide) ?_
              exact ih16 I617 H locs ls x621 (by omega) hM hS hR (⟨by omega, by omega⟩) (lv_sub hl [0, 2, 3] rfl)
            · have b620 := zi_nlt b620 (zl_10 : (10 : Int32).toInt = 10) (rfl : j616.toInt = j616.toInt)
              refine lv_aload_n hx hb dX2_findPeace_30 rfl (lv_at hl 3 rfl) ?_
              refine lv_iload_n hx hb dX2_findPeace_31 rfl (lv_at hl 1 rfl) ?_
              refine lv_iload_n hx hb dX2_findPeace_32 rfl (lv_at hl 0 rfl) ?_
              refine zq_pcalli (zq_rS (As := [.ref p1, .int j529, .int j616]) (rest := []) E hZ hM (c_X2_isContent l X zk (zn) I617 L p1 k_p1 j529 j616 ⟨by omega, by omega⟩ ⟨by omega, by omega⟩) zmX2_113 zM_X2_isContent (hro (2) 5 (by first | decide | omega) (by decide)) hl.1 rfl rfl (Nat.le_of_ble_eq_true rfl) dX2_findPeace_33) hS (fun x623 H locs h622 hM hS => ?_)
              have p624 := h622
              have J83 : ∀ (I638 : zq_M) (H : Heap) (locs : List Loc) (ls : Array Slot), (zq_hm X (zk, zn) I638 H) → (va_S (zq_A X) s.heap H locs) → (zq_fr (zf X zw_X2_findPeace (fun _ => False)) I I638) → (lv_has ls 4 [(3, .int j616), (2, .int j529), (0, .ref h0), (1, .ref p1)]) → W p l e R s m args below meth c H locs 0 0 Q (F0 m 83 ls []) := by
                intro I638 H locs ls hM hS hR hl
                obtain ⟨x640, ex640⟩ : ∃ y : Int32, y = j616 + 1 := ⟨_, rfl⟩
                have tx640 := zi_add ex640 (rfl : j616.toInt = j616.toInt) zl_1 ⟨by omega, by omega⟩
                refine lv_iinc (v := x640) (lv' := [(3, .int x640), (2, .int j529), (0, .ref h0), (1, .ref p1)]) hx hb dX2_findPeace_83 hl (k := 0) rfl (by rw [ex640]; rfl) (by decide) rfl (fun ls hl => ?_)
                refine lv_goto (tgt := 24) hx hb dX2_findPeace_86 (by decide) ?_
                exact ih24 I638 H locs ls x640 (by omega) hM hS hR (⟨by omega, by omega⟩) (lv_sub hl [0, 1, 2, 3] rfl)
              refine lv_if_eq (tgt := 83) hx hb dX2_findPeace_36 (by decide) (fun b641 => ?_) (fun b641 => ?_)
              · have b641 := zi_eq b641 (rfl : x623.toInt = x623.toInt) (zl_0 : (0 : Int32).toInt = 0)
                exact J83 I617 H locs ls hM hS hR (lv_sub hl [0, 1, 2, 3] rfl)
              · have b641 := zi_ne b641 (rfl : x623.toInt = x623.toInt) (zl_0 : (0 : Int32).toInt = 0)
                refine lv_aload_n hx hb dX2_findPeace_39 rfl (lv_at hl 3 rfl) ?_
                refine lv_iload_n hx hb dX2_findPeace_40 rfl (lv_at hl 0 rfl) ?_
                refine lv_iload_n hx hb dX2_findPeace_41 rfl (lv_at hl 1 rfl) ?_
                refine zq_pcalli (zq_rS (As := [.ref p1, .int j616, .int j529]) (rest := []) E hZ hM (c_X2_isContent l X zk (zn) I617 L p1 k_p1 j616 j529 ⟨by omega, by omega⟩ ⟨by omega, by omega⟩) zmX2_113 zM_X2_isContent (hro (2) 5 (by first | decide | omega) (by decide)) hl.1 rfl rfl (Nat.le_of_ble_eq_true rfl) dX2_findPeace_42) hS (fun x643 H locs h642 hM hS => ?_)
                have p644 := h642
                refine lv_if_eq (tgt := 83) hx hb dX2_findPeace_45 (by decide) (fun b645 => ?_) (fun b645 => ?_)
                · have b645 := zi_eq b645 (rfl : x643.toInt = x643.toInt) (zl_0 : (0 : Int32).toInt = 0)
                  exact J83 I617 H locs ls hM hS hR (lv_sub hl [0, 1, 2, 3] rfl)
                · have b645 := zi_ne b645 (rfl : x643.toInt = x643.toInt) (zl_0 : (0 : Int32).toInt = 0)
                  refine lv_aload_n hx hb dX2_findPeace_48 rfl (lv_at hl 2 rfl) ?_
                  refine zq_getr E hM k_h0 (zFX2_18 E hZ) ⟨by decide, by decide, by decide, rfl⟩ dX2_findPeace_49 ?_
                  have k646 : zq_k X (zq_r X h0 1) = 34 := zq_lk L.1 k_h0 rfl (by decide)
                  refine lv_iconst (v := 0) hx hb dX2_findPeace_52 (by decide +kernel) ?_
                  refine lv_dup2_11 hx hb dX2_findPeace_53 rfl rfl ?_
                  refine zq_ian (n := 4) (j := 0) E hZ hM k646 ⟨by decide, rfl⟩ (by rw [zl_0]; decide) (by decide +kernel) dX2_findPeace_54 (fun x647 ex647 gx647 => ?_)
                  clear gx647
                  refine lv_iconst (v := 1) hx hb dX2_findPeace_55 (by decide +kernel) ?_
                  refine lv_iadd hx hb dX2_findPeace_56 ?_
                  refine lv_topi (fun x648 ex648 => ?_)
                  refine zq_isn (n := 4) (j := 0) E hZ hM hS k646 ⟨by decide, rfl⟩ (by rw [zl_0]; decide) (by decide +kernel) (zq_any _) dX2_findPeace_57 (fun I649 H locs eI649 hM hS => ?_)
                  have hR := zq_fr.putE hR eI649 (zf_ia k646 (by decide) rfl)
                  refine lv_aload_n hx hb dX2_findPeace_58 rfl (lv_at hl 2 rfl) ?_
                  refine W.eq (g2 := F0 m 59 ls [.ref h0]) rfl ?_
                  refine zq_getr E hM k_h0 (zFX2_18 E hZ) ⟨by decide, by decide, by decide, rfl⟩ dX2_findPeace_59 ?_
                  have k650 : zq_k X (zq_r X h0 1) = 34 := zq_lk L.1 k_h0 rfl (by decide)
                  refine lv_iconst (v := 1) hx hb dX2_findPeace_62 (by decide +kernel) ?_
                  refine zq_ian (n := 4) (j := 1) E hZ hM k650 ⟨by decide, rfl⟩ (by rw [zl_1]; decide) (by decide +kernel) dX2_findPeace_63 (fun x651 ex651 gx651 => ?_)
                  clear gx651
                  refine lv_bipush (v := (-2)) hx hb dX2_findPeace_64 (by decide +kernel) ?_
                  refine lv_icmp_ne (tgt := 83) hx hb dX2_findPeace_66 (by decide) (fun b652 => ?_) (fun b652 => ?_)
                  · have b652 := zi_ne b652 (rfl : x651.toInt = x651.toInt) (zl_m2 : (-2 : Int32).toInt = (-2))
                    exact J83 I649 H locs ls hM hS hR (lv_sub hl [0, 1, 2, 3] rfl)
                  · have b652 := zi_eq b652 (rfl : x651.toInt = x651.toInt) (zl_m2 : (-2 : Int32).toInt = (-2))
                    refine lv_aload_n hx hb dX2_findPeace_69 rfl (lv_at hl 2 rfl) ?_
                    refine zq_getr E hM k_h0 (zFX2_18 E hZ) ⟨by decide, by decide, by decide, rfl⟩ dX2_findPeace_70 ?_
                    have k653 : zq_k X (zq_r X h0 1) = 34 := zq_lk L.1 k_h0 rfl (by decide)
                    refine lv_iconst (v := 1) hx hb dX2_findPeace_73 (by decide +kernel) ?_
                    refine lv_iload_n hx hb dX2_findPeace_74 rfl (lv_at hl 1 rfl) ?_
                    refine zq_isn (n := 4) (j := 1) E hZ hM hS k653 ⟨by decide, rfl⟩ (by rw [zl_1]; decide) (by decide +kernel) (zq_any _) dX2_findPeace_75 (fun I654 H locs eI654 hM hS => ?_)
                    have hR := zq_fr.putE hR eI654 (zf_ia k653 (by decide) rfl)
                    refine lv_aload_n hx hb dX2_findPeace_76 rfl (lv_at hl 2 rfl) ?_
                    refine zq_getr E hM k_h0 (zFX2_18 E hZ) ⟨by decide, by decide, by decide, rfl⟩ dX2_findPeace_77 ?_
                    have k655 : zq_k X (zq_r X h0 1) = 34 := zq_lk L.1 k_h0 rfl (by decide)
                    refine lv_iconst (v := 2) hx hb dX2_findPeace_80 (by decide +kernel) ?_
                    refine lv_iload_n hx hb dX2_findPeace_81 rfl (lv_at hl 0 rfl) ?_
                    refine W.eq (g2 := F0 m 82 ls [.int j616, .int (2 : Int32), .ref (zq_r X h0 1)]) rfl ?_
                    refine zq_isn (n := 4) (j := 2) E hZ hM hS k655 ⟨by decide, rfl⟩ (by rw [zl_2]; decide) (by decide +kernel) (zq_any _) dX2_findPeace_82 (fun I656 H locs eI656 hM hS => ?_)
                    have hR := zq_fr.putE hR eI656 (zf_ia k655 (by decide) rfl)
                    exact J83 I656 H locs ls hM hS hR (lv_sub hl [0, 1, 2, 3] rfl)
        exact J24 (11 + 1 - (1 : Int32).toInt).toNat I530 H locs ls (1 : Int32) (by omega) hM hS hR (by rw [zl_1]; decide) (lv_sub hl [0, 1, 2, 3] rfl)
  exact J16 (11 + 1 - (1 : Int32).toInt).toNat I107 H locs ls (1 : Int32) (by omega) hM hS hR (by rw [zl_1]; decide) (lv_sub hl [0, 1, 2] rfl)
def zw_X2_findFirstBlocks : List (Nat × Nat) := [(3, 3), (34, 999)]
set_option maxHeartbeats 8000000 in
set_option maxRecDepth 100000 in
theorem c_X2_findFirstBlocks (l : Launch) (X : zq_X) (zk zn : Nat) (I : zq_M) (L : zq_L X)  (h0 : Nat) (k_h0 : zq_k X h0 = 3) (p1 : Nat) (k_p1 : zq_k X p1 = 7) (p2 : Int32) (p3 : Int32) (g_p3 : 0 ≤ p3.toInt ∧ p3.toInt ≤ 1) : Met l yX2_findFirstBlocks (zt_w yX2_findFirstBlocks cX2_findFirstBlocks 5 none) (zq_rm (2)) (va_Pc [.ref h0, .ref p1, .int p2, .int p3] (zq_W X (zk, zn) I)) (va_Qv (fun I2 => zq_fr (zf X zw_X2_findFirstBlocks (fun _ => False)) I I2) (zq_E X (zk, zn)) (zq_A X)) 0 0 (zq_A X) := by
  refine Met.ofW (cc := cX2_findFirstBlocks) (maxL := 5) (ret := none) (by decide) rfl ?_
  intro p e s m args below meth c s₁ B hml hv
  obtain ⟨hargs, hM, hZ⟩ := hv
  have hown : s.vm.findClass RX2 = some m.cls := findClass_of_methodNamed B.named
  have hts := atoms_spec (ws := zt_w yX2_findFirstBlocks cX2_findFirstBlocks 5 none) B.pre
  have E : CallFix p m c cX2_findFirstBlocks 5 s args (Cond.code yX2_findFirstBlocks cX2_findFirstBlocks 5 none :: zt) RX2 := ⟨B.exec, B.bytes, hml, hown, hts⟩
  have hx := B.exec
  have hb := B.bytes
  have hr := B.returns
  have hlocks := B.notSynchronized
  clear B
  have hS : va_S (zq_A X) s.heap s.heap [] := va_S.rf
  have hR : zq_fr (zf X zw_X2_findFirstBlocks (fun _ => False)) I I := zq_fr.rf
  have hl := lv_entry ([.ref h0, .ref p1, .int p2, .int p3]) (n := 5) (by exact Nat.le_of_ble_eq_true rfl)
  have hg : entryFrame m args 5 = F0 m 0 ((lg_sl ([.ref h0, .ref p1, .int p2, .int p3]) ++ List.replicate (5 - (lg_sl ([.ref h0, .ref p1, .int p2, .int p3])).length) Slot.unset).toArray) [] := by rw [hargs]; exact lg_entry_eq m ([.ref h0, .ref p1, .int p2, .int p3]) 5
  rw [hg]
  clear hg hargs
  generalize (lg_sl ([.ref h0, .ref p1, .int p2, .int p3]) ++ List.replicate (5 - (lg_sl ([.ref h0, .ref p1, .int p2, .int p3])).length) Slot.unset).toArray = ls at hl ⊢
  have hl : lv_has ls 5 [(0, .ref h0), (1, .ref p1), (2, .int p2), (3, .int p3)] := by exact hl
  obtain ⟨R, hRm⟩ : ∃ R : Room, R = (headSpec (zt_w yX2_findFirstBlocks cX2_findFirstBlocks 5 none) (zq_rm (2))).room := ⟨_, rfl⟩
  rw [← hRm]
  have hro : ∀ d q : Nat, d + 1 ≤ 2 → q ≤ 45 → zq_rok d q R := fun d q h1 h2 => by rw [hRm]; exact zq_rokI h1 h2
  generalize hQ : MQ below _ args s 0 0 (zq_A X) = Q
  obtain ⟨H, hH⟩ : ∃ H, H = s.heap := ⟨_, rfl⟩
  obtain ⟨locs, hlo⟩ : ∃ x : List Loc, x = [] := ⟨_, rfl⟩
  rw [show W p l e R s m args below meth c s.heap [] 0 0 Q = W p l e R s m args below meth c H locs 0 0 Q by rw [hH, hlo]]
  have hM : zq_hm X (zk, zn) I H := by rw [hH]; exact hM
  have hS : va_S (zq_A X) s.heap H locs := by rw [hH, hlo]; exact hS
  clear hH hlo
  refine lv_aload_n hx hb dX2_findFirstBlocks_0 rfl (lv_at hl 0 rfl) ?_
  refine zq_callv (zq_rV (As := []) (rest := []) E hZ hM k_h0 (c_X2_forget l X zk (zn) I L h0 k_h0) zmX2_110 zM_X2_forget (hro (0) 1 (by first | decide | omega) (by decide)) ⟨by decide, by decide⟩ rfl hl.1 rfl rfl (Nat.le_of_ble_eq_true rfl) dX2_findFirstBlocks_1) hS (fun I103 H locs h101 hM hS => ?_)
  have fr104 := h101
  have hR := zq_fr.call hR fr104 (zf_sub (by decide +kernel) (fun _ _ q => q.elim))
  refine lv_aload_n hx hb dX2_findFirstBlocks_4 rfl (lv_at hl 0 rfl) ?_
  refine lv_iconst (v := 0) hx hb dX2_findFirstBlocks_5 (by decide +kernel) ?_
  refine lv_bipush (v := (-2)) hx hb dX2_findFirstBlocks_6 (by decide +kernel) ?_
  refine lv_bipush (v := (-2)) hx hb dX2_findFirstBlocks_8 (by decide +kernel) ?_
  refine lv_iconst (v := 0) hx hb dX2_findFirstBlocks_10 (by decide +kernel) ?_
  refine zq_callv (zq_rV (As := [.int (0 : Int32), .int (-2 : Int32), .int (-2 : Int32), .int (0 : Int32)]) (rest := []) E hZ hM k_h0 (c_X2_setBest l X zk (zn) I103 L h0 k_h0 (0 : Int32) (-2 : Int32) (-2 : Int32) (0 : Int32)) zmX2_50 zM_X2_setBest (hro (0) 5 (by first | decide | omega) (by decide)) ⟨by decide, by decide⟩ rfl hl.1 rfl rfl (Nat.le_of_ble_eq_true rfl) dX2_findFirstBlocks_11) hS (fun I107 H locs h105 hM hS => ?_)
  have fr108 := h105
  have := zl_m2
  have := zl_0
  have hR := zq_fr.call hR fr108 (zf_sub (by decide +kernel) (fun _ _ q => q.elim))
  refine lv_iconst (v := 0) hx hb dX2_findFirstBlocks_14 (by decide +kernel) ?_
  refine W.eq (g2 := F0 m 15 ls [.int (0 : Int32)]) rfl ?_
  refine lv_istore (lv' := [(4, .int (0 : Int32)), (0, .ref h0), (1, .ref p1), (2, .int p2), (3, .int p3)]) hx hb dX2_findFirstBlocks_15 hl (by decide) rfl (fun ls hl => ?_)
  have J17 : ∀ (n187 : Nat) (I186 : zq_M) (H : Heap) (locs : List Loc) (ls : Array Slot) (j185 : Int32), 1000 + 1 - j185.toInt ≤ ((n187 : Nat) : Int) → (zq_hm X (zk, zn) I186 H) → (va_S (zq_A X) s.heap H locs) → (zq_fr (zf X zw_X2_findFirstBlocks (fun _ => False)) I I186) → (0 ≤ j185.toInt ∧ j185.toInt ≤ 1000) → (lv_has ls 5 [(4, .int j185), (0, .ref h0), (1, .ref p1), (2, .int p2), (3, .int p3)]) → W p l e R s m args below meth c H locs 0 0 Q (F0 m 17 ls []) := by
    intro n187
    induction n187 with
    | zero => intro I186 H locs ls j185 mu188 hM hS hR gj185 hl; exfalso; have := zi_rng j185; omega
    | succ n187 ih17 =>
      intro I186 H locs ls j185 mu188 hM hS hR gj185 hl
      refine lv_iload hx hb dX2_findFirstBlocks_17 (lv_at hl 0 rfl) ?_
      refine lv_sipush (v := 999) hx hb dX2_findFirstBlocks_19 (by decide +kernel) ?_
      refine lv_icmp_gt (tgt := 88) hx hb dX2_findFirstBlocks_22 (by decide) (fun b189 => ?_) (fun b189 => ?_)
      · have b189 := zi_lt b189 (zl_999 : (999 : Int32).toInt = 999) (rfl : j185.toInt = j185.toInt)
        subst hQ
        exact zq_vret E hr hZ hM hS hR hlocks dX2_findFirstBlocks_88
      · have b189 := zi_nlt b189 (zl_999 : (999 : Int32).toInt = 999) (rfl : j185.toInt = j185.toInt)
        refine lv_aload_n hx hb dX2_findFirstBlocks_25 rfl (lv_at hl 2 rfl) ?_
        refine lv_iload hx hb dX2_findFirstBlocks_26 (lv_at hl 0 rfl) ?_
        refine lv_iload_n hx hb dX2_findFirstBlocks_28 rfl (lv_at hl 4 rfl) ?_
        refine zq_pcalli (zq_rV (As := [.int j185, .int p3]) (rest := []) E hZ hM k_p1 (c_X7_arriving l X zk (zn) I186 L p1 k_p1 j185 p3 ⟨by omega, by omega⟩) zmX2_140 zM_X7_arriving (hro (1) 6 (by first | decide | omega) (by decide)) ⟨by decide, by decide⟩ rfl hl.1 rfl rfl (Nat.le_of_ble_eq_true rfl) dX2_findFirstBlocks_29) hS (fun x191 H locs h190 hM hS => ?_)
        clear h190
        refine lv_iload_n hx hb dX2_findFirstBlocks_32 rfl (lv_at hl 3 rfl) ?_
        have J82 : ∀ (I205 : zq_M) (H : Heap) (locs : List Loc) (ls : Array Slot), (zq_hm X (zk, zn) I205 H) → (va_S (zq_A X) s.heap H locs) → (zq_fr (zf X zw_X2_findFirstBlocks (fun _ => False)) I I205) → (lv_has ls 5 [(4, .int j185), (0, .ref h0), (1, .ref p1), (2, .int p2), (3, .int p3)]) → W p l e R s m args below meth c H locs 0 0 Q (F0 m 82 ls []) := by
          intro I205 H locs ls hM hS hR hl
          obtain ⟨x207, ex207⟩ : ∃ y : Int32, y = j185 + 1 := ⟨_, rfl⟩
          have tx207 := zi_add ex207 (rfl : j185.toInt = j185.toInt) zl_1 ⟨by omega, by omega⟩
          refine lv_iinc (v := x207) (lv' := [(4, .int x207), (0, .ref h0), (1, .ref p1), (2, .int p2), (3, .int p3)]) hx hb dX2_findFirstBlocks_82 hl (k := 0) rfl (by rw [ex207]; rfl) (by decide) rfl (fun ls hl => ?_)
          refine lv_goto (tgt := 17) hx hb dX2_findFirstBlocks_85 (by decide) ?_
          exact ih17 I205 H locs ls x207 (by omega) hM hS hR (⟨by omega, by omega⟩) (lv_sub hl [0, 1, 2, 3, 4] rfl)
        refine lv_icmp_ne (tgt := 82) hx hb dX2_findFirstBlocks_33 (by decide) (fun b208 => ?_) (fun b208 => ?_)
        · have b208 := zi_ne b208 (rfl : x191.toInt = x191.toInt) (rfl : p2.toInt = p2.toInt)
          exact J82 I186 H locs ls hM hS hR (lv_sub hl [0, 1, 2, 3, 4] rfl)
        · have b208 := zi_eq b208 (rfl : x191.toInt = x191.toInt) (rfl : p2.toInt = p2.toInt)
          refine lv_aload_n hx hb dX2_findFirstBlocks_36 rfl (lv_at hl 1 rfl) ?_
          refine zq_getr E hM k_h0 (zFX2_18 E hZ) ⟨by decide, by decide, by decide, rfl⟩ dX2_findFirstBlocks_37 ?_
          have k209 : zq_k X (zq_r X h0 1) = 34 := zq_lk L.1 k_h0 rfl (by decide)
          refine lv_iconst (v := 0) hx hb dX2_findFirstBlocks_40 (by decide +kernel) ?_
          refine lv_dup2_11 hx hb dX2_findFirstBlocks_41 rfl rfl ?_
          refine zq_ian (n := 4) (j := 0) E hZ hM k209 ⟨by decide, rfl⟩ (by rw [zl_0]; decide) (by decide +kernel) dX2_findFirstBlocks_42 (fun x210 ex210 gx210 => ?_)
          clear gx210
          refine lv_iconst (v := 1) hx hb dX2_findFirstBlocks_43 (by decide +kernel) ?_
          refine lv_iadd hx hb dX2_findFirstBlocks_44 ?_
          refine lv_topi (fun x211 ex211 => ?_)
          refine zq_isn (n := 4) (j := 0) E hZ hM hS k209 ⟨by decide, rfl⟩ (by rw [zl_0]; decide) (by decide +kernel) (zq_any _) dX2_findFirstBlocks_45 (fun I212 H locs eI212 hM hS => ?_)
          have hR := zq_fr.putE hR eI212 (zf_ia k209 (by decide) rfl)
          refine lv_aload_n hx hb dX2_findFirstBlocks_46 rfl (lv_at hl 1 rfl) ?_
          refine W.eq (g2 := F0 m 47 ls [.ref h0]) rfl ?_
          refine zq_getr E hM k_h0 (zFX2_18 E hZ) ⟨by decide, by decide, by decide, rfl⟩ dX2_findFirstBlocks_47 ?_
          have k213 : zq_k X (zq_r X h0 1) = 34 := zq_lk L.1 k_h0 rfl (by decide)
          refine lv_iconst (v := 1) hx hb dX2_findFirstBlocks_50 (by decide +kernel) ?_
          refine lv_aload_n hx hb dX2_findFirstBlocks_51 rfl (lv_at hl 1 rfl) ?_
          refine zq_getr E hM k_h0 (zFX2_18 E hZ) ⟨by decide, by decide, by decide, rfl⟩ dX2_findFirstBlocks_52 ?_
          have k214 : zq_k X (zq_r X h0 1) = 34 := zq_lk L.1 k_h0 rfl (by decide)
          refine lv_iconst (v := 1) hx hb dX2_findFirstBlocks_55 (by decide +kernel) ?_
          refine zq_ian (n := 4) (j := 1) E hZ hM k214 ⟨by decide, rfl⟩ (by rw [zl_1]; decide) (by decide +kernel) dX2_findFirstBlocks_56 (fun x215 ex215 gx215 => ?_)
          clear gx215
          refine lv_bipush (v := (-2)) hx hb dX2_findFirstBlocks_57 (by decide +kernel) ?_
          have J73 : ∀ (ls : Array Slot) (j218 : Int32), (lv_has ls 5 [(4, .int j185), (0, .ref h0), (1, .ref p1), (2, .int p2), (3, .int p3)]) → W p l e R s m args below meth c H locs 0 0 Q (F0 m 73 ls [.int j218, .int (1 : Int32), .ref (zq_r X h0 1)]) := by
            intro ls j218 hl
            refine zq_isn (n := 4) (j := 1) E hZ hM hS k213 ⟨by decide, rfl⟩ (by rw [zl_1]; decide) (by decide +kernel) (zq_any _) dX2_findFirstBlocks_73 (fun I222 H locs eI222 hM hS => ?_)
            have hR := zq_fr.putE hR eI222 (zf_ia k213 (by decide) rfl)
            refine lv_aload_n hx hb dX2_findFirstBlocks_74 rfl (lv_at hl 1 rfl) ?_
            refine zq_getr E hM k_h0 (zFX2_18 E hZ) ⟨by decide, by decide, by decide, rfl⟩ dX2_findFirstBlocks_75 ?_
            have k223 : zq_k X (zq_r X h0 1) = 34 := zq_lk L.1 k_h0 rfl (by decide)
            refine lv_iconst (v := 2) hx hb dX2_findFirstBlocks_78 (by decide +kernel) ?_
            refine lv_iload hx hb dX2_findFirstBlocks_79 (lv_at hl 0 rfl) ?_
            refine zq_isn (n := 4) (j := 2) E hZ hM hS k223 ⟨by decide, rfl⟩ (by rw [zl_2]; decide) (by decide +kernel) (zq_any _) dX2_findFirstBlocks_81 (fun I224 H locs eI224 hM hS => ?_)
            have hR := zq_fr.putE hR eI224 (zf_ia k223 (by decide) rfl)
            exact J82 I224 H locs ls hM hS hR (lv_sub hl [0, 1, 2, 3, 4] rfl)
          refine lv_icmp_ne (tgt := 67) hx hb dX2_findFirstBlocks_59 (by decide) (fun b225 => ?_) (fun b225 => ?_)
          · have b225 := zi_ne b225 (rfl : x215.toInt = x215.toInt) (zl_m2 : (-2 : Int32).toInt = (-2))
            refine lv_aload_n hx hb dX2_findFirstBlocks_67 rfl (lv_at hl 1 rfl) ?_
            refine zq_getr E hM k_h0 (zFX2_18 E hZ) ⟨by decide, by decide, by decide, rfl⟩ dX2_findFirstBlocks_68 ?_
            have k226 : zq_k X (zq_r X h0 1) = 34 := zq_lk L.1 k_h0 rfl (by decide)
            refine lv_iconst (v := 1) hx hb dX2_findFirstBlocks_71 (by decide +kernel) ?_
            refine zq_iald (n := 4) (j := 1) (v := x215) E hZ hM k226 ⟨by decide, rfl⟩ (by rw [zl_1]; decide) (by decide +kernel) ex215 dX2_findFirstBlocks_72 ?_
            exact J73 ls x215 (lv_sub hl [0, 1, 2, 3, 4] rfl)
          · have b225 := zi_eq b225 (rfl : x215.toInt = x215.toInt) (zl_m2 : (-2 : Int32).toInt = (-2))
            refine lv_iload hx hb dX2_findFirstBlocks_62 (lv_at hl 0 rfl) ?_
            refine lv_goto (tgt := 73) hx hb dX2_findFirstBlocks_64 (by decide) ?_
            exact J73 ls j185 (lv_sub hl [0, 1, 2, 3, 4] rfl)
  exact J17 (1000 + 1 - (0 : Int32).toInt).toNat I107 H locs ls (0 : Int32) (by omega) hM hS hR (by rw [zl_0]; decide) (lv_sub hl [0, 1, 2, 3, 4] rfl)
def zw_X2_worldAfter : List (Nat × Nat) := [(5, 0), (5, 1), (5, 2), (5, 3), (5, 4), (5, 5), (7, 0), (7, 1), (7, 2), (7, 3), (7, 4), (7, 5), (7, 6), (8, 0), (8, 1), (8, 2), (8, 3), (8, 4), (8, 5), (8, 6), (30, 999)]
set_option maxHeartbeats 8000000 in
set_option maxRecDepth 100000 in
theorem c_X2_worldAfter (l : Launch) (X : zq_X) (zk zn : Nat) (I : zq_M) (L : zq_L X) (b : Int) (h0 : Nat) (k_h0 : zq_k X h0 = 3) (p1 : Nat) (k_p1 : zq_k X p1 = 8) (p2 : Option Nat) (hqp2 : p2 = none ∨ ∃ q, p2 = some q ∧ zq_k X q = 4) (p3 : Int32) (g_p3 : 0 ≤ p3.toInt ∧ p3.toInt ≤ 60) (q_0 : zW X I b p1) (q_1 : zq_o X p1 = 100) (q_2 : 0 ≤ b ∧ b ≤ 800000) : Met l yX2_worldAfter (zt_w yX2_worldAfter cX2_worldAfter 5 (some (.object "PondIceTrade$World"))) (zq_rm (5)) (va_Pc [.ref h0, .ref p1, va_rf p2, .int p3] (zq_W X (zk, zn) I)) (va_Qr (fun I2 => zq_fr (zf X zw_X2_worldAfter (fun b => zq_o X b = 201)) I I2) (fun I2 r t => zq_E X (zk, zn) I2 t ∧ zq_k X r = 8) (zq_A X)) 0 0 (zq_A X) := by
  refine Met.ofW (cc := cX2_worldAfter) (maxL := 5) (ret := (some (.object "PondIceTrade$World"))) (by decide) rfl ?_
  intro p e s m args below meth c s₁ B hml hv
  obtain ⟨hargs, hM, hZ⟩ := hv
  have hown : s.vm.findClass RX2 = some m.cls := findClass_of_methodNamed B.named
  have hts := atoms_spec (ws := zt_w yX2_worldAfter cX2_worldAfter 5 (some (.object "PondIceTrade$World"))) B.pre
  have E : CallFix p m c cX2_worldAfter 5 s args (Cond.code yX2_worldAfter cX2_worldAfter 5 (some (.object "PondIceTrade$World")) :: zt) RX2 := ⟨B.exec, B.bytes, hml, hown, hts⟩
  have hx := B.exec
  have hb := B.bytes
  have hr := B.returns
  have hlocks := B.notSynchronized
  clear B
  have hS : va_S (zq_A X) s.heap s.heap [] := va_S.rf
  have hR : zq_fr (zf X zw_X2_worldAfter (fun b => zq_o X b = 201)) I I := zq_fr.rf
  have hl := lv_entry ([.ref h0, .ref p1, va_rf p2, .int p3]) (n := 5) (by cases p2 <;> exact Nat.le_of_ble_eq_true rfl)
  have hg : entryFrame m args 5 = F0 m 0 ((lg_sl ([.ref h0, .ref p1, va_rf p2, .int p3]) ++ List.replicate (5 - (lg_sl ([.ref h0, .ref p1, va_rf p2, .int p3])).length) Slot.unset).toArray) [] := by rw [hargs]; exact lg_entry_eq m ([.ref h0, .ref p1, va_rf p2, .int p3]) 5
  rw [hg]
  clear hg hargs
  generalize (lg_sl ([.ref h0, .ref p1, va_rf p2, .int p3]) ++ List.replicate (5 - (lg_sl ([.ref h0, .ref p1, va_rf p2, .int p3])).length) Slot.unset).toArray = ls at hl ⊢
  have hl : lv_has ls 5 [(0, .ref h0), (1, .ref p1), (2, va_rf p2), (3, .int p3)] := by cases p2 <;> exact hl
  obtain ⟨R, hRm⟩ : ∃ R : Room, R = (headSpec (zt_w yX2_worldAfter cX2_worldAfter 5 (some (.object "PondIceTrade$World"))) (zq_rm (5))).room := ⟨_, rfl⟩
  rw [← hRm]
  have hro : ∀ d q : Nat, d + 1 ≤ 5 → q ≤ 45 → zq_rok d q R := fun d q h1 h2 => by rw [hRm]; exact zq_rokI h1 h2
  generalize hQ : MQ below _ args s 0 0 (zq_A X) = Q
  obtain ⟨H, hH⟩ : ∃ H, H = s.heap := ⟨_, rfl⟩
  obtain ⟨locs, hlo⟩ : ∃ x : List Loc, x = [] := ⟨_, rfl⟩
  rw [show W p l e R s m args below meth c s.heap [] 0 0 Q = W p l e R s m args below meth c H locs 0 0 Q by rw [hH, hlo]]
  have hM : zq_hm X (zk, zn) I H := by rw [hH]; exact hM
  have hS : va_S (zq_A X) s.heap H locs := by rw [hH, hlo]; exact hS
  clear hH hlo
  refine lv_aload_n hx hb dX2_worldAfter_0 rfl (lv_at hl 0 rfl) ?_
  refine zq_getr E hM k_h0 (zFX2_12 E hZ) ⟨by decide, by decide, by decide, rfl⟩ dX2_worldAfter_1 ?_
  have k101 : zq_k X (zq_r X h0 0) = 8 := zq_lk L.1 k_h0 rfl (by decide)
  refine lv_aload_n hx hb dX2_worldAfter_4 rfl (lv_at hl 1 rfl) ?_
  refine zq_callv (zq_rV (As := [.ref p1]) (rest := []) E hZ hM k101 (c_X10_copyFrom l X zk (zn) I L (zq_r X h0 0) k101 p1 k_p1 (fun hq => by have h1 := (L.2.2.2.2.1 _ k_h0); have h2 := q_1; omega)) zmX2_39 zM_X10_copyFrom (hro (1) 3 (by first | decide | omega) (by decide)) ⟨by decide, by decide⟩ rfl hl.1 rfl rfl (Nat.le_of_ble_eq_true rfl) dX2_worldAfter_5) hS (fun I104 H locs h102 hM hS => ?_)
  obtain ⟨fr105, p106⟩ := h102
  have hR := zq_fr.call hR fr105 (zf_sub (by decide +kernel) (fun b _ q => (q.trans ((L.2.2.2.2.1 _ k_h0)))))
  have hW107 := zW.frP q_0 L k_p1 fr105 (fun q hq hp => by have h1 := hq.trans (q_1); have h2 := hp.trans ((L.2.2.2.2.1 _ k_h0)); omega)
  have hW108 := zW.copy q_0 p106
  refine lv_iconst (v := 0) hx hb dX2_worldAfter_8 (by decide +kernel) ?_
  refine lv_istore (lv' := [(4, .int (0 : Int32)), (0, .ref h0), (1, .ref p1), (2, va_rf p2), (3, .int p3)]) hx hb dX2_worldAfter_9 hl (by decide) rfl (fun ls hl => ?_)
  have J11 : ∀ (n169 : Nat) (I166 : zq_M) (H : Heap) (locs : List Loc) (ls : Array Slot) (j165 : Int32), 60 + 1 - j165.toInt ≤ ((n169 : Nat) : Int) → (zq_hm X (zk, zn) I166 H) → (va_S (zq_A X) s.heap H locs) → (zq_fr (zf X zw_X2_worldAfter (fun b => zq_o X b = 201)) I I166) → (0 ≤ j165.toInt ∧ j165.toInt ≤ 60) → (zW X I166 (b) p1) → (zW X I166 (b + 297 * j165.toInt) (zq_r X h0 0)) → (lv_has ls 5 [(4, .int j165), (0, .ref h0), (1, .ref p1), (2, va_rf p2), (3, .int p3)]) → W p l e R s m args below meth c H locs 0 0 Q (F0 m 11 ls []) := by
    intro n169
    induction n169 with
    | zero => intro I166 H locs ls j165 mu170 hM hS hR gj165 F167 F168 hl; exfalso; have := zi_rng j165; omega
    | succ n169 ih11 =>
      intro I166 H locs ls j165 mu170 hM hS hR gj165 F167 F168 hl
      refine lv_iload hx hb dX2_worldAfter_11 (lv_at hl 0 rfl) ?_
      refine lv_iload_n hx hb dX2_worldAfter_13 rfl (lv_at hl 4 rfl) ?_
      refine lv_icmp_ge (tgt := 34) hx hb dX2_worldAfter_14 (by decide) (fun b171 => ?_) (fun b171 => ?_)
      · have b171 := zi_le b171 (rfl : p3.toInt = p3.toInt) (rfl : j165.toInt = j165.toInt)
        refine lv_aload_n hx hb dX2_worldAfter_34 rfl (lv_at hl 1 rfl) ?_
        refine zq_getr E hM k_h0 (zFX2_12 E hZ) ⟨by decide, by decide, by decide, rfl⟩ dX2_worldAfter_35 ?_
        have k172 : zq_k X (zq_r X h0 0) = 8 := zq_lk L.1 k_h0 rfl (by decide)
        subst hQ
        exact zq_rret E hr hZ hM hS hR k172 hlocks dX2_worldAfter_38
      · have b171 := zi_nle b171 (rfl : p3.toInt = p3.toInt) (rfl : j165.toInt = j165.toInt)
        refine lv_aload_n hx hb dX2_worldAfter_17 rfl (lv_at hl 1 rfl) ?_
        refine zq_getr E hM k_h0 (zFX2_12 E hZ) ⟨by decide, by decide, by decide, rfl⟩ dX2_worldAfter_18 ?_
        have k173 : zq_k X (zq_r X h0 0) = 8 := zq_lk L.1 k_h0 rfl (by decide)
        refine zq_oload_n hx hb dX2_worldAfter_21 rfl (lv_at hl 3 rfl) ?_
        refine lv_bipush (v := 100) hx hb dX2_worldAfter_22 (by decide +kernel) ?_
        refine zq_calli (zq_rV (As := [va_rf p2, .int (100 : Int32)]) (rest := []) E hZ hM k173 (c_X10_passMonth l X zk (zn) I166 L (b + 297 * j165.toInt) (zq_r X h0 0) k173 p2 hqp2 (100 : Int32) (F168) (by have := zl_100; omega)) zmX2_43 zM_X10_passMonth (hro (4) 6 (by first | decide | omega) (by decide)) ⟨by decide, by decide⟩ rfl hl.1 rfl rfl (Nat.le_of_ble_eq_true rfl) dX2_worldAfter_24) hS (fun x175 I176 H locs h174 hM hS => ?_)
        obtain ⟨fr177, p178⟩ := h174
        have := zl_100
        have hR := zq_fr.call hR fr177 (zf_sub (by decide +kernel) (fun b _ q => (q.trans ((L.2.2.2.2.1 _ k_h0)))))
        have hW179 := zW.frP F167 L k_p1 fr177 (fun q hq hp => by have h1 := hq.trans (q_1); have h2 := hp.trans ((L.2.2.2.2.1 _ k_h0)); omega)
        refine lv_pop hx hb dX2_worldAfter_27 rfl ?_
        obtain ⟨x181, ex181⟩ : ∃ y : Int32, y = j165 + 1 := ⟨_, rfl⟩
        have tx181 := zi_add ex181 (rfl : j165.toInt = j165.toInt) zl_1 ⟨by omega, by omega⟩
        refine lv_iinc (v := x181) (lv' := [(4, .int x181), (0, .ref h0), (1, .ref p1), (2, va_rf p2), (3, .int p3)]) hx hb dX2_worldAfter_28 hl (k := 0) rfl (by rw [ex181]; rfl) (by decide) rfl (fun ls hl => ?_)
        refine lv_goto (tgt := 11) hx hb dX2_worldAfter_31 (by decide) ?_
        exact ih11 I176 H locs ls x181 (by omega) hM hS hR (⟨by omega, by omega⟩) hW179 (zW.mono p178 (by have := zl_0; omega)) (lv_sub hl [0, 1, 2, 3, 4] rfl)
  exact J11 (60 + 1 - (0 : Int32).toInt).toNat I104 H locs ls (0 : Int32) (by omega) hM hS hR (by rw [zl_0]; decide) hW107 (zW.mono hW108 (by have := zl_0; omega)) (lv_sub hl [0, 1, 2, 3, 4] rfl)
def zw_X2_moneyThen : List (Nat × Nat) := [(5, 2), (5, 3), (5, 4), (5, 5), (7, 2), (7, 4), (7, 6), (8, 1), (8, 3), (8, 4)]
set_option maxHeartbeats 8000000 in
set_option maxRecDepth 100000 in
theorem c_X2_moneyThen (l : Launch) (X : zq_X) (zk zn : Nat) (I : zq_M) (L : zq_L X) (b : Int) (h0 : Nat) (k_h0 : zq_k X h0 = 3) (p1 : Option Nat) (hqp1 : p1 = none ∨ ∃ q, p1 = some q ∧ zq_k X q = 4) (q_0 : zW X I b (zq_r X h0 0)) (q_1 : 0 ≤ b ∧ b ≤ 800000) : Met l yX2_moneyThen (zt_w yX2_moneyThen cX2_moneyThen 3 (some .int)) (zq_rm (5)) (va_Pc [.ref h0, va_rf p1] (zq_W X (zk, zn) I)) (va_Qi (fun (r : Int32) I2 => zq_fr (zf X zw_X2_moneyThen (fun b => zq_o X b = 201)) I I2) (zq_E X (zk, zn)) (zq_A X)) 0 0 (zq_A X) := by
  refine Met.ofW (cc := cX2_moneyThen) (maxL := 3) (ret := (some .int)) (by decide) rfl ?_
  intro p e s m args below meth c s₁ B hml hv
  obtain ⟨hargs, hM, hZ⟩ := hv
  have hown : s.vm.findClass RX2 = some m.cls := findClass_of_methodNamed B.named
  have hts := atoms_spec (ws := zt_w yX2_moneyThen cX2_moneyThen 3 (some .int)) B.pre
  have E : CallFix p m c cX2_moneyThen 3 s args (Cond.code yX2_moneyThen cX2_moneyThen 3 (some .int) :: zt) RX2 := ⟨B.exec, B.bytes, hml, hown, hts⟩
  have hx := B.exec
  have hb := B.bytes
  have hr := B.returns
  have hlocks := B.notSynchronized
  clear B
  have hS : va_S (zq_A X) s.heap s.heap [] := va_S.rf
  have hR : zq_fr (zf X zw_X2_moneyThen (fun b => zq_o X b = 201)) I I := zq_fr.rf
  have hl := lv_entry ([.ref h0, va_rf p1]) (n := 3) (by cases p1 <;> exact Nat.le_of_ble_eq_true rfl)
  have hg : entryFrame m args 3 = F0 m 0 ((lg_sl ([.ref h0, va_rf p1]) ++ List.replicate (3 - (lg_sl ([.ref h0, va_rf p1])).length) Slot.unset).toArray) [] := by rw [hargs]; exact lg_entry_eq m ([.ref h0, va_rf p1]) 3
  rw [hg]
  clear hg hargs
  generalize (lg_sl ([.ref h0, va_rf p1]) ++ List.replicate (3 - (lg_sl ([.ref h0, va_rf p1])).length) Slot.unset).toArray = ls at hl ⊢
  have hl : lv_has ls 3 [(0, .ref h0), (1, va_rf p1)] := by cases p1 <;> exact hl
  obtain ⟨R, hRm⟩ : ∃ R : Room, R = (headSpec (zt_w yX2_moneyThen cX2_moneyThen 3 (some .int)) (zq_rm (5))).room := ⟨_, rfl⟩
  rw [← hRm]
  have hro : ∀ d q : Nat, d + 1 ≤ 5 → q ≤ 45 → zq_rok d q R := fun d q h1 h2 => by rw [hRm]; exact zq_rokI h1 h2
  generalize hQ : MQ below _ args s 0 0 (zq_A X) = Q
  obtain ⟨H, hH⟩ : ∃ H, H = s.heap := ⟨_, rfl⟩
  obtain ⟨locs, hlo⟩ : ∃ x : List Loc, x = [] := ⟨_, rfl⟩
  rw [show W p l e R s m args below meth c s.heap [] 0 0 Q = W p l e R s m args below meth c H locs 0 0 Q by rw [hH, hlo]]
  have hM : zq_hm X (zk, zn) I H := by rw [hH]; exact hM
  have hS : va_S (zq_A X) s.heap H locs := by rw [hH, hlo]; exact hS
  clear hH hlo
  refine lv_iconst (v := 0) hx hb dX2_moneyThen_0 (by decide +kernel) ?_
  refine lv_istore_n (lv' := [(2, .int (0 : Int32)), (0, .ref h0), (1, va_rf p1)]) hx hb dX2_moneyThen_1 rfl hl (by decide) (by cases p1 <;> rfl) (fun ls hl => ?_)
  have J2 : ∀ (n160 : Nat) (I158 : zq_M) (H : Heap) (locs : List Loc) (ls : Array Slot) (j157 : Int32), 24 + 1 - j157.toInt ≤ ((n160 : Nat) : Int) → (zq_hm X (zk, zn) I158 H) → (va_S (zq_A X) s.heap H locs) → (zq_fr (zf X zw_X2_moneyThen (fun b => zq_o X b = 201)) I I158) → (0 ≤ j157.toInt ∧ j157.toInt ≤ 24) → (zW X I158 (b + 297 * j157.toInt) (zq_r X h0 0)) → (lv_has ls 3 [(2, .int j157), (0, .ref h0), (1, va_rf p1)]) → W p l e R s m args below meth c H locs 0 0 Q (F0 m 2 ls []) := by
    intro n160
    induction n160 with
    | zero => intro I158 H locs ls j157 mu161 hM hS hR gj157 F159 hl; exfalso; have := zi_rng j157; omega
    | succ n160 ih2 =>
      intro I158 H locs ls j157 mu161 hM hS hR gj157 F159 hl
      refine lv_iload_n hx hb dX2_moneyThen_2 rfl (lv_at hl 0 rfl) ?_
      refine lv_aload_n hx hb dX2_moneyThen_3 rfl (lv_at hl 1 rfl) ?_
      refine zq_gn E hM k_h0 (zFX2_36 E hZ) (Or.inl ⟨by decide, by decide, by decide, rfl⟩) dX2_moneyThen_4 (fun x162 ex162 gx162 => ?_)
      replace gx162 : 0 ≤ x162.toInt ∧ x162.toInt ≤ 24 := gx162
      refine lv_icmp_ge (tgt := 27) hx hb dX2_moneyThen_7 (by decide) (fun b163 => ?_) (fun b163 => ?_)
      · have b163 := zi_le b163 (rfl : x162.toInt = x162.toInt) (rfl : j157.toInt = j157.toInt)
        refine lv_aload_n hx hb dX2_moneyThen_27 rfl (lv_at hl 1 rfl) ?_
        refine zq_getr E hM k_h0 (zFX2_12 E hZ) ⟨by decide, by decide, by decide, rfl⟩ dX2_moneyThen_28 ?_
        have k164 : zq_k X (zq_r X h0 0) = 8 := zq_lk L.1 k_h0 rfl (by decide)
        refine zq_gn E hM k164 (zFX2_47 E hZ) (Or.inl ⟨by decide, by decide, by decide, rfl⟩) dX2_moneyThen_31 (fun x165 ex165 gx165 => ?_)
        clear gx165
        subst hQ
        exact zq_iret E hr hZ hM hS hR hlocks dX2_moneyThen_34
      · have b163 := zi_nle b163 (rfl : x162.toInt = x162.toInt) (rfl : j157.toInt = j157.toInt)
        refine lv_aload_n hx hb dX2_moneyThen_10 rfl (lv_at hl 1 rfl) ?_
        refine zq_getr E hM k_h0 (zFX2_12 E hZ) ⟨by decide, by decide, by decide, rfl⟩ dX2_moneyThen_11 ?_
        have k166 : zq_k X (zq_r X h0 0) = 8 := zq_lk L.1 k_h0 rfl (by decide)
        refine zq_oload_n hx hb dX2_moneyThen_14 rfl (lv_at hl 2 rfl) ?_
        refine lv_bipush (v := 100) hx hb dX2_moneyThen_15 (by decide +kernel) ?_
        refine zq_calli (zq_rV (As := [va_rf p1, .int (100 : Int32)]) (rest := []) E hZ hM k166 (c_X10_passMonth l X zk (zn) I158 L (b + 297 * j157.toInt) (zq_r X h0 0) k166 p1 hqp1 (100 : Int32) (F159) (by have := zl_100; omega)) zmX2_43 zM_X10_passMonth (hro (4) 6 (by first | decide | omega) (by decide)) ⟨by decide, by decide⟩ rfl hl.1 rfl rfl (Nat.le_of_ble_eq_true rfl) dX2_moneyThen_17) hS (fun x168 I169 H locs h167 hM hS => ?_)
        obtain ⟨fr170, p171⟩ := h167
        have := zl_100
        have hR := zq_fr.call hR fr170 (zf_sub (by decide +kernel) (fun b _ q => (q.trans ((L.2.2.2.2.1 _ k_h0)))))
        refine lv_pop hx hb dX2_moneyThen_20 rfl ?_
        obtain ⟨x173, ex173⟩ : ∃ y : Int32, y = j157 + 1 := ⟨_, rfl⟩
        have tx173 := zi_add ex173 (rfl : j157.toInt = j157.toInt) zl_1 ⟨by omega, by omega⟩
        refine lv_iinc (v := x173) (lv' := [(2, .int x173), (0, .ref h0), (1, va_rf p1)]) hx hb dX2_moneyThen_21 hl (k := 0) rfl (by rw [ex173]; rfl) (by decide) (by cases p1 <;> rfl) (fun ls hl => ?_)
        refine lv_goto (tgt := 2) hx hb dX2_moneyThen_24 (by decide) ?_
        exact ih2 I169 H locs ls x173 (by omega) hM hS hR (⟨by omega, by omega⟩) (zW.mono p171 (by have := zl_0; omega)) (lv_sub hl [0, 1, 2] rfl)
  exact J2 (24 + 1 - (0 : Int32).toInt).toNat I H locs ls (0 : Int32) (by omega) hM hS hR (by rw [zl_0]; decide) (zW.mono q_0 (by have := zl_0; omega)) (lv_sub hl [0, 1, 2] rfl)
def zw_X2_sailsRow : List (Nat × Nat) := [(5, 0), (5, 1), (5, 2), (5, 3), (5, 4), (5, 5), (7, 0), (7, 1), (7, 2), (7, 3), (7, 4), (7, 5), (7, 6), (8, 0), (8, 1), (8, 2), (8, 3), (8, 4), (8, 5), (8, 6), (30, 999)]
set_option maxHeartbeats 8000000 in
set_option maxRecDepth 100000 in
theorem c_X2_sailsRow (l : Launch) (X : zq_X) (zk zn : Nat) (I : zq_M) (L : zq_L X) (b : Int) (h0 : Nat) (k_h0 : zq_k X h0 = 3) (p1 : Nat) (k_p1 : zq_k X p1 = 8) (q_0 : zW X I b p1) (q_1 : zq_o X p1 = 100) (q_2 : 0 ≤ b ∧ b ≤ 800000) : Met l yX2_sailsRow (zt_w yX2_sailsRow cX2_sailsRow 4 (some .boolean)) (zq_rm (3)) (va_Pc [.ref h0, .ref p1] (zq_W X (zk, zn) I)) (va_Qi (fun (r : Int32) I2 => zq_fr (zf X zw_X2_sailsRow (fun b => zq_o X b = 201)) I I2 ∧ (zW X I2 b (zq_r X h0 0)) ∧ (0 ≤ r.toInt ∧ r.toInt ≤ 1)) (zq_E X (zk, zn)) (zq_A X)) 0 0 (zq_A X) := by
  refine Met.ofW (cc := cX2_sailsRow) (maxL := 4) (ret := (some .boolean)) (by decide) rfl ?_
  intro p e s m args below meth c s₁ B hml hv
  obtain ⟨hargs, hM, hZ⟩ := hv
  have hown : s.vm.findClass RX2 = some m.cls := findClass_of_methodNamed B.named
  have hts := atoms_spec (ws := zt_w yX2_sailsRow cX2_sailsRow 4 (some .boolean)) B.pre
  have E : CallFix p m c cX2_sailsRow 4 s args (Cond.code yX2_sailsRow cX2_sailsRow 4 (some .boolean) :: zt) RX2 := ⟨B.exec, B.bytes, hml, hown, hts⟩
  have hx := B.exec
  have hb := B.bytes
  have hr := B.returns
  have hlocks := B.notSynchronized
  clear B
  have hS : va_S (zq_A X) s.heap s.heap [] := va_S.rf
  have hR : zq_fr (zf X zw_X2_sailsRow (fun b => zq_o X b = 201)) I I := zq_fr.rf
  have hl := lv_entry ([.ref h0, .ref p1]) (n := 4) (by exact Nat.le_of_ble_eq_true rfl)
  have hg : entryFrame m args 4 = F0 m 0 ((lg_sl ([.ref h0, .ref p1]) ++ List.replicate (4 - (lg_sl ([.ref h0, .ref p1])).length) Slot.unset).toArray) [] := by rw [hargs]; exact lg_entry_eq m ([.ref h0, .ref p1]) 4
  rw [hg]
  clear hg hargs
  generalize (lg_sl ([.ref h0, .ref p1]) ++ List.replicate (4 - (lg_sl ([.ref h0, .ref p1])).length) Slot.unset).toArray = ls at hl ⊢
  have hl : lv_has ls 4 [(0, .ref h0), (1, .ref p1)] := by exact hl
  obtain ⟨R, hRm⟩ : ∃ R : Room, R = (headSpec (zt_w yX2_sailsRow cX2_sailsRow 4 (some .boolean)) (zq_rm (3))).room := ⟨_, rfl⟩
  rw [← hRm]
  have hro : ∀ d q : Nat, d + 1 ≤ 3 → q ≤ 45 → zq_rok d q R := fun d q h1 h2 => by rw [hRm]; exact zq_rokI h1 h2
  generalize hQ : MQ below _ args s 0 0 (zq_A X) = Q
  obtain ⟨H, hH⟩ : ∃ H, H = s.heap := ⟨_, rfl⟩
  obtain ⟨locs, hlo⟩ : ∃ x : List Loc, x = [] := ⟨_, rfl⟩
  rw [show W p l e R s m args below meth c s.heap [] 0 0 Q = W p l e R s m args below meth c H locs 0 0 Q by rw [hH, hlo]]
  have hM : zq_hm X (zk, zn) I H := by rw [hH]; exact hM
  have hS : va_S (zq_A X) s.heap H locs := by rw [hH, hlo]; exact hS
  clear hH hlo
  refine lv_aload_n hx hb dX2_sailsRow_0 rfl (lv_at hl 0 rfl) ?_
  refine zq_getr E hM k_h0 (zFX2_12 E hZ) ⟨by decide, by decide, by decide, rfl⟩ dX2_sailsRow_1 ?_
  have k101 : zq_k X (zq_r X h0 0) = 8 := zq_lk L.1 k_h0 rfl (by decide)
  refine lv_aload_n hx hb dX2_sailsRow_4 rfl (lv_at hl 1 rfl) ?_
  refine zq_callv (zq_rV (As := [.ref p1]) (rest := []) E hZ hM k101 (c_X10_copyFrom l X zk (zn) I L (zq_r X h0 0) k101 p1 k_p1 (fun hq => by have h1 := (L.2.2.2.2.1 _ k_h0); have h2 := q_1; omega)) zmX2_39 zM_X10_copyFrom (hro (1) 3 (by first | decide | omega) (by decide)) ⟨by decide, by decide⟩ rfl hl.1 rfl rfl (Nat.le_of_ble_eq_true rfl) dX2_sailsRow_5) hS (fun I104 H locs h102 hM hS => ?_)
  obtain ⟨fr105, p106⟩ := h102
  have hR := zq_fr.call hR fr105 (zf_sub (by decide +kernel) (fun b _ q => (q.trans ((L.2.2.2.2.1 _ k_h0)))))
  have hW107 := zW.frP q_0 L k_p1 fr105 (fun q hq hp => by have h1 := hq.trans (q_1); have h2 := hp.trans ((L.2.2.2.2.1 _ k_h0)); omega)
  have hW108 := zW.copy q_0 p106
  refine lv_iconst (v := 0) hx hb dX2_sailsRow_8 (by decide +kernel) ?_
  refine lv_istore_n (lv' := [(2, .int (0 : Int32)), (0, .ref h0), (1, .ref p1)]) hx hb dX2_sailsRow_9 rfl hl (by decide) rfl (fun ls hl => ?_)
  have J10 : ∀ (n205 : Nat) (I202 : zq_M) (H : Heap) (locs : List Loc) (ls : Array Slot) (j201 : Int32), 3 + 1 - j201.toInt ≤ ((n205 : Nat) : Int) → (zq_hm X (zk, zn) I202 H) → (va_S (zq_A X) s.heap H locs) → (zq_fr (zf X zw_X2_sailsRow (fun b => zq_o X b = 201)) I I202) → (0 ≤ j201.toInt ∧ j201.toInt ≤ 3) → (zW X I202 (b) p1) → (zW X I202 (b) (zq_r X h0 0)) → (lv_has ls 4 [(2, .int j201), (0, .ref h0), (1, .ref p1)]) → W p l e R s m args below meth c H locs 0 0 Q (F0 m 10 ls []) := by
    intro n205
    induction n205 with
    | zero => intro I202 H locs ls j201 mu206 hM hS hR gj201 F203 F204 hl; exfalso; have := zi_rng j201; omega
    | succ n205 ih10 =>
      intro I202 H locs ls j201 mu206 hM hS hR gj201 F203 F204 hl
      refine lv_iload_n hx hb dX2_sailsRow_10 rfl (lv_at hl 0 rfl) ?_
      refine lv_iconst (v := 3) hx hb dX2_sailsRow_11 (by decide +kernel) ?_
      refine lv_icmp_ge (tgt := 63) hx hb dX2_sailsRow_12 (by decide) (fun b207 => ?_) (fun b207 => ?_)
      · have b207 := zi_le b207 (zl_3 : (3 : Int32).toInt = 3) (rfl : j201.toInt = j201.toInt)
        refine lv_iconst (v := 1) hx hb dX2_sailsRow_63 (by decide +kernel) ?_
        subst hQ
        exact zq_zret E hr hZ hM hS (show 0 ≤ (1 : Int32).toInt ∧ (1 : Int32).toInt ≤ 1 by decide +kernel) ⟨hR, (F204), (by have := zl_1; omega)⟩ hlocks dX2_sailsRow_64
      · have b207 := zi_nle b207 (zl_3 : (3 : Int32).toInt = 3) (rfl : j201.toInt = j201.toInt)
        refine lv_aload_n hx hb dX2_sailsRow_15 rfl (lv_at hl 1 rfl) ?_
        refine zq_getr E hM k_h0 (zFX2_22 E hZ) ⟨by decide, by decide, by decide, rfl⟩ dX2_sailsRow_16 ?_
        have k208 : zq_k X (zq_r X h0 2) = 35 := zq_lk L.1 k_h0 rfl (by decide)
        refine lv_iload_n hx hb dX2_sailsRow_19 rfl (lv_at hl 0 rfl) ?_
        refine zq_ian (n := 3) (j := (j201.toNatClampNeg)) E hZ hM k208 ⟨by decide, rfl⟩ ⟨by omega, by omega⟩ rfl dX2_sailsRow_20 (fun x209 ex209 gx209 => ?_)
        clear gx209
        refine lv_iconst (v := (-1)) hx hb dX2_sailsRow_21 (by decide +kernel) ?_
        have J57 : ∀ (I223 : zq_M) (H : Heap) (locs : List Loc) (ls : Array Slot), (zq_hm X (zk, zn) I223 H) → (va_S (zq_A X) s.heap H locs) → (zq_fr (zf X zw_X2_sailsRow (fun b => zq_o X b = 201)) I I223) → (zW X I223 (b) p1) → (zW X I223 (b) (zq_r X h0 0)) → (lv_has ls 4 [(2, .int j201), (0, .ref h0), (1, .ref p1)]) → W p l e R s m args below meth c H locs 0 0 Q (F0 m 57 ls []) := by
          intro I223 H locs ls hM hS hR F224 F225 hl
          obtain ⟨x227, ex227⟩ : ∃ y : Int32, y = j201 + 1 := ⟨_, rfl⟩
          have tx227 := zi_add ex227 (rfl : j201.toInt = j201.toInt) zl_1 ⟨by omega, by omega⟩
          refine lv_iinc (v := x227) (lv' := [(2, .int x227), (0, .ref h0), (1, .ref p1)]) hx hb dX2_sailsRow_57 hl (k := 0) rfl (by rw [ex227]; rfl) (by decide) rfl (fun ls hl => ?_)
          refine lv_goto (tgt := 10) hx hb dX2_sailsRow_60 (by decide) ?_
          exact ih10 I223 H locs ls x227 (by omega) hM hS hR (⟨by omega, by omega⟩) F224 F225 (lv_sub hl [0, 1, 2] rfl)
        refine lv_icmp_eq (tgt := 57) hx hb dX2_sailsRow_22 (by decide) (fun b228 => ?_) (fun b228 => ?_)
        · have b228 := zi_eq b228 (rfl : x209.toInt = x209.toInt) (zl_m1 : (-1 : Int32).toInt = (-1))
          exact J57 I202 H locs ls hM hS hR F203 F204 (lv_sub hl [0, 1, 2] rfl)
        · have b228 := zi_ne b228 (rfl : x209.toInt = x209.toInt) (zl_m1 : (-1 : Int32).toInt = (-1))
          refine lv_aload_n hx hb dX2_sailsRow_25 rfl (lv_at hl 1 rfl) ?_
          refine zq_getr E hM k_h0 (zFX2_12 E hZ) ⟨by decide, by decide, by decide, rfl⟩ dX2_sailsRow_26 ?_
          have k229 : zq_k X (zq_r X h0 0) = 8 := zq_lk L.1 k_h0 rfl (by decide)
          refine lv_iload_n hx hb dX2_sailsRow_29 rfl (lv_at hl 0 rfl) ?_
          refine zq_pcalli (zq_rV (As := [.int j201]) (rest := []) E hZ hM k229 (c_X10_mostBlocks l X zk (zn) I202 L (zq_r X h0 0) k229 j201) zmX2_58 zM_X10_mostBlocks (hro (2) 3 (by first | decide | omega) (by decide)) ⟨by decide, by decide⟩ rfl hl.1 rfl rfl (Nat.le_of_ble_eq_true rfl) dX2_sailsRow_30) hS (fun x231 H locs h230 hM hS => ?_)
          have p232 := h230
          have := zi_rng x231
          refine lv_istore_n (lv' := [(3, .int x231), (2, .int j201), (0, .ref h0), (1, .ref p1)]) hx hb dX2_sailsRow_33 rfl hl (by decide) rfl (fun ls hl => ?_)
          refine lv_iload_n hx hb dX2_sailsRow_34 rfl (lv_at hl 0 rfl) ?_
          refine lv_iconst (v := 1) hx hb dX2_sailsRow_35 (by decide +kernel) ?_
          refine lv_icmp_ge (tgt := 41) hx hb dX2_sailsRow_36 (by decide) (fun b233 => ?_) (fun b233 => ?_)
          · have b233 := zi_le b233 (zl_1 : (1 : Int32).toInt = 1) (rfl : x231.toInt = x231.toInt)
            refine lv_aload_n hx hb dX2_sailsRow_41 rfl (lv_at hl 2 rfl) ?_
            refine zq_getr E hM k_h0 (zFX2_12 E hZ) ⟨by decide, by decide, by decide, rfl⟩ dX2_sailsRow_42 ?_
            have k234 : zq_k X (zq_r X h0 0) = 8 := zq_lk L.1 k_h0 rfl (by decide)
            refine lv_iload_n hx hb dX2_sailsRow_45 rfl (lv_at hl 1 rfl) ?_
            refine lv_aload_n hx hb dX2_sailsRow_46 rfl (lv_at hl 2 rfl) ?_
            refine zq_getr E hM k_h0 (zFX2_22 E hZ) ⟨by decide, by decide, by decide, rfl⟩ dX2_sailsRow_47 ?_
            have k235 : zq_k X (zq_r X h0 2) = 35 := zq_lk L.1 k_h0 rfl (by decide)
            refine lv_iload_n hx hb dX2_sailsRow_50 rfl (lv_at hl 1 rfl) ?_
            refine zq_iald (n := 3) (j := (j201.toNatClampNeg)) (v := x209) E hZ hM k235 ⟨by decide, rfl⟩ ⟨by omega, by omega⟩ rfl ex209 dX2_sailsRow_51 ?_
            refine lv_iload_n hx hb dX2_sailsRow_52 rfl (lv_at hl 0 rfl) ?_
            refine lv_iconst (v := 0) hx hb dX2_sailsRow_53 (by decide +kernel) ?_
            refine W.eq (g2 := F0 m 54 ls [.int (0 : Int32), .int x231, .int x209, .int j201, .ref (zq_r X h0 0)]) rfl ?_
            refine zq_callv (zq_rV (As := [.int j201, .int x209, .int x231, .int (0 : Int32)]) (rest := []) E hZ hM k234 (c_X10_setSail l X zk (zn) I202 L (zq_r X h0 0) k234 j201 x209 x231 (0 : Int32) ⟨by omega, by omega⟩ (by rw [zl_0]; decide)) zmX2_69 zM_X10_setSail (hro (2) 5 (by first | decide | omega) (by decide)) ⟨by decide, by decide⟩ rfl hl.1 rfl rfl (Nat.le_of_ble_eq_true rfl) dX2_sailsRow_54) hS (fun I239 H locs h237 hM hS => ?_)
            have fr240 := h237
            have := zl_0
            have hR := zq_fr.call hR fr240 (zf_sub (by decide +kernel) (fun b _ q => (q.trans ((L.2.2.2.2.1 _ k_h0)))))
            have hW241 := zW.frL F203 L k_p1 fr240 rfl rfl
            have hW242 := zW.frL F204 L k101 fr240 rfl rfl
            exact J57 I239 H locs ls hM hS hR hW241 hW242 (lv_sub hl [1, 2, 3] rfl)
          · have b233 := zi_nle b233 (zl_1 : (1 : Int32).toInt = 1) (rfl : x231.toInt = x231.toInt)
            refine lv_iconst (v := 0) hx hb dX2_sailsRow_39 (by decide +kernel) ?_
            subst hQ
            exact zq_zret E hr hZ hM hS (show 0 ≤ (0 : Int32).toInt ∧ (0 : Int32).toInt ≤ 1 by decide +kernel) ⟨hR, (F204), (by have := zl_0; omega)⟩ hlocks dX2_sailsRow_40
  exact J10 (3 + 1 - (0 : Int32).toInt).toNat I104 H locs ls (0 : Int32) (by omega) hM hS hR (by rw [zl_0]; decide) hW107 hW108 (lv_sub hl [0, 1, 2] rfl)
def zw_X2_findSend : List (Nat × Nat) := [(5, 0), (5, 1), (5, 2), (5, 3), (5, 4), (5, 5), (7, 0), (7, 1), (7, 2), (7, 3), (7, 4), (7, 5), (7, 6), (8, 0), (8, 1), (8, 2), (8, 3), (8, 4), (8, 5), (8, 6), (30, 999), (34, 999)]
set_option maxHeartbeats 8000000 in
set_option maxRecDepth 100000 in
theorem c_X2_findSend (l : Launch) (X : zq_X) (zk zn : Nat) (I : zq_M) (L : zq_L X) (b : Int) (h0 : Nat) (k_h0 : zq_k X h0 = 3) (p1 : Nat) (k_p1 : zq_k X p1 = 8) (p2 : Option Nat) (hqp2 : p2 = none ∨ ∃ q, p2 = some q ∧ zq_k X q = 4) (p3 : Int32) (q_0 : zW X I b p1) (q_1 : zq_o X p1 = 100) (q_2 : 0 ≤ b ∧ b ≤ 800000) : Met l yX2_findSend (zt_w yX2_findSend cX2_findSend 8 none) (zq_rm (6)) (va_Pc [.ref h0, .ref p1, va_rf p2, .int p3] (zq_W X (zk, zn) I)) (va_Qv (fun I2 => zq_fr (zf X zw_X2_findSend (fun b => zq_o X b = 201)) I I2) (zq_E X (zk, zn)) (zq_A X)) 0 0 (zq_A X) := by
  refine Met.ofW (cc := cX2_findSend) (maxL := 8) (ret := none) (by decide) rfl ?_
  intro p e s m args below meth c s₁ B hml hv
  obtain ⟨hargs, hM, hZ⟩ := hv
  have hown : s.vm.findClass RX2 = some m.cls := findClass_of_methodNamed B.named
  have hts := atoms_spec (ws := zt_w yX2_findSend cX2_findSend 8 none) B.pre
  have E : CallFix p m c cX2_findSend 8 s args (Cond.code yX2_findSend cX2_findSend 8 none :: zt) RX2 := ⟨B.exec, B.bytes, hml, hown, hts⟩
  have hx := B.exec
  have hb := B.bytes
  have hr := B.returns
  have hlocks := B.notSynchronized
  clear B
  have hS : va_S (zq_A X) s.heap s.heap [] := va_S.rf
  have hR : zq_fr (zf X zw_X2_findSend (fun b => zq_o X b = 201)) I I := zq_fr.rf
  have hl := lv_entry ([.ref h0, .ref p1, va_rf p2, .int p3]) (n := 8) (by cases p2 <;> exact Nat.le_of_ble_eq_true rfl)
  have hg : entryFrame m args 8 = F0 m 0 ((lg_sl ([.ref h0, .ref p1, va_rf p2, .int p3]) ++ List.replicate (8 - (lg_sl ([.ref h0, .ref p1, va_rf p2, .int p3])).length) Slot.unset).toArray) [] := by rw [hargs]; exact lg_entry_eq m ([.ref h0, .ref p1, va_rf p2, .int p3]) 8
  rw [hg]
  clear hg hargs
  generalize (lg_sl ([.ref h0, .ref p1, va_rf p2, .int p3]) ++ List.replicate (8 - (lg_sl ([.ref h0, .ref p1, va_rf p2, .int p3])).length) Slot.unset).toArray = ls at hl ⊢
  have hl : lv_has ls 8 [(0, .ref h0), (1, .ref p1), (2, va_rf p2), (3, .int p3)] := by cases p2 <;> exact hl
  obtain ⟨R, hRm⟩ : ∃ R : Room, R = (headSpec (zt_w yX2_findSend cX2_findSend 8 none) (zq_rm (6))).room := ⟨_, rfl⟩
  rw [← hRm]
  have hro : ∀ d q : Nat, d + 1 ≤ 6 → q ≤ 45 → zq_rok d q R := fun d q h1 h2 => by rw [hRm]; exact zq_rokI h1 h2
  generalize hQ : MQ below _ args s 0 0 (zq_A X) = Q
  obtain ⟨H, hH⟩ : ∃ H, H = s.heap := ⟨_, rfl⟩
  obtain ⟨locs, hlo⟩ : ∃ x : List Loc, x = [] := ⟨_, rfl⟩
  rw [show W p l e R s m args below meth c s.heap [] 0 0 Q = W p l e R s m args below meth c H locs 0 0 Q by rw [hH, hlo]]
  have hM : zq_hm X (zk, zn) I H := by rw [hH]; exact hM
  have hS : va_S (zq_A X) s.heap H locs := by rw [hH, hlo]; exact hS
  clear hH hlo
  refine lv_aload_n hx hb dX2_findSend_0 rfl (lv_at hl 0 rfl) ?_
  refine lv_aload_n hx hb dX2_findSend_1 rfl (lv_at hl 0 rfl) ?_
  refine lv_aload_n hx hb dX2_findSend_2 rfl (lv_at hl 1 rfl) ?_
  refine zq_oload_n hx hb dX2_findSend_3 rfl (lv_at hl 2 rfl) ?_
  refine lv_aload_n hx hb dX2_findSend_4 rfl (lv_at hl 0 rfl) ?_
  refine zq_gn E hM k_h0 (zFX2_36 E hZ) (Or.inl ⟨by decide, by decide, by decide, rfl⟩) dX2_findSend_5 (fun x101 ex101 gx101 => ?_)
  replace gx101 : 0 ≤ x101.toInt ∧ x101.toInt ≤ 24 := gx101
  refine zq_callr (zq_rV (As := [.ref p1, va_rf p2, .int x101]) (rest := [.ref h0]) E hZ hM k_h0 (c_X2_worldAfter l X zk (zn) I L (b) h0 k_h0 p1 k_p1 p2 hqp2 x101 ⟨by omega, by omega⟩ (q_0) (q_1) (by omega)) zmX2_54 zM_X2_worldAfter (hro (5) 5 (by first | decide | omega) (by decide)) ⟨by decide, by decide⟩ rfl hl.1 rfl rfl (Nat.le_of_ble_eq_true rfl) dX2_findSend_8) hS (fun y103 I104 H locs h102 ky103 hM hS => ?_)
  have fr105 := h102
  have hR := zq_fr.call hR fr105 (zf_sub (by decide +kernel) (fun b _ q => q))
  have hW106 := zW.frP q_0 L k_p1 fr105 (fun q hq hp => by have h1 := hq.trans (q_1); omega)
  refine zq_gn E hM ky103 (zFX2_47 E hZ) (Or.inl ⟨by decide, by decide, by decide, rfl⟩) dX2_findSend_11 (fun x107 ex107 gx107 => ?_)
  clear gx107
  refine lv_iconst (v := (-1)) hx hb dX2_findSend_14 (by decide +kernel) ?_
  refine W.eq (g2 := F0 m 15 ls [.int (-1 : Int32), .int x107, .ref h0]) rfl ?_
  refine lv_iconst (v := 0) hx hb dX2_findSend_15 (by decide +kernel) ?_
  refine lv_iconst (v := 0) hx hb dX2_findSend_16 (by decide +kernel) ?_
  refine zq_callv (zq_rV (As := [.int x107, .int (-1 : Int32), .int (0 : Int32), .int (0 : Int32)]) (rest := []) E hZ hM k_h0 (c_X2_setBest l X zk (zn) I104 L h0 k_h0 x107 (-1 : Int32) (0 : Int32) (0 : Int32)) zmX2_50 zM_X2_setBest (hro (0) 5 (by first | decide | omega) (by decide)) ⟨by decide, by decide⟩ rfl hl.1 rfl rfl (Nat.le_of_ble_eq_true rfl) dX2_findSend_17) hS (fun I110 H locs h108 hM hS => ?_)
  have fr111 := h108
  have := zl_m1
  have := zl_0
  have hR := zq_fr.call hR fr111 (zf_sub (by decide +kernel) (fun _ _ q => q.elim))
  have hW112 := zW.frL hW106 L k_p1 fr111 rfl rfl
  refine lv_aload_n hx hb dX2_findSend_20 rfl (lv_at hl 1 rfl) ?_
  refine lv_iload_n hx hb dX2_findSend_21 rfl (lv_at hl 3 rfl) ?_
  refine zq_pcalli (zq_rV (As := [.int p3]) (rest := []) E hZ hM k_p1 (c_X10_mostBlocks l X zk (zn) I110 L p1 k_p1 p3) zmX2_58 zM_X10_mostBlocks (hro (2) 3 (by first | decide | omega) (by decide)) ⟨by decide, by decide⟩ rfl hl.1 rfl rfl (Nat.le_of_ble_eq_true rfl) dX2_findSend_22) hS (fun x114 H locs h113 hM hS => ?_)
  have p115 := h113
  have := zi_rng x114
  refine lv_istore (lv' := [(4, .int x114), (0, .ref h0), (1, .ref p1), (2, va_rf p2), (3, .int p3)]) hx hb dX2_findSend_25 hl (by decide) rfl (fun ls hl => ?_)
  refine lv_iconst (v := 0) hx hb dX2_findSend_27 (by decide +kernel) ?_
  refine lv_istore (lv' := [(5, .int (0 : Int32)), (4, .int x114), (0, .ref h0), (1, .ref p1), (2, va_rf p2), (3, .int p3)]) hx hb dX2_findSend_28 hl (by decide) rfl (fun ls hl => ?_)
  have J30 : ∀ (n4035 : Nat) (I4033 : zq_M) (H : Heap) (locs : List Loc) (ls : Array Slot) (j4032 : Int32), 4 + 1 - j4032.toInt ≤ ((n4035 : Nat) : Int) → (zq_hm X (zk, zn) I4033 H) → (va_S (zq_A X) s.heap H locs) → (zq_fr (zf X zw_X2_findSend (fun b => zq_o X b = 201)) I I4033) → (0 ≤ j4032.toInt ∧ j4032.toInt ≤ 4) → (zW X I4033 (b) p1) → (lv_has ls 8 [(5, .int j4032), (4, .int x114), (0, .ref h0), (1, .ref p1), (2, va_rf p2), (3, .int p3)]) → W p l e R s m args below meth c H locs 0 0 Q (F0 m 30 ls []) := by
    intro n4035
    induction n4035 with
    | zero => intro I4033 H locs ls j4032 mu4036 hM hS hR gj4032 F4034 hl; exfalso; have := zi_rng j4032; omega
    | succ n4035 ih30 =>
      intro I4033 H locs ls j4032 mu4036 hM hS hR gj4032 F4034 hl
      refine lv_iload hx hb dX2_findSend_30 (lv_at hl 0 rfl) ?_
      refine lv_aload_n hx hb dX2_findSend_32 rfl (lv_at hl 3 rfl) ?_
      refine zq_gn E hM k_p1 (zFX2_62 E hZ) (Or.inl ⟨by decide, by decide, by decide, rfl⟩) dX2_findSend_33 (fun x4037 ex4037 gx4037 => ?_)
      replace gx4037 : 0 ≤ x4037.toInt ∧ x4037.toInt ≤ 4 := gx4037
      refine lv_icmp_ge (tgt := 145) hx hb dX2_findSend_36 (by decide) (fun b4038 => ?_) (fun b4038 => ?_)
      · have b4038 := zi_le b4038 (rfl : x4037.toInt = x4037.toInt) (rfl : j4032.toInt = j4032.toInt)
        subst hQ
        exact zq_vret E hr hZ hM hS hR hlocks dX2_findSend_145
      · have b4038 := zi_nle b4038 (rfl : x4037.toInt = x4037.toInt) (rfl : j4032.toInt = j4032.toInt)
        refine lv_iconst (v := 1) hx hb dX2_findSend_39 (by decide +kernel) ?_
        refine lv_istore (lv' := [(6, .int (1 : Int32)), (5, .int j4032), (4, .int x114), (0, .ref h0), (1, .ref p1), (2, va_rf p2), (3, .int p3)]) hx hb dX2_findSend_40 hl (by decide) rfl (fun ls hl => ?_)
        have J42 : ∀ (n4822 : Nat) (I4820 : zq_M) (H : Heap) (locs : List Loc) (ls : Array Slot) (j4819 : Int32), 100 + 1 - j4819.toInt ≤ ((n4822 : Nat) : Int) → (zq_hm X (zk, zn) I4820 H) → (va_S (zq_A X) s.heap H locs) → (zq_fr (zf X zw_X2_findSend (fun b => zq_o X b = 201)) I I4820) → (1 ≤ j4819.toInt ∧ j4819.toInt ≤ 100) → (zW X I4820 (b) p1) → (lv_has ls 8 [(6, .int j4819), (5, .int j4032), (4, .int x114), (0, .ref h0), (1, .ref p1), (2, va_rf p2), (3, .int p3)]) → W p l e R s m args below meth c H locs 0 0 Q (F0 m 42 ls []) := by
          intro n4822
          induction n4822 with
          | zero => intro I4820 H locs ls j4819 mu4823 hM hS hR gj4819 F4821 hl; exfalso; have := zi_rng j4819; omega
          | succ n4822 ih42 =>
            intro I4820 H locs ls j4819 mu4823 hM hS hR gj4819 F4821 hl
            refine lv_iload hx hb dX2_findSend_42 (lv_at hl 0 rfl) ?_
            refine lv_iload hx hb dX2_findSend_44 (lv_at hl 2 rfl) ?_
            refine lv_icmp_gt (tgt := 139) hx hb dX2_findSend_46 (by decide) (fun b4824 => ?_) (fun b4824 => ?_)
            · have b4824 := zi_lt b4824 (rfl : x114.toInt = x114.toInt) (rfl : j4819.toInt = j4819.toInt)
              obtain ⟨x4825, ex4825⟩ : ∃ y : Int32, y = j4032 + 1 := ⟨_, rfl⟩
              have tx4825 := zi_add ex4825 (rfl : j4032.toInt = j4032.toInt) zl_1 ⟨by omega, by omega⟩
              refine lv_iinc (v := x4825) (lv' := [(5, .int x4825), (6, .int j4819), (4, .int x114), (0, .ref h0), (1, .ref p1), (2, va_rf p2), (3, .int p3)]) hx hb dX2_findSend_139 hl (k := 1) rfl (by rw [ex4825]; rfl) (by decide) rfl (fun ls hl => ?_)
              refine lv_goto (tgt := 30) hx hb dX2_findSend_142 (by decide) ?_
              exact ih30 I4820 H locs ls x4825 (by omega) hM hS hR (⟨by omega, by omega⟩) F4821 (lv_sub hl [0, 2, 3, 4, 5, 6] rfl)
            · have b4824 := zi_nlt b4824 (rfl : x114.toInt = x114.toInt) (rfl : j4819.toInt = j4819.toInt)
              refine lv_iconst (v := 0) hx hb dX2_findSend_49 (by decide +kernel) ?_
              refine lv_istore (lv' := [(7, .int (0 : Int32)), (6, .int j4819), (5, .int j4032), (4, .int x114), (0, .ref h0), (1, .ref p1), (2, va_rf p2), (3, .int p3)]) hx hb dX2_findSend_50 hl (by decide) rfl (fun ls hl => ?_)
              have J52 : ∀ (n4981 : Nat) (I4979 : zq_M) (H : Heap) (locs : List Loc) (ls : Array Slot) (j4978 : Int32), 2 + 1 - j4978.toInt ≤ ((n4981 : Nat) : Int) → (zq_hm X (zk, zn) I4979 H) → (va_S (zq_A X) s.heap H locs) → (zq_fr (zf X zw_X2_findSend (fun b => zq_o X b = 201)) I I4979) → (0 ≤ j4978.toInt ∧ j4978.toInt ≤ 2) → (zW X I4979 (b) p1) → (lv_has ls 8 [(7, .int j4978), (6, .int j4819), (5, .int j4032), (4, .int x114), (0, .ref h0), (1, .ref p1), (2, va_rf p2), (3, .int p3)]) → W p l e R s m args below meth c H locs 0 0 Q (F0 m 52 ls []) := by
                intro n4981
                induction n4981 with
                | zero => intro I4979 H locs ls j4978 mu4982 hM hS hR gj4978 F4980 hl; exfalso; have := zi_rng j4978; omega
                | succ n4981 ih52 =>
                  intro I4979 H locs ls j4978 mu4982 hM hS hR gj4978 F4980 hl
                  refine lv_iload hx hb dX2_findSend_52 (lv_at hl 0 rfl) ?_
                  refine lv_iconst (v := 1) hx hb dX2_findSend_54 (by decide +kernel) ?_
                  refine lv_icmp_gt (tgt := 133) hx hb dX2_findSend_55 (by decide) (fun b4983 => ?_) (fun b4983 => ?_)
                  · have b4983 := zi_lt b4983 (zl_1 : (1 : Int32).toInt = 1) (rfl : j4978.toInt = j4978.toInt)
                    obtain ⟨x4984, ex4984⟩ : ∃ y : Int32, y = j4819 + 1 := ⟨_, rfl⟩
                    have tx4984 := zi_add ex4984 (rfl : j4819.toInt = j4819.toInt) zl_1 ⟨by omega, by omega⟩
                    refine lv_iinc (v := x4984) (lv' := [(6, .int x4984), (7, .int j4978), (5, .int j4032), (4, .int x114), (0, .ref h0), (1, .ref p1), (2, va_rf p2), (3, .int p3)]) hx hb dX2_findSend_133 hl (k := 1) rfl (by rw [ex4984]; rfl) (by decide) rfl (fun ls hl => ?_)
                    refine lv_goto (tgt := 42) hx hb dX2_findSend_136 (by decide) ?_
                    exact ih42 I4979 H locs ls x4984 (by omega) hM hS hR (⟨by omega, by omega⟩) F4980 (lv_sub hl [0, 2, 3, 4, 5, 6, 7] rfl)
                  · have b4983 := zi_nlt b4983 (zl_1 : (1 : Int32).toInt = 1) (rfl : j4978.toInt = j4978.toInt)
                    refine lv_aload_n hx hb dX2_findSend_58 rfl (lv_at hl 5 rfl) ?_
                    refine lv_iload_n hx hb dX2_findSend_59 rfl (lv_at hl 7 rfl) ?_
                    refine lv_iload hx hb dX2_findSend_60 (lv_at hl 2 rfl) ?_
                    refine lv_iload hx hb dX2_findSend_62 (lv_at hl 1 rfl) ?_
                    refine lv_iload hx hb dX2_findSend_64 (lv_at hl 0 rfl) ?_
                    refine lv_iconst (v := 1) hx hb dX2_findSend_66 (by decide +kernel) ?_
                    have J75 : ∀ (ls : Array Slot) (j4985 : Int32), (0 ≤ j4985.toInt ∧ j4985.toInt ≤ 1) → (lv_has ls 8 [(7, .int j4978), (6, .int j4819), (5, .int j4032), (4, .int x114), (0, .ref h0), (1, .ref p1), (2, va_rf p2), (3, .int p3)]) → W p l e R s m args below meth c H locs 0 0 Q (F0 m 75 ls [.int j4985, .int j4819, .int j4032, .int p3, .ref p1]) := by
                      intro ls j4985 gj4985 hl
                      refine zq_pcalli (zq_rV (As := [.int p3, .int j4032, .int j4819, .int j4985]) (rest := []) E hZ hM k_p1 (c_X10_canSail l X zk (zn) I4979 L p1 k_p1 p3 j4032 j4819 j4985 ⟨by omega, by omega⟩) zmX2_65 zM_X10_canSail (hro (2) 5 (by first | decide | omega) (by decide)) ⟨by decide, by decide⟩ rfl hl.1 rfl rfl (Nat.le_of_ble_eq_true rfl) dX2_findSend_75) hS (fun x5021 H locs h5020 hM hS => ?_)
                      obtain ⟨p5022, p5023⟩ := h5020
                      have J127 : ∀ (I5051 : zq_M) (H : Heap) (locs : List Loc) (ls : Array Slot), (zq_hm X (zk, zn) I5051 H) → (va_S (zq_A X) s.heap H locs) → (zq_fr (zf X zw_X2_findSend (fun b => zq_o X b = 201)) I I5051) → (zW X I5051 (b) p1) → (lv_has ls 8 [(7, .int j4978), (6, .int j4819), (5, .int j4032), (4, .int x114), (0, .ref h0), (1, .ref p1), (2, va_rf p2), (3, .int p3)]) → W p l e R s m args below meth c H locs 0 0 Q (F0 m 127 ls []) := by
                        intro I5051 H locs ls hM hS hR F5052 hl
                        obtain ⟨x5054, ex5054⟩ : ∃ y : Int32, y = j4978 + 1 := ⟨_, rfl⟩
                        have tx5054 := zi_add ex5054 (rfl : j4978.toInt = j4978.toInt) zl_1 ⟨by omega, by omega⟩
                        refine lv_iinc (v := x5054) (lv' := [(7, .int x5054), (6, .int j4819), (5, .int j4032), (4, .int x114), (0, .ref h0), (1, .ref p1), (2, va_rf p2), (3, .int p3)]) hx hb dX2_findSend_127 hl (k := 0) rfl (by rw [ex5054]; rfl) (by decide) rfl (fun ls hl => ?_)
                        refine lv_goto (tgt := 52) hx hb dX2_findSend_130 (by decide) ?_
                        exact ih52 I5051 H locs ls x5054 (by omega) hM hS hR (⟨by omega, by omega⟩) F5052 (lv_sub hl [0, 1, 2, 3, 4, 5, 6, 7] rfl)
                      refine lv_if_eq (tgt := 127) hx hb dX2_findSend_78 (by decide) (fun b5055 => ?_) (fun b5055 => ?_)
                      · have b5055 := zi_eq b5055 (rfl : x5021.toInt = x5021.toInt) (zl_0 : (0 : Int32).toInt = 0)
                        exact J127 I4979 H locs ls hM hS hR F4980 (lv_sub hl [0, 1, 2, 3, 4, 5, 6, 7] rfl)
                      · have b5055 := zi_ne b5055 (rfl : x5021.toInt = x5021.toInt) (zl_0 : (0 : Int32).toInt = 0)
                        refine lv_aload_n hx hb dX2_findSend_81 rfl (lv_at hl 4 rfl) ?_
                        refine zq_getr E hM k_h0 (zFX2_12 E hZ) ⟨by decide, by decide, by decide, rfl⟩ dX2_findSend_82 ?_
                        have k5056 : zq_k X (zq_r X h0 0) = 8 := zq_lk L.1 k_h0 rfl (by decide)
                        refine lv_aload_n hx hb dX2_findSend_85 rfl (lv_at hl 5 rfl) ?_
                        refine zq_callv (zq_rV (As := [.ref p1]) (rest := []) E hZ hM k5056 (c_X10_copyFrom l X zk (zn) I4979 L (zq_r X h0 0) k5056 p1 k_p1 (fun hq => by have h1 := (L.2.2.2.2.1 _ k_h0); have h2 := q_1; omega)) zmX2_39 zM_X10_copyFrom (hro (1) 3 (by first | decide | omega) (by decide)) ⟨by decide, by decide⟩ rfl hl.1 rfl rfl (Nat.le_of_ble_eq_true rfl) dX2_findSend_86) hS (fun I5059 H locs h5057 hM hS => ?_)
                        obtain ⟨fr5060, p5061⟩ := h5057
                        have hR := zq_fr.call hR fr5060 (zf_sub (by decide +kernel) (fun b _ q => (q.trans ((L.2.2.2.2.1 _ k_h0)))))
                        have hW5062 := zW.frP F4980 L k_p1 fr5060 (fun q hq hp => by have h1 := hq.trans (q_1); have h2 := hp.trans ((L.2.2.2.2.1 _ k_h0)); omega)
                        have hW5063 := zW.copy F4980 p5061
                        refine lv_aload_n hx hb dX2_findSend_89 rfl (lv_at hl 4 rfl) ?_
                        refine zq_getr E hM k_h0 (zFX2_12 E hZ) ⟨by decide, by decide, by decide, rfl⟩ dX2_findSend_90 ?_
                        have k5064 : zq_k X (zq_r X h0 0) = 8 := zq_lk L.1 k_h0 rfl (by decide)
                        refine lv_iload_n hx hb dX2_findSend_93 rfl (lv_at hl 7 rfl) ?_
                        refine lv_iload hx hb dX2_findSend_94 (lv_at hl 2 rfl) ?_
                        refine lv_iload hx hb dX2_findSend_96 (lv_at hl 1 rfl) ?_
                        refine W.eq (g2 := F0 m 98 ls [.int j4819, .int j4032, .int p3, .ref (zq_r X h0 0)]) rfl ?_
                        refine lv_iload hx hb dX2_findSend_98 (lv_at hl 0 rfl) ?_
                        refine lv_iconst (v := 1) hx hb dX2_findSend_100 (by decide +kernel) ?_
                        have J109 : ∀ (ls : Array Slot) (j5065 : Int32), (0 ≤ j5065.toInt ∧ j5065.toInt ≤ 1) → (lv_has ls 8 [(7, .int j4978), (6, .int j4819), (5, .int j4032), (4, .int x114), (0, .ref h0), (1, .ref p1), (2, va_rf p2), (3, .int p3)]) → W p l e R s m args below meth c H locs 0 0 Q (F0 m 109 ls [.int j5065, .int j4819, .int j4032, .int p3, .ref (zq_r X h0 0)]) := by
                          intro ls j5065 gj5065 hl
                          refine zq_callv (zq_rV (As := [.int p3, .int j4032, .int j4819, .int j5065]) (rest := []) E hZ hM k5064 (c_X10_setSail l X zk (zn) I5059 L (zq_r X h0 0) k5064 p3 j4032 j4819 j5065 ⟨by omega, by omega⟩ ⟨by omega, by omega⟩) zmX2_69 zM_X10_setSail (hro (2) 5 (by first | decide | omega) (by decide)) ⟨by decide, by decide⟩ rfl hl.1 rfl rfl (Nat.le_of_ble_eq_true rfl) dX2_findSend_109) hS (fun I5085 H locs h5083 hM hS => ?_)
                          have fr5086 := h5083
                          have hR := zq_fr.call hR fr5086 (zf_sub (by decide +kernel) (fun b _ q => (q.trans ((L.2.2.2.2.1 _ k_h0)))))
                          have hW5087 := zW.frL hW5062 L k_p1 fr5086 rfl rfl
                          have hW5088 := zW.frL hW5063 L k5056 fr5086 rfl rfl
                          refine lv_aload_n hx hb dX2_findSend_112 rfl (lv_at hl 4 rfl) ?_
                          refine lv_aload_n hx hb dX2_findSend_113 rfl (lv_at hl 4 rfl) ?_
                          refine zq_oload_n hx hb dX2_findSend_114 rfl (lv_at hl 6 rfl) ?_
                          refine zq_calli (zq_rV (As := [va_rf p2]) (rest := [.ref h0]) E hZ hM k_h0 (c_X2_moneyThen l X zk (zn) I5085 L (b) h0 k_h0 p2 hqp2 (hW5088) (by omega)) zmX2_73 zM_X2_moneyThen (hro (5) 3 (by first | decide | omega) (by decide)) ⟨by decide, by decide⟩ rfl hl.1 rfl rfl (Nat.le_of_ble_eq_true rfl) dX2_findSend_115) hS (fun x5090 I5091 H locs h5089 hM hS => ?_)
                          have fr5092 := h5089
                          have hR := zq_fr.call hR fr5092 (zf_sub (by decide +kernel) (fun b _ q => q))
                          have hW5093 := zW.frP hW5087 L k_p1 fr5092 (fun q hq hp => by have h1 := hq.trans (q_1); omega)
                          refine lv_iload hx hb dX2_findSend_118 (lv_at hl 2 rfl) ?_
                          refine lv_iload hx hb dX2_findSend_120 (lv_at hl 1 rfl) ?_
                          refine lv_iload hx hb dX2_findSend_122 (lv_at hl 0 rfl) ?_
                          refine zq_callv (zq_rV (As := [.int x5090, .int j4032, .int j4819, .int j4978]) (rest := []) E hZ hM k_h0 (c_X2_keepBetter l X zk (zn) I5091 L h0 k_h0 x5090 j4032 j4819 j4978) zmX2_77 zM_X2_keepBetter (hro (1) 5 (by first | decide | omega) (by decide)) ⟨by decide, by decide⟩ rfl hl.1 rfl rfl (Nat.le_of_ble_eq_true rfl) dX2_findSend_124) hS (fun I5097 H locs h5095 hM hS => ?_)
                          have fr5098 := h5095
                          have hR := zq_fr.call hR fr5098 (zf_sub (by decide +kernel) (fun _ _ q => q.elim))
                          have hW5099 := zW.frL hW5093 L k_p1 fr5098 rfl rfl
                          exact J127 I5097 H locs ls hM hS hR hW5099 (lv_sub hl [0, 1, 2, 3, 4, 5, 6, 7] rfl)
                        refine lv_icmp_ne (tgt := 108) hx hb dX2_findSend_101 (by decide) (fun b5100 => ?_) (fun b5100 => ?_)
                        · have b5100 := zi_ne b5100 (rfl : j4978.toInt = j4978.toInt) (zl_1 : (1 : Int32).toInt = 1)
                          refine lv_iconst (v := 0) hx hb dX2_findSend_108 (by decide +kernel) ?_
                          exact J109 ls (0 : Int32) (by rw [zl_0]; decide) (lv_sub hl [0, 1, 2, 3, 4, 5, 6, 7] rfl)
                        · have b5100 := zi_eq b5100 (rfl : j4978.toInt = j4978.toInt) (zl_1 : (1 : Int32).toInt = 1)
                          refine lv_iconst (v := 1) hx hb dX2_findSend_104 (by decide +kernel) ?_
                          refine lv_goto (tgt := 109) hx hb dX2_findSend_105 (by decide) ?_
                          exact J109 ls (1 : Int32) (by rw [zl_1]; decide) (lv_sub hl [0, 1, 2, 3, 4, 5, 6, 7] rfl)
                    refine lv_icmp_ne (tgt := 74) hx hb dX2_findSend_67 (by decide) (fun b5101 => ?_) (fun b5101 => ?_)
                    · have b5101 := zi_ne b5101 (rfl : j4978.toInt = j4978.toInt) (zl_1 : (1 : Int32).toInt = 1)
                      refine lv_iconst (v := 0) hx hb dX2_findSend_74 (by decide +kernel) ?_
                      exact J75 ls (0 : Int32) (by rw [zl_0]; decide) (lv_sub hl [0, 1, 2, 3, 4, 5, 6, 7] rfl)
                    · have b5101 := zi_eq b5101 (rfl : j4978.toInt = j4978.toInt) (zl_1 : (1 : Int32).toInt = 1)
                      refine lv_iconst (v := 1) hx hb dX2_findSend_70 (by decide +kernel) ?_
                      refine lv_goto (tgt := 75) hx hb dX2_findSend_71 (by decide) ?_
                      exact J75 ls (1 : Int32) (by rw [zl_1]; decide) (lv_sub hl [0, 1, 2, 3, 4, 5, 6, 7] rfl)
              exact J52 (2 + 1 - (0 : Int32).toInt).toNat I4820 H locs ls (0 : Int32) (by omega) hM hS hR (by rw [zl_0]; decide) F4821 (lv_sub hl [0, 1, 2, 3, 4, 5, 6, 7] rfl)
        exact J42 (100 + 1 - (1 : Int32).toInt).toNat I4033 H locs ls (1 : Int32) (by omega) hM hS hR (by rw [zl_1]; decide) F4034 (lv_sub hl [0, 1, 2, 3, 4, 5, 6] rfl)
  exact J30 (4 + 1 - (0 : Int32).toInt).toNat I110 H locs ls (0 : Int32) (by omega) hM hS hR (by rw [zl_0]; decide) hW112 (lv_sub hl [0, 1, 2, 3, 4, 5] rfl)
def zw_X2_findFleet : List (Nat × Nat) := [(5, 0), (5, 1), (5, 2), (5, 3), (5, 4), (5, 5), (7, 0), (7, 1), (7, 2), (7, 3), (7, 4), (7, 5), (7, 6), (8, 0), (8, 1), (8, 2), (8, 3), (8, 4), (8, 5), (8, 6), (30, 999), (34, 999), (35, 999)]
set_option maxHeartbeats 8000000 in
set_option maxRecDepth 100000 in
theorem c_X2_findFleet (l : Launch) (X : zq_X) (zk zn : Nat) (I : zq_M) (L : zq_L X) (b : Int) (h0 : Nat) (k_h0 : zq_k X h0 = 3) (p1 : Nat) (k_p1 : zq_k X p1 = 8) (p2 : Option Nat) (hqp2 : p2 = none ∨ ∃ q, p2 = some q ∧ zq_k X q = 4) (q_0 : zW X I b p1) (q_1 : zq_o X p1 = 100) (q_2 : 0 ≤ b ∧ b ≤ 800000) : Met l yX2_findFleet (zt_w yX2_findFleet cX2_findFleet 6 none) (zq_rm (6)) (va_Pc [.ref h0, .ref p1, va_rf p2] (zq_W X (zk, zn) I)) (va_Qv (fun I2 => zq_fr (zf X zw_X2_findFleet (fun b => zq_o X b = 201)) I I2) (zq_E X (zk, zn)) (zq_A X)) 0 0 (zq_A X) := by
  refine Met.ofW (cc := cX2_findFleet) (maxL := 6) (ret := none) (by decide) rfl ?_
  intro p e s m args below meth c s₁ B hml hv
  obtain ⟨hargs, hM, hZ⟩ := hv
  have hown : s.vm.findClass RX2 = some m.cls := findClass_of_methodNamed B.named
  have hts := atoms_spec (ws := zt_w yX2_findFleet cX2_findFleet 6 none) B.pre
  have E : CallFix p m c cX2_findFleet 6 s args (Cond.code yX2_findFleet cX2_findFleet 6 none :: zt) RX2 := ⟨B.exec, B.bytes, hml, hown, hts⟩
  have hx := B.exec
  have hb := B.bytes
  have hr := B.returns
  have hlocks := B.notSynchronized
  clear B
  have hS : va_S (zq_A X) s.heap s.heap [] := va_S.rf
  have hR : zq_fr (zf X zw_X2_findFleet (fun b => zq_o X b = 201)) I I := zq_fr.rf
  have hl := lv_entry ([.ref h0, .ref p1, va_rf p2]) (n := 6) (by cases p2 <;> exact Nat.le_of_ble_eq_true rfl)
  have hg : entryFrame m args 6 = F0 m 0 ((lg_sl ([.ref h0, .ref p1, va_rf p2]) ++ List.replicate (6 - (lg_sl ([.ref h0, .ref p1, va_rf p2])).length) Slot.unset).toArray) [] := by rw [hargs]; exact lg_entry_eq m ([.ref h0, .ref p1, va_rf p2]) 6
  rw [hg]
  clear hg hargs
  generalize (lg_sl ([.ref h0, .ref p1, va_rf p2]) ++ List.replicate (6 - (lg_sl ([.ref h0, .ref p1, va_rf p2])).length) Slot.unset).toArray = ls at hl ⊢
  have hl : lv_has ls 6 [(0, .ref h0), (1, .ref p1), (2, va_rf p2)] := by cases p2 <;> exact hl
  obtain ⟨R, hRm⟩ : ∃ R : Room, R = (headSpec (zt_w yX2_findFleet cX2_findFleet 6 none) (zq_rm (6))).room := ⟨_, rfl⟩
  rw [← hRm]
  have hro : ∀ d q : Nat, d + 1 ≤ 6 → q ≤ 45 → zq_rok d q R := fun d q h1 h2 => by rw [hRm]; exact zq_rokI h1 h2
  generalize hQ : MQ below _ args s 0 0 (zq_A X) = Q
  obtain ⟨H, hH⟩ : ∃ H, H = s.heap := ⟨_, rfl⟩
  obtain ⟨locs, hlo⟩ : ∃ x : List Loc, x = [] := ⟨_, rfl⟩
  rw [show W p l e R s m args below meth c s.heap [] 0 0 Q = W p l e R s m args below meth c H locs 0 0 Q by rw [hH, hlo]]
  have hM : zq_hm X (zk, zn) I H := by rw [hH]; exact hM
  have hS : va_S (zq_A X) s.heap H locs := by rw [hH, hlo]; exact hS
  clear hH hlo
  refine lv_aload_n hx hb dX2_findFleet_0 rfl (lv_at hl 1 rfl) ?_
  refine zq_gn E hM k_p1 (zFX2_62 E hZ) (Or.inl ⟨by decide, by decide, by decide, rfl⟩) dX2_findFleet_1 (fun x101 ex101 gx101 => ?_)
  replace gx101 : 0 ≤ x101.toInt ∧ x101.toInt ≤ 4 := gx101
  refine lv_iconst (v := 1) hx hb dX2_findFleet_4 (by decide +kernel) ?_
  refine lv_iadd hx hb dX2_findFleet_5 ?_
  refine lv_topi (fun x102 ex102 => ?_)
  have tx102 := zi_add ex102 (rfl : x101.toInt = x101.toInt) (zl_1 : (1 : Int32).toInt = 1) ⟨by omega, by omega⟩
  refine lv_istore_n (lv' := [(3, .int x102), (0, .ref h0), (1, .ref p1), (2, va_rf p2)]) hx hb dX2_findFleet_6 rfl hl (by decide) (by cases p2 <;> rfl) (fun ls hl => ?_)
  refine lv_iload_n hx hb dX2_findFleet_7 rfl (lv_at hl 0 rfl) ?_
  refine lv_iload_n hx hb dX2_findFleet_8 rfl (lv_at hl 0 rfl) ?_
  refine lv_imul hx hb dX2_findFleet_9 ?_
  refine lv_topi (fun x103 ex103 => ?_)
  have tx103 := zi_mulb ex103 1 5 1 5 ⟨by omega, by omega⟩ ⟨by omega, by omega⟩ (by decide)
  have tx103 : 1 ≤ x103.toInt ∧ x103.toInt ≤ 25 := ⟨tx103.2.1, tx103.2.2⟩
  refine lv_iload_n hx hb dX2_findFleet_10 rfl (lv_at hl 0 rfl) ?_
  refine W.eq (g2 := F0 m 11 ls [.int x102, .int x103]) rfl ?_
  refine lv_imul hx hb dX2_findFleet_11 ?_
  refine lv_topi (fun x104 ex104 => ?_)
  have tx104 := zi_mulb ex104 1 25 1 5 ⟨by omega, by omega⟩ ⟨by omega, by omega⟩ (by decide)
  have tx104 : 1 ≤ x104.toInt ∧ x104.toInt ≤ 125 := ⟨tx104.2.1, tx104.2.2⟩
  refine lv_istore (lv' := [(4, .int x104), (3, .int x102), (0, .ref h0), (1, .ref p1), (2, va_rf p2)]) hx hb dX2_findFleet_12 hl (by decide) rfl (fun ls hl => ?_)
  refine lv_aload_n hx hb dX2_findFleet_14 rfl (lv_at hl 2 rfl) ?_
  refine lv_iconst (v := (-1)) hx hb dX2_findFleet_15 (by decide +kernel) ?_
  refine lv_iconst (v := (-1)) hx hb dX2_findFleet_16 (by decide +kernel) ?_
  refine lv_iconst (v := (-1)) hx hb dX2_findFleet_17 (by decide +kernel) ?_
  refine lv_iconst (v := (-1)) hx hb dX2_findFleet_18 (by decide +kernel) ?_
  refine zq_callv (zq_rV (As := [.int (-1 : Int32), .int (-1 : Int32), .int (-1 : Int32), .int (-1 : Int32)]) (rest := []) E hZ hM k_h0 (c_X2_setBest l X zk (zn) I L h0 k_h0 (-1 : Int32) (-1 : Int32) (-1 : Int32) (-1 : Int32)) zmX2_50 zM_X2_setBest (hro (0) 5 (by first | decide | omega) (by decide)) ⟨by decide, by decide⟩ rfl hl.1 rfl rfl (Nat.le_of_ble_eq_true rfl) dX2_findFleet_19) hS (fun I107 H locs h105 hM hS => ?_)
  have fr108 := h105
  have := zl_m1
  have hR := zq_fr.call hR fr108 (zf_sub (by decide +kernel) (fun _ _ q => q.elim))
  have hW109 := zW.frL q_0 L k_p1 fr108 rfl rfl
  refine lv_iconst (v := 0) hx hb dX2_findFleet_22 (by decide +kernel) ?_
  refine lv_istore (lv' := [(5, .int (0 : Int32)), (4, .int x104), (3, .int x102), (0, .ref h0), (1, .ref p1), (2, va_rf p2)]) hx hb dX2_findFleet_23 hl (by decide) rfl (fun ls hl => ?_)
  have J25 : ∀ (n301 : Nat) (I299 : zq_M) (H : Heap) (locs : List Loc) (ls : Array Slot) (j298 : Int32), 125 + 1 - j298.toInt ≤ ((n301 : Nat) : Int) → (zq_hm X (zk, zn) I299 H) → (va_S (zq_A X) s.heap H locs) → (zq_fr (zf X zw_X2_findFleet (fun b => zq_o X b = 201)) I I299) → (0 ≤ j298.toInt ∧ j298.toInt ≤ 125) → (zW X I299 (b) p1) → (lv_has ls 6 [(5, .int j298), (4, .int x104), (3, .int x102), (0, .ref h0), (1, .ref p1), (2, va_rf p2)]) → W p l e R s m args below meth c H locs 0 0 Q (F0 m 25 ls []) := by
    intro n301
    induction n301 with
    | zero => intro I299 H locs ls j298 mu302 hM hS hR gj298 F300 hl; exfalso; have := zi_rng j298; omega
    | succ n301 ih25 =>
      intro I299 H locs ls j298 mu302 hM hS hR gj298 F300 hl
      refine lv_iload hx hb dX2_findFleet_25 (lv_at hl 0 rfl) ?_
      refine lv_iload hx hb dX2_findFleet_27 (lv_at hl 1 rfl) ?_
      refine lv_icmp_ge (tgt := 113) hx hb dX2_findFleet_29 (by decide) (fun b303 => ?_) (fun b303 => ?_)
      · have b303 := zi_le b303 (rfl : x104.toInt = x104.toInt) (rfl : j298.toInt = j298.toInt)
        subst hQ
        exact zq_vret E hr hZ hM hS hR hlocks dX2_findFleet_113
      · have b303 := zi_nle b303 (rfl : x104.toInt = x104.toInt) (rfl : j298.toInt = j298.toInt)
        refine lv_aload_n hx hb dX2_findFleet_32 rfl (lv_at hl 3 rfl) ?_
        refine zq_getr E hM k_h0 (zFX2_22 E hZ) ⟨by decide, by decide, by decide, rfl⟩ dX2_findFleet_33 ?_
        have k304 : zq_k X (zq_r X h0 2) = 35 := zq_lk L.1 k_h0 rfl (by decide)
        refine lv_iconst (v := 0) hx hb dX2_findFleet_36 (by decide +kernel) ?_
        refine lv_iload hx hb dX2_findFleet_37 (lv_at hl 0 rfl) ?_
        refine lv_iload_n hx hb dX2_findFleet_39 rfl (lv_at hl 2 rfl) ?_
        refine lv_idiv hx hb dX2_findFleet_40 (fun q => by have := zi_eq q rfl zl_0; omega) ?_
        refine lv_topi (fun x305 ex305 => ?_)
        have tx305 := zi_divn ex305 (rfl : j298.toInt = j298.toInt) (rfl : x102.toInt = x102.toInt) (by omega) (by omega)
        have tx305 := zi_divb tx305 (by omega) (by omega)
        refine lv_iload_n hx hb dX2_findFleet_41 rfl (lv_at hl 2 rfl) ?_
        refine lv_idiv hx hb dX2_findFleet_42 (fun q => by have := zi_eq q rfl zl_0; omega) ?_
        refine lv_topi (fun x306 ex306 => ?_)
        have tx306 := zi_divn ex306 (rfl : x305.toInt = x305.toInt) (rfl : x102.toInt = x102.toInt) (by omega) (by omega)
        have tx306 := zi_divb tx306 (by omega) (by omega)
        refine lv_iconst (v := 1) hx hb dX2_findFleet_43 (by decide +kernel) ?_
        refine W.eq (g2 := F0 m 44 ls [.int (1 : Int32), .int x306, .int (0 : Int32), .ref (zq_r X h0 2)]) rfl ?_
        refine lv_isub hx hb dX2_findFleet_44 ?_
        refine lv_topi (fun x307 ex307 => ?_)
        have tx307 := zi_sub ex307 (rfl : x306.toInt = x306.toInt) (zl_1 : (1 : Int32).toInt = 1) ⟨by omega, by omega⟩
        refine zq_isn (n := 3) (j := 0) E hZ hM hS k304 ⟨by decide, rfl⟩ (by rw [zl_0]; decide) (by decide +kernel) (zq_any _) dX2_findFleet_45 (fun I308 H locs eI308 hM hS => ?_)
        have hR := zq_fr.putE hR eI308 (zf_ia k304 (by decide) rfl)
        have hW309 := zW.put F300 L k_p1 eI308 k304 (Or.inl ⟨by decide, by decide⟩)
        refine lv_aload_n hx hb dX2_findFleet_46 rfl (lv_at hl 3 rfl) ?_
        refine zq_getr E hM k_h0 (zFX2_22 E hZ) ⟨by decide, by decide, by decide, rfl⟩ dX2_findFleet_47 ?_
        have k310 : zq_k X (zq_r X h0 2) = 35 := zq_lk L.1 k_h0 rfl (by decide)
        refine lv_iconst (v := 1) hx hb dX2_findFleet_50 (by decide +kernel) ?_
        refine lv_iload hx hb dX2_findFleet_51 (lv_at hl 0 rfl) ?_
        refine lv_iload_n hx hb dX2_findFleet_53 rfl (lv_at hl 2 rfl) ?_
        refine lv_idiv hx hb dX2_findFleet_54 (fun q => by have := zi_eq q rfl zl_0; omega) ?_
        refine lv_topi (fun x311 ex311 => ?_)
        have tx311 := zi_divn ex311 (rfl : j298.toInt = j298.toInt) (rfl : x102.toInt = x102.toInt) (by omega) (by omega)
        have tx311 := zi_divb tx311 (by omega) (by omega)
        refine lv_iload_n hx hb dX2_findFleet_55 rfl (lv_at hl 2 rfl) ?_
        refine lv_irem hx hb dX2_findFleet_56 (fun q => by have := zi_eq q rfl zl_0; omega) ?_
        refine lv_topi (fun x312 ex312 => ?_)
        have tx312 := zi_rem ex312 (rfl : x311.toInt = x311.toInt) (rfl : x102.toInt = x102.toInt) (by omega) (by omega)
        have tx312 := zi_remb tx312 (by omega)
        refine W.eq (g2 := F0 m 57 ls [.int x312, .int (1 : Int32), .ref (zq_r X h0 2)]) rfl ?_
        refine lv_iconst (v := 1) hx hb dX2_findFleet_57 (by decide +kernel) ?_
        refine lv_isub hx hb dX2_findFleet_58 ?_
        refine lv_topi (fun x313 ex313 => ?_)
        have tx313 := zi_sub ex313 (rfl : x312.toInt = x312.toInt) (zl_1 : (1 : Int32).toInt = 1) ⟨by omega, by omega⟩
        refine zq_isn (n := 3) (j := 1) E hZ hM hS k310 ⟨by decide, rfl⟩ (by rw [zl_1]; decide) (by decide +kernel) (zq_any _) dX2_findFleet_59 (fun I314 H locs eI314 hM hS => ?_)
        have hR := zq_fr.putE hR eI314 (zf_ia k310 (by decide) rfl)
        have hW315 := zW.put hW309 L k_p1 eI314 k310 (Or.inl ⟨by decide, by decide⟩)
        refine lv_aload_n hx hb dX2_findFleet_60 rfl (lv_at hl 3 rfl) ?_
        refine zq_getr E hM k_h0 (zFX2_22 E hZ) ⟨by decide, by decide, by decide, rfl⟩ dX2_findFleet_61 ?_
        have k316 : zq_k X (zq_r X h0 2) = 35 := zq_lk L.1 k_h0 rfl (by decide)
        refine lv_iconst (v := 2) hx hb dX2_findFleet_64 (by decide +kernel) ?_
        refine lv_iload hx hb dX2_findFleet_65 (lv_at hl 0 rfl) ?_
        refine lv_iload_n hx hb dX2_findFleet_67 rfl (lv_at hl 2 rfl) ?_
        refine lv_irem hx hb dX2_findFleet_68 (fun q => by have := zi_eq q rfl zl_0; omega) ?_
        refine lv_topi (fun x317 ex317 => ?_)
        have tx317 := zi_rem ex317 (rfl : j298.toInt = j298.toInt) (rfl : x102.toInt = x102.toInt) (by omega) (by omega)
        have tx317 := zi_remb tx317 (by omega)
        refine lv_iconst (v := 1) hx hb dX2_findFleet_69 (by decide +kernel) ?_
        refine W.eq (g2 := F0 m 70 ls [.int (1 : Int32), .int x317, .int (2 : Int32), .ref (zq_r X h0 2)]) rfl ?_
        refine lv_isub hx hb dX2_findFleet_70 ?_
        refine lv_topi (fun x318 ex318 => ?_)
        have tx318 := zi_sub ex318 (rfl : x317.toInt = x317.toInt) (zl_1 : (1 : Int32).toInt = 1) ⟨by omega, by omega⟩
        refine zq_isn (n := 3) (j := 2) E hZ hM hS k316 ⟨by decide, rfl⟩ (by rw [zl_2]; decide) (by decide +kernel) (zq_any _) dX2_findFleet_71 (fun I319 H locs eI319 hM hS => ?_)
        have hR := zq_fr.putE hR eI319 (zf_ia k316 (by decide) rfl)
        have hW320 := zW.put hW315 L k_p1 eI319 k316 (Or.inl ⟨by decide, by decide⟩)
        refine lv_aload_n hx hb dX2_findFleet_72 rfl (lv_at hl 3 rfl) ?_
        refine lv_aload_n hx hb dX2_findFleet_73 rfl (lv_at hl 4 rfl) ?_
        refine zq_calli (zq_rV (As := [.ref p1]) (rest := []) E hZ hM k_h0 (c_X2_sailsRow l X zk (zn) I319 L (b) h0 k_h0 p1 k_p1 (hW320) (q_1) (by omega)) zmX2_80 zM_X2_sailsRow (hro (3) 4 (by first | decide | omega) (by decide)) ⟨by decide, by decide⟩ rfl hl.1 rfl rfl (Nat.le_of_ble_eq_true rfl) dX2_findFleet_74) hS (fun x322 I323 H locs h321 hM hS => ?_)
        obtain ⟨fr324, p325, p326⟩ := h321
        have hR := zq_fr.call hR fr324 (zf_sub (by decide +kernel) (fun b _ q => q))
        have hW327 := zW.frP hW320 L k_p1 fr324 (fun q hq hp => by have h1 := hq.trans (q_1); omega)
        have J107 : ∀ (I345 : zq_M) (H : Heap) (locs : List Loc) (ls : Array Slot), (zq_hm X (zk, zn) I345 H) → (va_S (zq_A X) s.heap H locs) → (zq_fr (zf X zw_X2_findFleet (fun b => zq_o X b = 201)) I I345) → (zW X I345 (b) p1) → (lv_has ls 6 [(5, .int j298), (4, .int x104), (3, .int x102), (0, .ref h0), (1, .ref p1), (2, va_rf p2)]) → W p l e R s m args below meth c H locs 0 0 Q (F0 m 107 ls []) := by
          intro I345 H locs ls hM hS hR F346 hl
          obtain ⟨x348, ex348⟩ : ∃ y : Int32, y = j298 + 1 := ⟨_, rfl⟩
          have tx348 := zi_add ex348 (rfl : j298.toInt = j298.toInt) zl_1 ⟨by omega, by omega⟩
          refine lv_iinc (v := x348) (lv' := [(5, .int x348), (4, .int x104), (3, .int x102), (0, .ref h0), (1, .ref p1), (2, va_rf p2)]) hx hb dX2_findFleet_107 hl (k := 0) rfl (by rw [ex348]; rfl) (by decide) rfl (fun ls hl => ?_)
          refine lv_goto (tgt := 25) hx hb dX2_findFleet_110 (by decide) ?_
          exact ih25 I345 H locs ls x348 (by omega) hM hS hR (⟨by omega, by omega⟩) F346 (lv_sub hl [0, 1, 2, 3, 4, 5] rfl)
        refine lv_if_eq (tgt := 107) hx hb dX2_findFleet_77 (by decide) (fun b349 => ?_) (fun b349 => ?_)
        · have b349 := zi_eq b349 (rfl : x322.toInt = x322.toInt) (zl_0 : (0 : Int32).toInt = 0)
          exact J107 I323 H locs ls hM hS hR hW327 (lv_sub hl [0, 1, 2, 3, 4, 5] rfl)
        · have b349 := zi_ne b349 (rfl : x322.toInt = x322.toInt) (zl_0 : (0 : Int32).toInt = 0)
          refine lv_aload_n hx hb dX2_findFleet_80 rfl (lv_at hl 3 rfl) ?_
          refine lv_aload_n hx hb dX2_findFleet_81 rfl (lv_at hl 3 rfl) ?_
          refine zq_oload_n hx hb dX2_findFleet_82 rfl (lv_at hl 5 rfl) ?_
          refine zq_calli (zq_rV (As := [va_rf p2]) (rest := [.ref h0]) E hZ hM k_h0 (c_X2_moneyThen l X zk (zn) I323 L ((b)) h0 k_h0 p2 hqp2 (p325) (by omega)) zmX2_73 zM_X2_moneyThen (hro (5) 3 (by first | decide | omega) (by decide)) ⟨by decide, by decide⟩ rfl hl.1 rfl rfl (Nat.le_of_ble_eq_true rfl) dX2_findFleet_83) hS (fun x351 I352 H locs h350 hM hS => ?_)
          have fr353 := h350
          have hR := zq_fr.call hR fr353 (zf_sub (by decide +kernel) (fun b _ q => q))
          have hW354 := zW.frP hW327 L k_p1 fr353 (fun q hq hp => by have h1 := hq.trans (q_1); omega)
          refine lv_aload_n hx hb dX2_findFleet_86 rfl (lv_at hl 3 rfl) ?_
          refine zq_getr E hM k_h0 (zFX2_22 E hZ) ⟨by decide, by decide, by decide, rfl⟩ dX2_findFleet_87 ?_
          have k356 : zq_k X (zq_r X h0 2) = 35 := zq_lk L.1 k_h0 rfl (by decide)
          refine lv_iconst (v := 0) hx hb dX2_findFleet_90 (by decide +kernel) ?_
          refine zq_iald (n := 3) (j := 0) (v := x307) E hZ hM k356 ⟨by decide, rfl⟩ (by rw [zl_0]; decide) (by decide +kernel) (zq_fr.kp fr353 (zf_n k356 rfl) (zq_fr.kp fr324 (zf_n k356 rfl) (zq_kp eI319 (Or.inr (by decide)) (zq_kp eI314 (Or.inr (by decide)) (zq_kv eI308))))) dX2_findFleet_91 ?_
          refine lv_aload_n hx hb dX2_findFleet_92 rfl (lv_at hl 3 rfl) ?_
          refine W.eq (g2 := F0 m 93 ls [.ref h0, .int x307, .int x351, .ref h0]) rfl ?_
          refine zq_getr E hM k_h0 (zFX2_22 E hZ) ⟨by decide, by decide, by decide, rfl⟩ dX2_findFleet_93 ?_
          have k358 : zq_k X (zq_r X h0 2) = 35 := zq_lk L.1 k_h0 rfl (by decide)
          refine lv_iconst (v := 1) hx hb dX2_findFleet_96 (by decide +kernel) ?_
          refine zq_iald (n := 3) (j := 1) (v := x313) E hZ hM k358 ⟨by decide, rfl⟩ (by rw [zl_1]; decide) (by decide +kernel) (zq_fr.kp fr353 (zf_n k358 rfl) (zq_fr.kp fr324 (zf_n k358 rfl) (zq_kp eI319 (Or.inr (by decide)) (zq_kv eI314)))) dX2_findFleet_97 ?_
          refine lv_aload_n hx hb dX2_findFleet_98 rfl (lv_at hl 3 rfl) ?_
          refine zq_getr E hM k_h0 (zFX2_22 E hZ) ⟨by decide, by decide, by decide, rfl⟩ dX2_findFleet_99 ?_
          have k360 : zq_k X (zq_r X h0 2) = 35 := zq_lk L.1 k_h0 rfl (by decide)
          refine lv_iconst (v := 2) hx hb dX2_findFleet_102 (by decide +kernel) ?_
          refine zq_iald (n := 3) (j := 2) (v := x318) E hZ hM k360 ⟨by decide, rfl⟩ (by rw [zl_2]; decide) (by decide +kernel) (zq_fr.kp fr353 (zf_n k360 rfl) (zq_fr.kp fr324 (zf_n k360 rfl) (zq_kv eI319))) dX2_findFleet_103 ?_
          refine zq_callv (zq_rV (As := [.int x351, .int x307, .int x313, .int x318]) (rest := []) E hZ hM k_h0 (c_X2_keepBetter l X zk (zn) I352 L h0 k_h0 x351 x307 x313 x318) zmX2_77 zM_X2_keepBetter (hro (1) 5 (by first | decide | omega) (by decide)) ⟨by decide, by decide⟩ rfl hl.1 rfl rfl (Nat.le_of_ble_eq_true rfl) dX2_findFleet_104) hS (fun I364 H locs h362 hM hS => ?_)
          have fr365 := h362
          have hR := zq_fr.call hR fr365 (zf_sub (by decide +kernel) (fun _ _ q => q.elim))
          have hW366 := zW.frL hW354 L k_p1 fr365 rfl rfl
          exact J107 I364 H locs ls hM hS hR hW366 (lv_sub hl [0, 1, 2, 3, 4, 5] rfl)
  exact J25 (125 + 1 - (0 : Int32).toInt).toNat I107 H locs ls (0 : Int32) (by omega) hM hS hR (by rw [zl_0]; decide) hW109 (lv_sub hl [0, 1, 2, 3, 4, 5] rfl)
def zw_X2_findSite : List (Nat × Nat) := [(5, 0), (5, 1), (5, 2), (5, 3), (5, 4), (5, 5), (7, 0), (7, 1), (7, 2), (7, 3), (7, 4), (7, 5), (7, 6), (8, 0), (8, 1), (8, 2), (8, 3), (8, 4), (8, 5), (8, 6), (30, 999), (34, 999)]
set_option maxHeartbeats 8000000 in
set_option maxRecDepth 100000 in
theorem c_X2_findSite (l : Launch) (X : zq_X) (zk zn : Nat) (I : zq_M) (L : zq_L X) (b : Int) (h0 : Nat) (k_h0 : zq_k X h0 = 3) (p1 : Nat) (k_p1 : zq_k X p1 = 8) (p2 : Option Nat) (hqp2 : p2 = none ∨ ∃ q, p2 = some q ∧ zq_k X q = 4) (q_0 : zW X I b p1) (q_1 : zq_o X p1 = 100) (q_2 : 0 ≤ b ∧ b ≤ 800000) : Met l yX2_findSite (zt_w yX2_findSite cX2_findSite 4 none) (zq_rm (6)) (va_Pc [.ref h0, .ref p1, va_rf p2] (zq_W X (zk, zn) I)) (va_Qv (fun I2 => zq_fr (zf X zw_X2_findSite (fun b => zq_o X b = 201)) I I2) (zq_E X (zk, zn)) (zq_A X)) 0 0 (zq_A X) := by
  refine Met.ofW (cc := cX2_findSite) (maxL := 4) (ret := none) (by decide) rfl ?_
  intro p e s m args below meth c s₁ B hml hv
  obtain ⟨hargs, hM, hZ⟩ := hv
  have hown : s.vm.findClass RX2 = some m.cls := findClass_of_methodNamed B.named
  have hts := atoms_spec (ws := zt_w yX2_findSite cX2_findSite 4 none) B.pre
  have E : CallFix p m c cX2_findSite 4 s args (Cond.code yX2_findSite cX2_findSite 4 none :: zt) RX2 := ⟨B.exec, B.bytes, hml, hown, hts⟩
  have hx := B.exec
  have hb := B.bytes
  have hr := B.returns
  have hlocks := B.notSynchronized
  clear B
  have hS : va_S (zq_A X) s.heap s.heap [] := va_S.rf
  have hR : zq_fr (zf X zw_X2_findSite (fun b => zq_o X b = 201)) I I := zq_fr.rf
  have hl := lv_entry ([.ref h0, .ref p1, va_rf p2]) (n := 4) (by cases p2 <;> exact Nat.le_of_ble_eq_true rfl)
  have hg : entryFrame m args 4 = F0 m 0 ((lg_sl ([.ref h0, .ref p1, va_rf p2]) ++ List.replicate (4 - (lg_sl ([.ref h0, .ref p1, va_rf p2])).length) Slot.unset).toArray) [] := by rw [hargs]; exact lg_entry_eq m ([.ref h0, .ref p1, va_rf p2]) 4
  rw [hg]
  clear hg hargs
  generalize (lg_sl ([.ref h0, .ref p1, va_rf p2]) ++ List.replicate (4 - (lg_sl ([.ref h0, .ref p1, va_rf p2])).length) Slot.unset).toArray = ls at hl ⊢
  have hl : lv_has ls 4 [(0, .ref h0), (1, .ref p1), (2, va_rf p2)] := by cases p2 <;> exact hl
  obtain ⟨R, hRm⟩ : ∃ R : Room, R = (headSpec (zt_w yX2_findSite cX2_findSite 4 none) (zq_rm (6))).room := ⟨_, rfl⟩
  rw [← hRm]
  have hro : ∀ d q : Nat, d + 1 ≤ 6 → q ≤ 45 → zq_rok d q R := fun d q h1 h2 => by rw [hRm]; exact zq_rokI h1 h2
  generalize hQ : MQ below _ args s 0 0 (zq_A X) = Q
  obtain ⟨H, hH⟩ : ∃ H, H = s.heap := ⟨_, rfl⟩
  obtain ⟨locs, hlo⟩ : ∃ x : List Loc, x = [] := ⟨_, rfl⟩
  rw [show W p l e R s m args below meth c s.heap [] 0 0 Q = W p l e R s m args below meth c H locs 0 0 Q by rw [hH, hlo]]
  have hM : zq_hm X (zk, zn) I H := by rw [hH]; exact hM
  have hS : va_S (zq_A X) s.heap H locs := by rw [hH, hlo]; exact hS
  clear hH hlo
  refine lv_aload_n hx hb dX2_findSite_0 rfl (lv_at hl 0 rfl) ?_
  refine lv_aload_n hx hb dX2_findSite_1 rfl (lv_at hl 0 rfl) ?_
  refine lv_aload_n hx hb dX2_findSite_2 rfl (lv_at hl 1 rfl) ?_
  refine zq_oload_n hx hb dX2_findSite_3 rfl (lv_at hl 2 rfl) ?_
  refine lv_aload_n hx hb dX2_findSite_4 rfl (lv_at hl 0 rfl) ?_
  refine zq_gn E hM k_h0 (zFX2_36 E hZ) (Or.inl ⟨by decide, by decide, by decide, rfl⟩) dX2_findSite_5 (fun x101 ex101 gx101 => ?_)
  replace gx101 : 0 ≤ x101.toInt ∧ x101.toInt ≤ 24 := gx101
  refine zq_callr (zq_rV (As := [.ref p1, va_rf p2, .int x101]) (rest := [.ref h0]) E hZ hM k_h0 (c_X2_worldAfter l X zk (zn) I L (b) h0 k_h0 p1 k_p1 p2 hqp2 x101 ⟨by omega, by omega⟩ (q_0) (q_1) (by omega)) zmX2_54 zM_X2_worldAfter (hro (5) 5 (by first | decide | omega) (by decide)) ⟨by decide, by decide⟩ rfl hl.1 rfl rfl (Nat.le_of_ble_eq_true rfl) dX2_findSite_8) hS (fun y103 I104 H locs h102 ky103 hM hS => ?_)
  have fr105 := h102
  have hR := zq_fr.call hR fr105 (zf_sub (by decide +kernel) (fun b _ q => q))
  have hW106 := zW.frP q_0 L k_p1 fr105 (fun q hq hp => by have h1 := hq.trans (q_1); omega)
  refine zq_gn E hM ky103 (zFX2_47 E hZ) (Or.inl ⟨by decide, by decide, by decide, rfl⟩) dX2_findSite_11 (fun x107 ex107 gx107 => ?_)
  clear gx107
  refine lv_iconst (v := (-1)) hx hb dX2_findSite_14 (by decide +kernel) ?_
  refine W.eq (g2 := F0 m 15 ls [.int (-1 : Int32), .int x107, .ref h0]) rfl ?_
  refine lv_iconst (v := 0) hx hb dX2_findSite_15 (by decide +kernel) ?_
  refine lv_iconst (v := 0) hx hb dX2_findSite_16 (by decide +kernel) ?_
  refine zq_callv (zq_rV (As := [.int x107, .int (-1 : Int32), .int (0 : Int32), .int (0 : Int32)]) (rest := []) E hZ hM k_h0 (c_X2_setBest l X zk (zn) I104 L h0 k_h0 x107 (-1 : Int32) (0 : Int32) (0 : Int32)) zmX2_50 zM_X2_setBest (hro (0) 5 (by first | decide | omega) (by decide)) ⟨by decide, by decide⟩ rfl hl.1 rfl rfl (Nat.le_of_ble_eq_true rfl) dX2_findSite_17) hS (fun I110 H locs h108 hM hS => ?_)
  have fr111 := h108
  have := zl_m1
  have := zl_0
  have hR := zq_fr.call hR fr111 (zf_sub (by decide +kernel) (fun _ _ q => q.elim))
  have hW112 := zW.frL hW106 L k_p1 fr111 rfl rfl
  refine lv_iconst (v := 0) hx hb dX2_findSite_20 (by decide +kernel) ?_
  refine lv_istore_n (lv' := [(3, .int (0 : Int32)), (0, .ref h0), (1, .ref p1), (2, va_rf p2)]) hx hb dX2_findSite_21 rfl hl (by decide) (by cases p2 <;> rfl) (fun ls hl => ?_)
  have J22 : ∀ (n264 : Nat) (I262 : zq_M) (H : Heap) (locs : List Loc) (ls : Array Slot) (j261 : Int32), 4 + 1 - j261.toInt ≤ ((n264 : Nat) : Int) → (zq_hm X (zk, zn) I262 H) → (va_S (zq_A X) s.heap H locs) → (zq_fr (zf X zw_X2_findSite (fun b => zq_o X b = 201)) I I262) → (0 ≤ j261.toInt ∧ j261.toInt ≤ 4) → (zW X I262 (b) p1) → (lv_has ls 4 [(3, .int j261), (0, .ref h0), (1, .ref p1), (2, va_rf p2)]) → W p l e R s m args below meth c H locs 0 0 Q (F0 m 22 ls []) := by
    intro n264
    induction n264 with
    | zero => intro I262 H locs ls j261 mu265 hM hS hR gj261 F263 hl; exfalso; have := zi_rng j261; omega
    | succ n264 ih22 =>
      intro I262 H locs ls j261 mu265 hM hS hR gj261 F263 hl
      refine lv_iload_n hx hb dX2_findSite_22 rfl (lv_at hl 0 rfl) ?_
      refine lv_aload_n hx hb dX2_findSite_23 rfl (lv_at hl 2 rfl) ?_
      refine zq_gn E hM k_p1 (zFX2_62 E hZ) (Or.inl ⟨by decide, by decide, by decide, rfl⟩) dX2_findSite_24 (fun x266 ex266 gx266 => ?_)
      replace gx266 : 0 ≤ x266.toInt ∧ x266.toInt ≤ 4 := gx266
      refine lv_icmp_ge (tgt := 72) hx hb dX2_findSite_27 (by decide) (fun b267 => ?_) (fun b267 => ?_)
      · have b267 := zi_le b267 (rfl : x266.toInt = x266.toInt) (rfl : j261.toInt = j261.toInt)
        subst hQ
        exact zq_vret E hr hZ hM hS hR hlocks dX2_findSite_72
      · have b267 := zi_nle b267 (rfl : x266.toInt = x266.toInt) (rfl : j261.toInt = j261.toInt)
        refine lv_aload_n hx hb dX2_findSite_30 rfl (lv_at hl 2 rfl) ?_
        refine lv_iload_n hx hb dX2_findSite_31 rfl (lv_at hl 0 rfl) ?_
        refine zq_pcalli (zq_rV (As := [.int j261]) (rest := []) E hZ hM k_p1 (c_X10_canBuild l X zk (zn) I262 L p1 k_p1 j261) zmX2_101 zM_X10_canBuild (hro (1) 2 (by first | decide | omega) (by decide)) ⟨by decide, by decide⟩ rfl hl.1 rfl rfl (Nat.le_of_ble_eq_true rfl) dX2_findSite_32) hS (fun x269 H locs h268 hM hS => ?_)
        obtain ⟨p270, p271⟩ := h268
        have J66 : ∀ (I298 : zq_M) (H : Heap) (locs : List Loc) (ls : Array Slot), (zq_hm X (zk, zn) I298 H) → (va_S (zq_A X) s.heap H locs) → (zq_fr (zf X zw_X2_findSite (fun b => zq_o X b = 201)) I I298) → (zW X I298 (b) p1) → (lv_has ls 4 [(3, .int j261), (0, .ref h0), (1, .ref p1), (2, va_rf p2)]) → W p l e R s m args below meth c H locs 0 0 Q (F0 m 66 ls []) := by
          intro I298 H locs ls hM hS hR F299 hl
          obtain ⟨x301, ex301⟩ : ∃ y : Int32, y = j261 + 1 := ⟨_, rfl⟩
          have tx301 := zi_add ex301 (rfl : j261.toInt = j261.toInt) zl_1 ⟨by omega, by omega⟩
          refine lv_iinc (v := x301) (lv' := [(3, .int x301), (0, .ref h0), (1, .ref p1), (2, va_rf p2)]) hx hb dX2_findSite_66 hl (k := 0) rfl (by rw [ex301]; rfl) (by decide) (by cases p2 <;> rfl) (fun ls hl => ?_)
          refine lv_goto (tgt := 22) hx hb dX2_findSite_69 (by decide) ?_
          exact ih22 I298 H locs ls x301 (by omega) hM hS hR (⟨by omega, by omega⟩) F299 (lv_sub hl [0, 1, 2, 3] rfl)
        refine lv_if_eq (tgt := 66) hx hb dX2_findSite_35 (by decide) (fun b302 => ?_) (fun b302 => ?_)
        · have b302 := zi_eq b302 (rfl : x269.toInt = x269.toInt) (zl_0 : (0 : Int32).toInt = 0)
          exact J66 I262 H locs ls hM hS hR F263 (lv_sub hl [0, 1, 2, 3] rfl)
        · have b302 := zi_ne b302 (rfl : x269.toInt = x269.toInt) (zl_0 : (0 : Int32).toInt = 0)
          refine lv_aload_n hx hb dX2_findSite_38 rfl (lv_at hl 1 rfl) ?_
          refine zq_getr E hM k_h0 (zFX2_12 E hZ) ⟨by decide, by decide, by decide, rfl⟩ dX2_findSite_39 ?_
          have k303 : zq_k X (zq_r X h0 0) = 8 := zq_lk L.1 k_h0 rfl (by decide)
          refine lv_aload_n hx hb dX2_findSite_42 rfl (lv_at hl 2 rfl) ?_
          refine zq_callv (zq_rV (As := [.ref p1]) (rest := []) E hZ hM k303 (c_X10_copyFrom l X zk (zn) I262 L (zq_r X h0 0) k303 p1 k_p1 (fun hq => by have h1 := (L.2.2.2.2.1 _ k_h0); have h2 := q_1; omega)) zmX2_39 zM_X10_copyFrom (hro (1) 3 (by first | decide | omega) (by decide)) ⟨by decide, by decide⟩ rfl hl.1 rfl rfl (Nat.le_of_ble_eq_true rfl) dX2_findSite_43) hS (fun I306 H locs h304 hM hS => ?_)
          obtain ⟨fr307, p308⟩ := h304
          have hR := zq_fr.call hR fr307 (zf_sub (by decide +kernel) (fun b _ q => (q.trans ((L.2.2.2.2.1 _ k_h0)))))
          have hW309 := zW.frP F263 L k_p1 fr307 (fun q hq hp => by have h1 := hq.trans (q_1); have h2 := hp.trans ((L.2.2.2.2.1 _ k_h0)); omega)
          have hW310 := zW.copy F263 p308
          refine lv_aload_n hx hb dX2_findSite_46 rfl (lv_at hl 1 rfl) ?_
          refine zq_getr E hM k_h0 (zFX2_12 E hZ) ⟨by decide, by decide, by decide, rfl⟩ dX2_findSite_47 ?_
          have k311 : zq_k X (zq_r X h0 0) = 8 := zq_lk L.1 k_h0 rfl (by decide)
          refine lv_iload_n hx hb dX2_findSite_50 rfl (lv_at hl 0 rfl) ?_
          refine zq_callv (zq_rV (As := [.int j261]) (rest := []) E hZ hM k311 (c_X10_putHouse l X zk (zn) I306 L (zq_r X h0 0) k311 j261) zmX2_104 zM_X10_putHouse (hro (1) 2 (by first | decide | omega) (by decide)) ⟨by decide, by decide⟩ rfl hl.1 rfl rfl (Nat.le_of_ble_eq_true rfl) dX2_findSite_51) hS (fun I314 H locs h312 hM hS => ?_)
          have fr315 := h312
          have hR := zq_fr.call hR fr315 (zf_sub (by decide +kernel) (fun b _ q => (q.trans ((L.2.2.2.2.1 _ k_h0)))))
          have hW316 := zW.frL hW309 L k_p1 fr315 rfl rfl
          have hW317 := zW.frL hW310 L k303 fr315 rfl rfl
          refine lv_aload_n hx hb dX2_findSite_54 rfl (lv_at hl 1 rfl) ?_
          refine W.eq (g2 := F0 m 55 ls [.ref h0]) rfl ?_
          refine lv_aload_n hx hb dX2_findSite_55 rfl (lv_at hl 1 rfl) ?_
          refine zq_oload_n hx hb dX2_findSite_56 rfl (lv_at hl 3 rfl) ?_
          refine zq_calli (zq_rV (As := [va_rf p2]) (rest := [.ref h0]) E hZ hM k_h0 (c_X2_moneyThen l X zk (zn) I314 L (b) h0 k_h0 p2 hqp2 (hW317) (by omega)) zmX2_73 zM_X2_moneyThen (hro (5) 3 (by first | decide | omega) (by decide)) ⟨by decide, by decide⟩ rfl hl.1 rfl rfl (Nat.le_of_ble_eq_true rfl) dX2_findSite_57) hS (fun x319 I320 H locs h318 hM hS => ?_)
          have fr321 := h318
          have hR := zq_fr.call hR fr321 (zf_sub (by decide +kernel) (fun b _ q => q))
          have hW322 := zW.frP hW316 L k_p1 fr321 (fun q hq hp => by have h1 := hq.trans (q_1); omega)
          refine lv_iload_n hx hb dX2_findSite_60 rfl (lv_at hl 0 rfl) ?_
          refine lv_iconst (v := 0) hx hb dX2_findSite_61 (by decide +kernel) ?_
          refine lv_iconst (v := 0) hx hb dX2_findSite_62 (by decide +kernel) ?_
          refine zq_callv (zq_rV (As := [.int x319, .int j261, .int (0 : Int32), .int (0 : Int32)]) (rest := []) E hZ hM k_h0 (c_X2_keepBetter l X zk (zn) I320 L h0 k_h0 x319 j261 (0 : Int32) (0 : Int32)) zmX2_77 zM_X2_keepBetter (hro (1) 5 (by first | decide | omega) (by decide)) ⟨by decide, by decide⟩ rfl hl.1 rfl rfl (Nat.le_of_ble_eq_true rfl) dX2_findSite_63) hS (fun I326 H locs h324 hM hS => ?_)
          have fr327 := h324
          have := zl_0
          have hR := zq_fr.call hR fr327 (zf_sub (by decide +kernel) (fun _ _ q => q.elim))
          have hW328 := zW.frL hW322 L k_p1 fr327 rfl rfl
          exact J66 I326 H locs ls hM hS hR hW328 (lv_sub hl [0, 1, 2, 3] rfl)
  exact J22 (4 + 1 - (0 : Int32).toInt).toNat I110 H locs ls (0 : Int32) (by omega) hM hS hR (by rw [zl_0]; decide) hW112 (lv_sub hl [0, 1, 2, 3] rfl)
def zw_X2_monthOut : List (Nat × Nat) := [(5, 0), (5, 1), (5, 2), (5, 3), (5, 4), (5, 5), (7, 0), (7, 1), (7, 2), (7, 3), (7, 4), (7, 5), (7, 6), (8, 0), (8, 1), (8, 2), (8, 3), (8, 4), (8, 5), (8, 6), (30, 999)]
set_option maxHeartbeats 8000000 in
set_option maxRecDepth 100000 in
theorem c_X2_monthOut (l : Launch) (X : zq_X) (zk zn : Nat) (I : zq_M) (L : zq_L X) (b : Int) (h0 : Nat) (k_h0 : zq_k X h0 = 3) (p1 : Nat) (k_p1 : zq_k X p1 = 8) (p2 : Option Nat) (hqp2 : p2 = none ∨ ∃ q, p2 = some q ∧ zq_k X q = 4) (q_0 : zW X I b p1) (q_1 : zq_o X p1 = 100) (q_2 : 0 ≤ b ∧ b ≤ 800000) : Met l yX2_monthOut (zt_w yX2_monthOut cX2_monthOut 4 (some .int)) (zq_rm (5)) (va_Pc [.ref h0, .ref p1, va_rf p2] (zq_W X (zk, zn) I)) (va_Qi (fun (r : Int32) I2 => zq_fr (zf X zw_X2_monthOut (fun b => zq_o X b = 201)) I I2) (zq_E X (zk, zn)) (zq_A X)) 0 0 (zq_A X) := by
  refine Met.ofW (cc := cX2_monthOut) (maxL := 4) (ret := (some .int)) (by decide) rfl ?_
  intro p e s m args below meth c s₁ B hml hv
  obtain ⟨hargs, hM, hZ⟩ := hv
  have hown : s.vm.findClass RX2 = some m.cls := findClass_of_methodNamed B.named
  have hts := atoms_spec (ws := zt_w yX2_monthOut cX2_monthOut 4 (some .int)) B.pre
  have E : CallFix p m c cX2_monthOut 4 s args (Cond.code yX2_monthOut cX2_monthOut 4 (some .int) :: zt) RX2 := ⟨B.exec, B.bytes, hml, hown, hts⟩
  have hx := B.exec
  have hb := B.bytes
  have hr := B.returns
  have hlocks := B.notSynchronized
  clear B
  have hS : va_S (zq_A X) s.heap s.heap [] := va_S.rf
  have hR : zq_fr (zf X zw_X2_monthOut (fun b => zq_o X b = 201)) I I := zq_fr.rf
  have hl := lv_entry ([.ref h0, .ref p1, va_rf p2]) (n := 4) (by cases p2 <;> exact Nat.le_of_ble_eq_true rfl)
  have hg : entryFrame m args 4 = F0 m 0 ((lg_sl ([.ref h0, .ref p1, va_rf p2]) ++ List.replicate (4 - (lg_sl ([.ref h0, .ref p1, va_rf p2])).length) Slot.unset).toArray) [] := by rw [hargs]; exact lg_entry_eq m ([.ref h0, .ref p1, va_rf p2]) 4
  rw [hg]
  clear hg hargs
  generalize (lg_sl ([.ref h0, .ref p1, va_rf p2]) ++ List.replicate (4 - (lg_sl ([.ref h0, .ref p1, va_rf p2])).length) Slot.unset).toArray = ls at hl ⊢
  have hl : lv_has ls 4 [(0, .ref h0), (1, .ref p1), (2, va_rf p2)] := by cases p2 <;> exact hl
  obtain ⟨R, hRm⟩ : ∃ R : Room, R = (headSpec (zt_w yX2_monthOut cX2_monthOut 4 (some .int)) (zq_rm (5))).room := ⟨_, rfl⟩
  rw [← hRm]
  have hro : ∀ d q : Nat, d + 1 ≤ 5 → q ≤ 45 → zq_rok d q R := fun d q h1 h2 => by rw [hRm]; exact zq_rokI h1 h2
  generalize hQ : MQ below _ args s 0 0 (zq_A X) = Q
  obtain ⟨H, hH⟩ : ∃ H, H = s.heap := ⟨_, rfl⟩
  obtain ⟨locs, hlo⟩ : ∃ x : List Loc, x = [] := ⟨_, rfl⟩
  rw [show W p l e R s m args below meth c s.heap [] 0 0 Q = W p l e R s m args below meth c H locs 0 0 Q by rw [hH, hlo]]
  have hM : zq_hm X (zk, zn) I H := by rw [hH]; exact hM
  have hS : va_S (zq_A X) s.heap H locs := by rw [hH, hlo]; exact hS
  clear hH hlo
  refine lv_aload_n hx hb dX2_monthOut_0 rfl (lv_at hl 0 rfl) ?_
  refine zq_getr E hM k_h0 (zFX2_12 E hZ) ⟨by decide, by decide, by decide, rfl⟩ dX2_monthOut_1 ?_
  have k101 : zq_k X (zq_r X h0 0) = 8 := zq_lk L.1 k_h0 rfl (by decide)
  refine lv_aload_n hx hb dX2_monthOut_4 rfl (lv_at hl 1 rfl) ?_
  refine zq_callv (zq_rV (As := [.ref p1]) (rest := []) E hZ hM k101 (c_X10_copyFrom l X zk (zn) I L (zq_r X h0 0) k101 p1 k_p1 (fun hq => by have h1 := (L.2.2.2.2.1 _ k_h0); have h2 := q_1; omega)) zmX2_39 zM_X10_copyFrom (hro (1) 3 (by first | decide | omega) (by decide)) ⟨by decide, by decide⟩ rfl hl.1 rfl rfl (Nat.le_of_ble_eq_true rfl) dX2_monthOut_5) hS (fun I104 H locs h102 hM hS => ?_)
  obtain ⟨fr105, p106⟩ := h102
  have hR := zq_fr.call hR fr105 (zf_sub (by decide +kernel) (fun b _ q => (q.trans ((L.2.2.2.2.1 _ k_h0)))))
  have hW107 := zW.frP q_0 L k_p1 fr105 (fun q hq hp => by have h1 := hq.trans (q_1); have h2 := hp.trans ((L.2.2.2.2.1 _ k_h0)); omega)
  have hW108 := zW.copy q_0 p106
  refine lv_iconst (v := 0) hx hb dX2_monthOut_8 (by decide +kernel) ?_
  refine lv_istore_n (lv' := [(3, .int (0 : Int32)), (0, .ref h0), (1, .ref p1), (2, va_rf p2)]) hx hb dX2_monthOut_9 rfl hl (by decide) (by cases p2 <;> rfl) (fun ls hl => ?_)
  have J10 : ∀ (n189 : Nat) (I186 : zq_M) (H : Heap) (locs : List Loc) (ls : Array Slot) (j185 : Int32), 60 + 1 - j185.toInt ≤ ((n189 : Nat) : Int) → (zq_hm X (zk, zn) I186 H) → (va_S (zq_A X) s.heap H locs) → (zq_fr (zf X zw_X2_monthOut (fun b => zq_o X b = 201)) I I186) → (0 ≤ j185.toInt ∧ j185.toInt ≤ 60) → (zW X I186 (b) p1) → (zW X I186 (b + 297 * j185.toInt) (zq_r X h0 0)) → (lv_has ls 4 [(3, .int j185), (0, .ref h0), (1, .ref p1), (2, va_rf p2)]) → W p l e R s m args below meth c H locs 0 0 Q (F0 m 10 ls []) := by
    intro n189
    induction n189 with
    | zero => intro I186 H locs ls j185 mu190 hM hS hR gj185 F187 F188 hl; exfalso; have := zi_rng j185; omega
    | succ n189 ih10 =>
      intro I186 H locs ls j185 mu190 hM hS hR gj185 F187 F188 hl
      refine lv_iload_n hx hb dX2_monthOut_10 rfl (lv_at hl 0 rfl) ?_
      refine lv_bipush (v := 60) hx hb dX2_monthOut_11 (by decide +kernel) ?_
      refine lv_icmp_ge (tgt := 51) hx hb dX2_monthOut_13 (by decide) (fun b191 => ?_) (fun b191 => ?_)
      · have b191 := zi_le b191 (zl_60 : (60 : Int32).toInt = 60) (rfl : j185.toInt = j185.toInt)
        refine lv_bipush (v := (-2)) hx hb dX2_monthOut_51 (by decide +kernel) ?_
        subst hQ
        exact zq_iret E hr hZ hM hS hR hlocks dX2_monthOut_53
      · have b191 := zi_nle b191 (zl_60 : (60 : Int32).toInt = 60) (rfl : j185.toInt = j185.toInt)
        refine lv_aload_n hx hb dX2_monthOut_16 rfl (lv_at hl 1 rfl) ?_
        refine zq_getr E hM k_h0 (zFX2_12 E hZ) ⟨by decide, by decide, by decide, rfl⟩ dX2_monthOut_17 ?_
        have k192 : zq_k X (zq_r X h0 0) = 8 := zq_lk L.1 k_h0 rfl (by decide)
        refine zq_pcalli (zq_rV (As := []) (rest := []) E hZ hM k192 (c_X10_isOut l X zk (zn) I186 L (zq_r X h0 0) k192) zmX2_133 zM_X10_isOut (hro (3) 2 (by first | decide | omega) (by decide)) ⟨by decide, by decide⟩ rfl hl.1 rfl rfl (Nat.le_of_ble_eq_true rfl) dX2_monthOut_20) hS (fun x194 H locs h193 hM hS => ?_)
        have p195 := h193
        refine lv_if_eq (tgt := 34) hx hb dX2_monthOut_23 (by decide) (fun b196 => ?_) (fun b196 => ?_)
        · have b196 := zi_eq b196 (rfl : x194.toInt = x194.toInt) (zl_0 : (0 : Int32).toInt = 0)
          refine lv_aload_n hx hb dX2_monthOut_34 rfl (lv_at hl 1 rfl) ?_
          refine zq_getr E hM k_h0 (zFX2_12 E hZ) ⟨by decide, by decide, by decide, rfl⟩ dX2_monthOut_35 ?_
          have k197 : zq_k X (zq_r X h0 0) = 8 := zq_lk L.1 k_h0 rfl (by decide)
          refine zq_oload_n hx hb dX2_monthOut_38 rfl (lv_at hl 3 rfl) ?_
          refine lv_bipush (v := 100) hx hb dX2_monthOut_39 (by decide +kernel) ?_
          refine zq_calli (zq_rV (As := [va_rf p2, .int (100 : Int32)]) (rest := []) E hZ hM k197 (c_X10_passMonth l X zk (zn) I186 L (b + 297 * j185.toInt) (zq_r X h0 0) k197 p2 hqp2 (100 : Int32) (F188) (by have := zl_100; omega)) zmX2_43 zM_X10_passMonth (hro (4) 6 (by first | decide | omega) (by decide)) ⟨by decide, by decide⟩ rfl hl.1 rfl rfl (Nat.le_of_ble_eq_true rfl) dX2_monthOut_41) hS (fun x199 I200 H locs h198 hM hS => ?_)
          obtain ⟨fr201, p202⟩ := h198
          have := zl_100
          have hR := zq_fr.call hR fr201 (zf_sub (by decide +kernel) (fun b _ q => (q.trans ((L.2.2.2.2.1 _ k_h0)))))
          have hW203 := zW.frP F187 L k_p1 fr201 (fun q hq hp => by have h1 := hq.trans (q_1); have h2 := hp.trans ((L.2.2.2.2.1 _ k_h0)); omega)
          refine lv_pop hx hb dX2_monthOut_44 rfl ?_
          obtain ⟨x205, ex205⟩ : ∃ y : Int32, y = j185 + 1 := ⟨_, rfl⟩
          have tx205 := zi_add ex205 (rfl : j185.toInt = j185.toInt) zl_1 ⟨by omega, by omega⟩
          refine lv_iinc (v := x205) (lv' := [(3, .int x205), (0, .ref h0), (1, .ref p1), (2, va_rf p2)]) hx hb dX2_monthOut_45 hl (k := 0) rfl (by rw [ex205]; rfl) (by decide) (by cases p2 <;> rfl) (fun ls hl => ?_)
          refine lv_goto (tgt := 10) hx hb dX2_monthOut_48 (by decide) ?_
          exact ih10 I200 H locs ls x205 (by omega) hM hS hR (⟨by omega, by omega⟩) hW203 (zW.mono p202 (by have := zl_0; omega)) (lv_sub hl [0, 1, 2, 3] rfl)
        · have b196 := zi_ne b196 (rfl : x194.toInt = x194.toInt) (zl_0 : (0 : Int32).toInt = 0)
          refine lv_aload_n hx hb dX2_monthOut_26 rfl (lv_at hl 1 rfl) ?_
          refine zq_getr E hM k_h0 (zFX2_12 E hZ) ⟨by decide, by decide, by decide, rfl⟩ dX2_monthOut_27 ?_
          have k206 : zq_k X (zq_r X h0 0) = 8 := zq_lk L.1 k_h0 rfl (by decide)
          refine zq_gn E hM k206 (zFX2_137 E hZ) (Or.inl ⟨by decide, by decide, by decide, rfl⟩) dX2_monthOut_30 (fun x207 ex207 gx207 => ?_)
          clear gx207
          subst hQ
          exact zq_iret E hr hZ hM hS hR hlocks dX2_monthOut_33
  exact J10 (60 + 1 - (0 : Int32).toInt).toNat I104 H locs ls (0 : Int32) (by omega) hM hS hR (by rw [zl_0]; decide) hW107 (zW.mono hW108 (by have := zl_0; omega)) (lv_sub hl [0, 1, 2, 3] rfl)
def zw_X2_findGift : List (Nat × Nat) := [(5, 0), (5, 1), (5, 2), (5, 3), (5, 4), (5, 5), (7, 0), (7, 1), (7, 2), (7, 3), (7, 4), (7, 5), (7, 6), (8, 0), (8, 1), (8, 2), (8, 3), (8, 4), (8, 5), (8, 6), (30, 999), (34, 999)]
set_option maxHeartbeats 8000000 in
set_option maxRecDepth 100000 in
theorem c_X2_findGift (l : Launch) (X : zq_X) (zk zn : Nat) (I : zq_M) (L : zq_L X) (b : Int) (h0 : Nat) (k_h0 : zq_k X h0 = 3) (p1 : Nat) (k_p1 : zq_k X p1 = 8) (p2 : Option Nat) (hqp2 : p2 = none ∨ ∃ q, p2 = some q ∧ zq_k X q = 4) (p3 : Int32) (q_0 : zW X I b p1) (q_1 : zq_o X p1 = 100) (q_2 : 0 ≤ b ∧ b ≤ 800000) : Met l yX2_findGift (zt_w yX2_findGift cX2_findGift 5 none) (zq_rm (6)) (va_Pc [.ref h0, .ref p1, va_rf p2, .int p3] (zq_W X (zk, zn) I)) (va_Qv (fun I2 => zq_fr (zf X zw_X2_findGift (fun b => zq_o X b = 201)) I I2) (zq_E X (zk, zn)) (zq_A X)) 0 0 (zq_A X) := by
  refine Met.ofW (cc := cX2_findGift) (maxL := 5) (ret := none) (by decide) rfl ?_
  intro p e s m args below meth c s₁ B hml hv
  obtain ⟨hargs, hM, hZ⟩ := hv
  have hown : s.vm.findClass RX2 = some m.cls := findClass_of_methodNamed B.named
  have hts := atoms_spec (ws := zt_w yX2_findGift cX2_findGift 5 none) B.pre
  have E : CallFix p m c cX2_findGift 5 s args (Cond.code yX2_findGift cX2_findGift 5 none :: zt) RX2 := ⟨B.exec, B.bytes, hml, hown, hts⟩
  have hx := B.exec
  have hb := B.bytes
  have hr := B.returns
  have hlocks := B.notSynchronized
  clear B
  have hS : va_S (zq_A X) s.heap s.heap [] := va_S.rf
  have hR : zq_fr (zf X zw_X2_findGift (fun b => zq_o X b = 201)) I I := zq_fr.rf
  have hl := lv_entry ([.ref h0, .ref p1, va_rf p2, .int p3]) (n := 5) (by cases p2 <;> exact Nat.le_of_ble_eq_true rfl)
  have hg : entryFrame m args 5 = F0 m 0 ((lg_sl ([.ref h0, .ref p1, va_rf p2, .int p3]) ++ List.replicate (5 - (lg_sl ([.ref h0, .ref p1, va_rf p2, .int p3])).length) Slot.unset).toArray) [] := by rw [hargs]; exact lg_entry_eq m ([.ref h0, .ref p1, va_rf p2, .int p3]) 5
  rw [hg]
  clear hg hargs
  generalize (lg_sl ([.ref h0, .ref p1, va_rf p2, .int p3]) ++ List.replicate (5 - (lg_sl ([.ref h0, .ref p1, va_rf p2, .int p3])).length) Slot.unset).toArray = ls at hl ⊢
  have hl : lv_has ls 5 [(0, .ref h0), (1, .ref p1), (2, va_rf p2), (3, .int p3)] := by cases p2 <;> exact hl
  obtain ⟨R, hRm⟩ : ∃ R : Room, R = (headSpec (zt_w yX2_findGift cX2_findGift 5 none) (zq_rm (6))).room := ⟨_, rfl⟩
  rw [← hRm]
  have hro : ∀ d q : Nat, d + 1 ≤ 6 → q ≤ 45 → zq_rok d q R := fun d q h1 h2 => by rw [hRm]; exact zq_rokI h1 h2
  generalize hQ : MQ below _ args s 0 0 (zq_A X) = Q
  obtain ⟨H, hH⟩ : ∃ H, H = s.heap := ⟨_, rfl⟩
  obtain ⟨locs, hlo⟩ : ∃ x : List Loc, x = [] := ⟨_, rfl⟩
  rw [show W p l e R s m args below meth c s.heap [] 0 0 Q = W p l e R s m args below meth c H locs 0 0 Q by rw [hH, hlo]]
  have hM : zq_hm X (zk, zn) I H := by rw [hH]; exact hM
  have hS : va_S (zq_A X) s.heap H locs := by rw [hH, hlo]; exact hS
  clear hH hlo
  refine lv_aload_n hx hb dX2_findGift_0 rfl (lv_at hl 1 rfl) ?_
  refine lv_iload_n hx hb dX2_findGift_1 rfl (lv_at hl 3 rfl) ?_
  refine zq_pcalli (zq_rV (As := [.int p3]) (rest := []) E hZ hM k_p1 (c_X10_hasTown l X zk (zn) I L p1 k_p1 p3) zmX2_84 zM_X10_hasTown (hro (0) 2 (by first | decide | omega) (by decide)) ⟨by decide, by decide⟩ rfl hl.1 rfl rfl (Nat.le_of_ble_eq_true rfl) dX2_findGift_2) hS (fun x102 H locs h101 hM hS => ?_)
  obtain ⟨p103, p104, p105⟩ := h101
  refine lv_if_ne (tgt := 9) hx hb dX2_findGift_5 (by decide) (fun b106 => ?_) (fun b106 => ?_)
  · have b106 := zi_ne b106 (rfl : x102.toInt = x102.toInt) (zl_0 : (0 : Int32).toInt = 0)
    have hG9 : zT I b (zq_r X (zq_r X p1 9) (p3.toNatClampNeg)) := q_0 _ (zq_inn (i := p3) (n := 4) ⟨by omega, by omega⟩) (by have := zq_cl (i := p3) (by omega); omega)
    refine lv_aload_n hx hb dX2_findGift_9 rfl (lv_at hl 0 rfl) ?_
    refine lv_iconst (v := (-1)) hx hb dX2_findGift_10 (by decide +kernel) ?_
    refine lv_iconst (v := 0) hx hb dX2_findGift_11 (by decide +kernel) ?_
    refine lv_iconst (v := 0) hx hb dX2_findGift_12 (by decide +kernel) ?_
    refine lv_iconst (v := 0) hx hb dX2_findGift_13 (by decide +kernel) ?_
    refine zq_callv (zq_rV (As := [.int (-1 : Int32), .int (0 : Int32), .int (0 : Int32), .int (0 : Int32)]) (rest := []) E hZ hM k_h0 (c_X2_setBest l X zk (zn) I L h0 k_h0 (-1 : Int32) (0 : Int32) (0 : Int32) (0 : Int32)) zmX2_50 zM_X2_setBest (hro (0) 5 (by first | decide | omega) (by decide)) ⟨by decide, by decide⟩ rfl hl.1 rfl rfl (Nat.le_of_ble_eq_true rfl) dX2_findGift_14) hS (fun I109 H locs h107 hM hS => ?_)
    have fr110 := h107
    have := zl_m1
    have := zl_0
    have hR := zq_fr.call hR fr110 (zf_sub (by decide +kernel) (fun _ _ q => q.elim))
    have hW111 := zW.frL q_0 L k_p1 fr110 rfl rfl
    have hT112 := zT.fr hG9 fr110 (zW.kt L k_p1 (zq_inn (i := p3) (n := 4) ⟨by omega, by omega⟩)) rfl
    refine lv_iconst (v := 0) hx hb dX2_findGift_17 (by decide +kernel) ?_
    refine lv_istore (lv' := [(4, .int (0 : Int32)), (0, .ref h0), (1, .ref p1), (2, va_rf p2), (3, .int p3)]) hx hb dX2_findGift_18 hl (by decide) rfl (fun ls hl => ?_)
    have J20 : ∀ (n281 : Nat) (I278 : zq_M) (H : Heap) (locs : List Loc) (ls : Array Slot) (j277 : Int32), 1000001 + 1 - j277.toInt ≤ ((n281 : Nat) : Int) → (zq_hm X (zk, zn) I278 H) → (va_S (zq_A X) s.heap H locs) → (zq_fr (zf X zw_X2_findGift (fun b => zq_o X b = 201)) I I278) → (0 ≤ j277.toInt ∧ j277.toInt ≤ 1000001) → (zW X I278 (b) p1) → (zT I278 (b) (zq_r X (zq_r X p1 9) (p3.toNatClampNeg))) → (lv_has ls 5 [(4, .int j277), (0, .ref h0), (1, .ref p1), (2, va_rf p2), (3, .int p3)]) → W p l e R s m args below meth c H locs 0 0 Q (F0 m 20 ls []) := by
      intro n281
      induction n281 with
      | zero => intro I278 H locs ls j277 mu282 hM hS hR gj277 F279 F280 hl; exfalso; have := zi_rng j277; omega
      | succ n281 ih20 =>
        intro I278 H locs ls j277 mu282 hM hS hR gj277 F279 F280 hl
        refine lv_iload hx hb dX2_findGift_20 (lv_at hl 0 rfl) ?_
        refine lv_aload_n hx hb dX2_findGift_22 rfl (lv_at hl 2 rfl) ?_
        refine zq_getr E hM k_p1 (zFX2_88 E hZ) ⟨by decide, by decide, by decide, rfl⟩ dX2_findGift_23 ?_
        have k283 : zq_k X (zq_r X p1 9) = 32 := zq_lk L.1 k_p1 rfl (by decide)
        refine lv_iload_n hx hb dX2_findGift_26 rfl (lv_at hl 4 rfl) ?_
        refine zq_rald (n := 4) (t := 8) (j := (p3.toNatClampNeg)) E hZ hM k283 ⟨by decide, rfl⟩ ⟨rfl, by decide, by decide⟩ ⟨by omega, by omega⟩ rfl dX2_findGift_27 ?_
        have k284 : zq_k X (zq_r X (zq_r X p1 9) (p3.toNatClampNeg)) = 7 := zq_lay_a L.1 k283 (n := 4) (zq_inn (i := p3) (n := 4) ⟨by omega, by omega⟩) (by decide) (by decide)
        refine zq_gn E hM k284 (zFX2_92 E hZ) (Or.inl ⟨by decide, by decide, by decide, rfl⟩) dX2_findGift_28 (fun x285 ex285 gx285 => ?_)
        clear gx285
        have fx285 := zT.r4 F280 ex285
        refine lv_icmp_gt (tgt := 75) hx hb dX2_findGift_31 (by decide) (fun b286 => ?_) (fun b286 => ?_)
        · have b286 := zi_lt b286 (rfl : x285.toInt = x285.toInt) (rfl : j277.toInt = j277.toInt)
          subst hQ
          exact zq_vret E hr hZ hM hS hR hlocks dX2_findGift_75
        · have b286 := zi_nlt b286 (rfl : x285.toInt = x285.toInt) (rfl : j277.toInt = j277.toInt)
          refine lv_aload_n hx hb dX2_findGift_34 rfl (lv_at hl 1 rfl) ?_
          refine zq_getr E hM k_h0 (zFX2_12 E hZ) ⟨by decide, by decide, by decide, rfl⟩ dX2_findGift_35 ?_
          have k287 : zq_k X (zq_r X h0 0) = 8 := zq_lk L.1 k_h0 rfl (by decide)
          refine lv_aload_n hx hb dX2_findGift_38 rfl (lv_at hl 2 rfl) ?_
          refine zq_callv (zq_rV (As := [.ref p1]) (rest := []) E hZ hM k287 (c_X10_copyFrom l X zk (zn) I278 L (zq_r X h0 0) k287 p1 k_p1 (fun hq => by have h1 := (L.2.2.2.2.1 _ k_h0); have h2 := q_1; omega)) zmX2_39 zM_X10_copyFrom (hro (1) 3 (by first | decide | omega) (by decide)) ⟨by decide, by decide⟩ rfl hl.1 rfl rfl (Nat.le_of_ble_eq_true rfl) dX2_findGift_39) hS (fun I290 H locs h288 hM hS => ?_)
          obtain ⟨fr291, p292⟩ := h288
          have hR := zq_fr.call hR fr291 (zf_sub (by decide +kernel) (fun b _ q => (q.trans ((L.2.2.2.2.1 _ k_h0)))))
          have hW293 := zW.frP F279 L k_p1 fr291 (fun q hq hp => by have h1 := hq.trans (q_1); have h2 := hp.trans ((L.2.2.2.2.1 _ k_h0)); omega)
          have hT294 := zT.frP F280 fr291 (zW.kt L k_p1 (zq_inn (i := p3) (n := 4) ⟨by omega, by omega⟩)) (fun hp => by have h1 := ((zW.ot L k_p1 (zq_inn (i := p3) (n := 4) ⟨by omega, by omega⟩)).trans q_1); have h2 := hp.trans ((L.2.2.2.2.1 _ k_h0)); omega)
          have hW295 := zW.copy F279 p292
          refine lv_aload_n hx hb dX2_findGift_42 rfl (lv_at hl 1 rfl) ?_
          refine zq_getr E hM k_h0 (zFX2_12 E hZ) ⟨by decide, by decide, by decide, rfl⟩ dX2_findGift_43 ?_
          have k296 : zq_k X (zq_r X h0 0) = 8 := zq_lk L.1 k_h0 rfl (by decide)
          refine zq_getr E hM k296 (zFX2_88 E hZ) ⟨by decide, by decide, by decide, rfl⟩ dX2_findGift_46 ?_
          have k297 : zq_k X (zq_r X (zq_r X h0 0) 9) = 32 := zq_lk L.1 k296 rfl (by decide)
          refine lv_iload_n hx hb dX2_findGift_49 rfl (lv_at hl 4 rfl) ?_
          refine zq_rald (n := 4) (t := 8) (j := (p3.toNatClampNeg)) E hZ hM k297 ⟨by decide, rfl⟩ ⟨rfl, by decide, by decide⟩ ⟨by omega, by omega⟩ rfl dX2_findGift_50 ?_
          have k298 : zq_k X (zq_r X (zq_r X (zq_r X h0 0) 9) (p3.toNatClampNeg)) = 7 := zq_lay_a L.1 k297 (n := 4) (zq_inn (i := p3) (n := 4) ⟨by omega, by omega⟩) (by decide) (by decide)
          refine W.eq (g2 := F0 m 51 ls [.ref (zq_r X (zq_r X (zq_r X h0 0) 9) (p3.toNatClampNeg))]) rfl ?_
          refine lv_iload hx hb dX2_findGift_51 (lv_at hl 0 rfl) ?_
          refine zq_callv (zq_rV (As := [.int j277]) (rest := []) E hZ hM k298 (c_X7_giveAway l X zk (zn) I290 L (b) (zq_r X (zq_r X (zq_r X h0 0) 9) (p3.toNatClampNeg)) k298 j277 ⟨by omega, by omega⟩ (zT.cp F280 p292 (zq_inn (i := p3) (n := 4) ⟨by omega, by omega⟩)) (by rw [p292.2 _ (zq_inn (i := p3) (n := 4) ⟨by omega, by omega⟩) (zq_inn (i := p3) (n := 4) ⟨by omega, by omega⟩) 4 (by decide) (by decide), ex285]; omega) (by omega)) zmX2_97 zM_X7_giveAway (hro (1) 2 (by first | decide | omega) (by decide)) ⟨by decide, by decide⟩ rfl hl.1 rfl rfl (Nat.le_of_ble_eq_true rfl) dX2_findGift_53) hS (fun I301 H locs h299 hM hS => ?_)
          obtain ⟨fr302, p303⟩ := h299
          have hR := zq_fr.call hR fr302 (zf_sub (by decide +kernel) (fun b _ q => (by rw [q]; exact ((zq_own_a L.2.1 k297 (n := 4) (zq_inn (i := p3) (n := 4) ⟨by omega, by omega⟩) (by decide)).trans (((L.2.1 _ _ _ k296 (by decide) rfl).trans ((L.2.2.2.2.1 _ k_h0))))))))
          have hW304 := zW.frP hW293 L k_p1 fr302 (fun q hq hp => by have h1 := hq.trans (q_1); have h2 := ((zq_own_a L.2.1 k297 (n := 4) (zq_inn (i := p3) (n := 4) ⟨by omega, by omega⟩) (by decide)).trans (((L.2.1 _ _ _ k296 (by decide) rfl).trans ((L.2.2.2.2.1 _ k_h0))))); rw [hp] at h1; omega)
          have hT305 := zT.frP hT294 fr302 (zW.kt L k_p1 (zq_inn (i := p3) (n := 4) ⟨by omega, by omega⟩)) (fun hp => by have h1 := ((zW.ot L k_p1 (zq_inn (i := p3) (n := 4) ⟨by omega, by omega⟩)).trans q_1); have h2 := ((zq_own_a L.2.1 k297 (n := 4) (zq_inn (i := p3) (n := 4) ⟨by omega, by omega⟩) (by decide)).trans (((L.2.1 _ _ _ k296 (by decide) rfl).trans ((L.2.2.2.2.1 _ k_h0))))); rw [hp] at h1; omega)
          have hW306 := zW.one (b2 := b) hW295 L k287 (zq_inn (i := p3) (n := 4) ⟨by omega, by omega⟩) fr302 (Int.le_refl _) p303
          refine lv_aload_n hx hb dX2_findGift_56 rfl (lv_at hl 1 rfl) ?_
          refine lv_aload_n hx hb dX2_findGift_57 rfl (lv_at hl 1 rfl) ?_
          refine zq_oload_n hx hb dX2_findGift_58 rfl (lv_at hl 3 rfl) ?_
          refine zq_calli (zq_rV (As := [va_rf p2]) (rest := [.ref h0]) E hZ hM k_h0 (c_X2_moneyThen l X zk (zn) I301 L (b) h0 k_h0 p2 hqp2 (hW306) (by omega)) zmX2_73 zM_X2_moneyThen (hro (5) 3 (by first | decide | omega) (by decide)) ⟨by decide, by decide⟩ rfl hl.1 rfl rfl (Nat.le_of_ble_eq_true rfl) dX2_findGift_59) hS (fun x308 I309 H locs h307 hM hS => ?_)
          have fr310 := h307
          have hR := zq_fr.call hR fr310 (zf_sub (by decide +kernel) (fun b _ q => q))
          have hW311 := zW.frP hW304 L k_p1 fr310 (fun q hq hp => by have h1 := hq.trans (q_1); omega)
          have hT312 := zT.frP hT305 fr310 (zW.kt L k_p1 (zq_inn (i := p3) (n := 4) ⟨by omega, by omega⟩)) (fun hp => by have h1 := ((zW.ot L k_p1 (zq_inn (i := p3) (n := 4) ⟨by omega, by omega⟩)).trans q_1); omega)
          refine lv_iload hx hb dX2_findGift_62 (lv_at hl 0 rfl) ?_
          refine lv_iconst (v := 0) hx hb dX2_findGift_64 (by decide +kernel) ?_
          refine lv_iconst (v := 0) hx hb dX2_findGift_65 (by decide +kernel) ?_
          refine zq_callv (zq_rV (As := [.int x308, .int j277, .int (0 : Int32), .int (0 : Int32)]) (rest := []) E hZ hM k_h0 (c_X2_keepBetter l X zk (zn) I309 L h0 k_h0 x308 j277 (0 : Int32) (0 : Int32)) zmX2_77 zM_X2_keepBetter (hro (1) 5 (by first | decide | omega) (by decide)) ⟨by decide, by decide⟩ rfl hl.1 rfl rfl (Nat.le_of_ble_eq_true rfl) dX2_findGift_66) hS (fun I316 H locs h314 hM hS => ?_)
          have fr317 := h314
          have := zl_0
          have hR := zq_fr.call hR fr317 (zf_sub (by decide +kernel) (fun _ _ q => q.elim))
          have hW318 := zW.frL hW311 L k_p1 fr317 rfl rfl
          have hT319 := zT.fr hT312 fr317 (zW.kt L k_p1 (zq_inn (i := p3) (n := 4) ⟨by omega, by omega⟩)) rfl
          refine W.eq (g2 := F0 m 69 ls []) rfl ?_
          obtain ⟨x320, ex320⟩ : ∃ y : Int32, y = j277 + 1 := ⟨_, rfl⟩
          have tx320 := zi_add ex320 (rfl : j277.toInt = j277.toInt) zl_1 ⟨by omega, by omega⟩
          refine lv_iinc (v := x320) (lv' := [(4, .int x320), (0, .ref h0), (1, .ref p1), (2, va_rf p2), (3, .int p3)]) hx hb dX2_findGift_69 hl (k := 0) rfl (by rw [ex320]; rfl) (by decide) rfl (fun ls hl => ?_)
          refine lv_goto (tgt := 20) hx hb dX2_findGift_72 (by decide) ?_
          exact ih20 I316 H locs ls x320 (by omega) hM hS hR (⟨by omega, by omega⟩) hW318 hT319 (lv_sub hl [0, 1, 2, 3, 4] rfl)
    exact J20 (1000001 + 1 - (0 : Int32).toInt).toNat I109 H locs ls (0 : Int32) (by omega) hM hS hR (by rw [zl_0]; decide) hW111 hT112 (lv_sub hl [0, 1, 2, 3, 4] rfl)
  · have b106 := zi_eq b106 (rfl : x102.toInt = x102.toInt) (zl_0 : (0 : Int32).toInt = 0)
    subst hQ
    exact zq_vret E hr hZ hM hS hR hlocks dX2_findGift_8
def zw_X2_findPrice : List (Nat × Nat) := [(5, 0), (5, 1), (5, 2), (5, 3), (5, 4), (5, 5), (7, 0), (7, 1), (7, 2), (7, 3), (7, 4), (7, 5), (7, 6), (8, 0), (8, 1), (8, 2), (8, 3), (8, 4), (8, 5), (8, 6), (30, 999), (34, 999)]
set_option maxHeartbeats 8000000 in
set_option maxRecDepth 100000 in
theorem c_X2_findPrice (l : Launch) (X : zq_X) (zk zn : Nat) (I : zq_M) (L : zq_L X) (b : Int) (h0 : Nat) (k_h0 : zq_k X h0 = 3) (p1 : Nat) (k_p1 : zq_k X p1 = 8) (p2 : Option Nat) (hqp2 : p2 = none ∨ ∃ q, p2 = some q ∧ zq_k X q = 4) (p3 : Int32) (q_0 : zW X I b p1) (q_1 : zq_o X p1 = 100) (q_2 : 0 ≤ b ∧ b ≤ 800000) : Met l yX2_findPrice (zt_w yX2_findPrice cX2_findPrice 5 none) (zq_rm (6)) (va_Pc [.ref h0, .ref p1, va_rf p2, .int p3] (zq_W X (zk, zn) I)) (va_Qv (fun I2 => zq_fr (zf X zw_X2_findPrice (fun b => zq_o X b = 201)) I I2) (zq_E X (zk, zn)) (zq_A X)) 0 0 (zq_A X) := by
  refine Met.ofW (cc := cX2_findPrice) (maxL := 5) (ret := none) (by decide) rfl ?_
  intro p e s m args below meth c s₁ B hml hv
  obtain ⟨hargs, hM, hZ⟩ := hv
  have hown : s.vm.findClass RX2 = some m.cls := findClass_of_methodNamed B.named
  have hts := atoms_spec (ws := zt_w yX2_findPrice cX2_findPrice 5 none) B.pre
  have E : CallFix p m c cX2_findPrice 5 s args (Cond.code yX2_findPrice cX2_findPrice 5 none :: zt) RX2 := ⟨B.exec, B.bytes, hml, hown, hts⟩
  have hx := B.exec
  have hb := B.bytes
  have hr := B.returns
  have hlocks := B.notSynchronized
  clear B
  have hS : va_S (zq_A X) s.heap s.heap [] := va_S.rf
  have hR : zq_fr (zf X zw_X2_findPrice (fun b => zq_o X b = 201)) I I := zq_fr.rf
  have hl := lv_entry ([.ref h0, .ref p1, va_rf p2, .int p3]) (n := 5) (by cases p2 <;> exact Nat.le_of_ble_eq_true rfl)
  have hg : entryFrame m args 5 = F0 m 0 ((lg_sl ([.ref h0, .ref p1, va_rf p2, .int p3]) ++ List.replicate (5 - (lg_sl ([.ref h0, .ref p1, va_rf p2, .int p3])).length) Slot.unset).toArray) [] := by rw [hargs]; exact lg_entry_eq m ([.ref h0, .ref p1, va_rf p2, .int p3]) 5
  rw [hg]
  clear hg hargs
  generalize (lg_sl ([.ref h0, .ref p1, va_rf p2, .int p3]) ++ List.replicate (5 - (lg_sl ([.ref h0, .ref p1, va_rf p2, .int p3])).length) Slot.unset).toArray = ls at hl ⊢
  have hl : lv_has ls 5 [(0, .ref h0), (1, .ref p1), (2, va_rf p2), (3, .int p3)] := by cases p2 <;> exact hl
  obtain ⟨R, hRm⟩ : ∃ R : Room, R = (headSpec (zt_w yX2_findPrice cX2_findPrice 5 none) (zq_rm (6))).room := ⟨_, rfl⟩
  rw [← hRm]
  have hro : ∀ d q : Nat, d + 1 ≤ 6 → q ≤ 45 → zq_rok d q R := fun d q h1 h2 => by rw [hRm]; exact zq_rokI h1 h2
  generalize hQ : MQ below _ args s 0 0 (zq_A X) = Q
  obtain ⟨H, hH⟩ : ∃ H, H = s.heap := ⟨_, rfl⟩
  obtain ⟨locs, hlo⟩ : ∃ x : List Loc, x = [] := ⟨_, rfl⟩
  rw [show W p l e R s m args below meth c s.heap [] 0 0 Q = W p l e R s m args below meth c H locs 0 0 Q by rw [hH, hlo]]
  have hM : zq_hm X (zk, zn) I H := by rw [hH]; exact hM
  have hS : va_S (zq_A X) s.heap H locs := by rw [hH, hlo]; exact hS
  clear hH hlo
  refine lv_aload_n hx hb dX2_findPrice_0 rfl (lv_at hl 1 rfl) ?_
  refine lv_iload_n hx hb dX2_findPrice_1 rfl (lv_at hl 3 rfl) ?_
  refine zq_pcalli (zq_rV (As := [.int p3]) (rest := []) E hZ hM k_p1 (c_X10_hasTown l X zk (zn) I L p1 k_p1 p3) zmX2_84 zM_X10_hasTown (hro (0) 2 (by first | decide | omega) (by decide)) ⟨by decide, by decide⟩ rfl hl.1 rfl rfl (Nat.le_of_ble_eq_true rfl) dX2_findPrice_2) hS (fun x102 H locs h101 hM hS => ?_)
  obtain ⟨p103, p104, p105⟩ := h101
  refine lv_if_ne (tgt := 9) hx hb dX2_findPrice_5 (by decide) (fun b106 => ?_) (fun b106 => ?_)
  · have b106 := zi_ne b106 (rfl : x102.toInt = x102.toInt) (zl_0 : (0 : Int32).toInt = 0)
    have hG9 : zT I b (zq_r X (zq_r X p1 9) (p3.toNatClampNeg)) := q_0 _ (zq_inn (i := p3) (n := 4) ⟨by omega, by omega⟩) (by have := zq_cl (i := p3) (by omega); omega)
    refine lv_aload_n hx hb dX2_findPrice_9 rfl (lv_at hl 0 rfl) ?_
    refine lv_iconst (v := (-1)) hx hb dX2_findPrice_10 (by decide +kernel) ?_
    refine lv_iconst (v := 0) hx hb dX2_findPrice_11 (by decide +kernel) ?_
    refine lv_iconst (v := 0) hx hb dX2_findPrice_12 (by decide +kernel) ?_
    refine lv_iconst (v := 0) hx hb dX2_findPrice_13 (by decide +kernel) ?_
    refine zq_callv (zq_rV (As := [.int (-1 : Int32), .int (0 : Int32), .int (0 : Int32), .int (0 : Int32)]) (rest := []) E hZ hM k_h0 (c_X2_setBest l X zk (zn) I L h0 k_h0 (-1 : Int32) (0 : Int32) (0 : Int32) (0 : Int32)) zmX2_50 zM_X2_setBest (hro (0) 5 (by first | decide | omega) (by decide)) ⟨by decide, by decide⟩ rfl hl.1 rfl rfl (Nat.le_of_ble_eq_true rfl) dX2_findPrice_14) hS (fun I109 H locs h107 hM hS => ?_)
    have fr110 := h107
    have := zl_m1
    have := zl_0
    have hR := zq_fr.call hR fr110 (zf_sub (by decide +kernel) (fun _ _ q => q.elim))
    have hW111 := zW.frL q_0 L k_p1 fr110 rfl rfl
    have hT112 := zT.fr hG9 fr110 (zW.kt L k_p1 (zq_inn (i := p3) (n := 4) ⟨by omega, by omega⟩)) rfl
    refine lv_iconst (v := 1) hx hb dX2_findPrice_17 (by decide +kernel) ?_
    refine lv_istore (lv' := [(4, .int (1 : Int32)), (0, .ref h0), (1, .ref p1), (2, va_rf p2), (3, .int p3)]) hx hb dX2_findPrice_18 hl (by decide) rfl (fun ls hl => ?_)
    have J20 : ∀ (n269 : Nat) (I266 : zq_M) (H : Heap) (locs : List Loc) (ls : Array Slot) (j265 : Int32), 100 + 1 - j265.toInt ≤ ((n269 : Nat) : Int) → (zq_hm X (zk, zn) I266 H) → (va_S (zq_A X) s.heap H locs) → (zq_fr (zf X zw_X2_findPrice (fun b => zq_o X b = 201)) I I266) → (1 ≤ j265.toInt ∧ j265.toInt ≤ 100) → (zW X I266 (b) p1) → (zT I266 (b) (zq_r X (zq_r X p1 9) (p3.toNatClampNeg))) → (lv_has ls 5 [(4, .int j265), (0, .ref h0), (1, .ref p1), (2, va_rf p2), (3, .int p3)]) → W p l e R s m args below meth c H locs 0 0 Q (F0 m 20 ls []) := by
      intro n269
      induction n269 with
      | zero => intro I266 H locs ls j265 mu270 hM hS hR gj265 F267 F268 hl; exfalso; have := zi_rng j265; omega
      | succ n269 ih20 =>
        intro I266 H locs ls j265 mu270 hM hS hR gj265 F267 F268 hl
        refine lv_iload hx hb dX2_findPrice_20 (lv_at hl 0 rfl) ?_
        refine lv_bipush (v := 99) hx hb dX2_findPrice_22 (by decide +kernel) ?_
        refine lv_icmp_gt (tgt := 68) hx hb dX2_findPrice_24 (by decide) (fun b271 => ?_) (fun b271 => ?_)
        · have b271 := zi_lt b271 (zl_99 : (99 : Int32).toInt = 99) (rfl : j265.toInt = j265.toInt)
          subst hQ
          exact zq_vret E hr hZ hM hS hR hlocks dX2_findPrice_68
        · have b271 := zi_nlt b271 (zl_99 : (99 : Int32).toInt = 99) (rfl : j265.toInt = j265.toInt)
          refine lv_aload_n hx hb dX2_findPrice_27 rfl (lv_at hl 1 rfl) ?_
          refine zq_getr E hM k_h0 (zFX2_12 E hZ) ⟨by decide, by decide, by decide, rfl⟩ dX2_findPrice_28 ?_
          have k272 : zq_k X (zq_r X h0 0) = 8 := zq_lk L.1 k_h0 rfl (by decide)
          refine lv_aload_n hx hb dX2_findPrice_31 rfl (lv_at hl 2 rfl) ?_
          refine zq_callv (zq_rV (As := [.ref p1]) (rest := []) E hZ hM k272 (c_X10_copyFrom l X zk (zn) I266 L (zq_r X h0 0) k272 p1 k_p1 (fun hq => by have h1 := (L.2.2.2.2.1 _ k_h0); have h2 := q_1; omega)) zmX2_39 zM_X10_copyFrom (hro (1) 3 (by first | decide | omega) (by decide)) ⟨by decide, by decide⟩ rfl hl.1 rfl rfl (Nat.le_of_ble_eq_true rfl) dX2_findPrice_32) hS (fun I275 H locs h273 hM hS => ?_)
          obtain ⟨fr276, p277⟩ := h273
          have hR := zq_fr.call hR fr276 (zf_sub (by decide +kernel) (fun b _ q => (q.trans ((L.2.2.2.2.1 _ k_h0)))))
          have hW278 := zW.frP F267 L k_p1 fr276 (fun q hq hp => by have h1 := hq.trans (q_1); have h2 := hp.trans ((L.2.2.2.2.1 _ k_h0)); omega)
          have hT279 := zT.frP F268 fr276 (zW.kt L k_p1 (zq_inn (i := p3) (n := 4) ⟨by omega, by omega⟩)) (fun hp => by have h1 := ((zW.ot L k_p1 (zq_inn (i := p3) (n := 4) ⟨by omega, by omega⟩)).trans q_1); have h2 := hp.trans ((L.2.2.2.2.1 _ k_h0)); omega)
          have hW280 := zW.copy F267 p277
          refine lv_aload_n hx hb dX2_findPrice_35 rfl (lv_at hl 1 rfl) ?_
          refine zq_getr E hM k_h0 (zFX2_12 E hZ) ⟨by decide, by decide, by decide, rfl⟩ dX2_findPrice_36 ?_
          have k281 : zq_k X (zq_r X h0 0) = 8 := zq_lk L.1 k_h0 rfl (by decide)
          refine zq_getr E hM k281 (zFX2_88 E hZ) ⟨by decide, by decide, by decide, rfl⟩ dX2_findPrice_39 ?_
          have k282 : zq_k X (zq_r X (zq_r X h0 0) 9) = 32 := zq_lk L.1 k281 rfl (by decide)
          refine lv_iload_n hx hb dX2_findPrice_42 rfl (lv_at hl 4 rfl) ?_
          refine zq_rald (n := 4) (t := 8) (j := (p3.toNatClampNeg)) E hZ hM k282 ⟨by decide, rfl⟩ ⟨rfl, by decide, by decide⟩ ⟨by omega, by omega⟩ rfl dX2_findPrice_43 ?_
          have k283 : zq_k X (zq_r X (zq_r X (zq_r X h0 0) 9) (p3.toNatClampNeg)) = 7 := zq_lay_a L.1 k282 (n := 4) (zq_inn (i := p3) (n := 4) ⟨by omega, by omega⟩) (by decide) (by decide)
          refine W.eq (g2 := F0 m 44 ls [.ref (zq_r X (zq_r X (zq_r X h0 0) 9) (p3.toNatClampNeg))]) rfl ?_
          refine lv_iload hx hb dX2_findPrice_44 (lv_at hl 0 rfl) ?_
          refine zq_callv (zq_rV (As := [.int j265]) (rest := []) E hZ hM k283 (c_X7_setPrice l X zk (zn) I275 L (b) (zq_r X (zq_r X (zq_r X h0 0) 9) (p3.toNatClampNeg)) k283 j265 ⟨by omega, by omega⟩ (zT.cp F268 p277 (zq_inn (i := p3) (n := 4) ⟨by omega, by omega⟩)) (by omega)) zmX2_107 zM_X7_setPrice (hro (1) 2 (by first | decide | omega) (by decide)) ⟨by decide, by decide⟩ rfl hl.1 rfl rfl (Nat.le_of_ble_eq_true rfl) dX2_findPrice_46) hS (fun I286 H locs h284 hM hS => ?_)
          obtain ⟨fr287, p288⟩ := h284
          have hR := zq_fr.call hR fr287 (zf_sub (by decide +kernel) (fun b _ q => (by rw [q]; exact ((zq_own_a L.2.1 k282 (n := 4) (zq_inn (i := p3) (n := 4) ⟨by omega, by omega⟩) (by decide)).trans (((L.2.1 _ _ _ k281 (by decide) rfl).trans ((L.2.2.2.2.1 _ k_h0))))))))
          have hW289 := zW.frP hW278 L k_p1 fr287 (fun q hq hp => by have h1 := hq.trans (q_1); have h2 := ((zq_own_a L.2.1 k282 (n := 4) (zq_inn (i := p3) (n := 4) ⟨by omega, by omega⟩) (by decide)).trans (((L.2.1 _ _ _ k281 (by decide) rfl).trans ((L.2.2.2.2.1 _ k_h0))))); rw [hp] at h1; omega)
          have hT290 := zT.frP hT279 fr287 (zW.kt L k_p1 (zq_inn (i := p3) (n := 4) ⟨by omega, by omega⟩)) (fun hp => by have h1 := ((zW.ot L k_p1 (zq_inn (i := p3) (n := 4) ⟨by omega, by omega⟩)).trans q_1); have h2 := ((zq_own_a L.2.1 k282 (n := 4) (zq_inn (i := p3) (n := 4) ⟨by omega, by omega⟩) (by decide)).trans (((L.2.1 _ _ _ k281 (by decide) rfl).trans ((L.2.2.2.2.1 _ k_h0))))); rw [hp] at h1; omega)
          have hW291 := zW.one (b2 := b) hW280 L k272 (zq_inn (i := p3) (n := 4) ⟨by omega, by omega⟩) fr287 (Int.le_refl _) p288
          refine lv_aload_n hx hb dX2_findPrice_49 rfl (lv_at hl 1 rfl) ?_
          refine lv_aload_n hx hb dX2_findPrice_50 rfl (lv_at hl 1 rfl) ?_
          refine zq_oload_n hx hb dX2_findPrice_51 rfl (lv_at hl 3 rfl) ?_
          refine zq_calli (zq_rV (As := [va_rf p2]) (rest := [.ref h0]) E hZ hM k_h0 (c_X2_moneyThen l X zk (zn) I286 L (b) h0 k_h0 p2 hqp2 (hW291) (by omega)) zmX2_73 zM_X2_moneyThen (hro (5) 3 (by first | decide | omega) (by decide)) ⟨by decide, by decide⟩ rfl hl.1 rfl rfl (Nat.le_of_ble_eq_true rfl) dX2_findPrice_52) hS (fun x293 I294 H locs h292 hM hS => ?_)
          have fr295 := h292
          have hR := zq_fr.call hR fr295 (zf_sub (by decide +kernel) (fun b _ q => q))
          have hW296 := zW.frP hW289 L k_p1 fr295 (fun q hq hp => by have h1 := hq.trans (q_1); omega)
          have hT297 := zT.frP hT290 fr295 (zW.kt L k_p1 (zq_inn (i := p3) (n := 4) ⟨by omega, by omega⟩)) (fun hp => by have h1 := ((zW.ot L k_p1 (zq_inn (i := p3) (n := 4) ⟨by omega, by omega⟩)).trans q_1); omega)
          refine lv_iload hx hb dX2_findPrice_55 (lv_at hl 0 rfl) ?_
          refine lv_iconst (v := 0) hx hb dX2_findPrice_57 (by decide +kernel) ?_
          refine lv_iconst (v := 0) hx hb dX2_findPrice_58 (by decide +kernel) ?_
          refine zq_callv (zq_rV (As := [.int x293, .int j265, .int (0 : Int32), .int (0 : Int32)]) (rest := []) E hZ hM k_h0 (c_X2_keepBetter l X zk (zn) I294 L h0 k_h0 x293 j265 (0 : Int32) (0 : Int32)) zmX2_77 zM_X2_keepBetter (hro (1) 5 (by first | decide | omega) (by decide)) ⟨by decide, by decide⟩ rfl hl.1 rfl rfl (Nat.le_of_ble_eq_true rfl) dX2_findPrice_59) hS (fun I301 H locs h299 hM hS => ?_)
          have fr302 := h299
          have := zl_0
          have hR := zq_fr.call hR fr302 (zf_sub (by decide +kernel) (fun _ _ q => q.elim))
          have hW303 := zW.frL hW296 L k_p1 fr302 rfl rfl
          have hT304 := zT.fr hT297 fr302 (zW.kt L k_p1 (zq_inn (i := p3) (n := 4) ⟨by omega, by omega⟩)) rfl
          refine W.eq (g2 := F0 m 62 ls []) rfl ?_
          obtain ⟨x305, ex305⟩ : ∃ y : Int32, y = j265 + 1 := ⟨_, rfl⟩
          have tx305 := zi_add ex305 (rfl : j265.toInt = j265.toInt) zl_1 ⟨by omega, by omega⟩
          refine lv_iinc (v := x305) (lv' := [(4, .int x305), (0, .ref h0), (1, .ref p1), (2, va_rf p2), (3, .int p3)]) hx hb dX2_findPrice_62 hl (k := 0) rfl (by rw [ex305]; rfl) (by decide) rfl (fun ls hl => ?_)
          refine lv_goto (tgt := 20) hx hb dX2_findPrice_65 (by decide) ?_
          exact ih20 I301 H locs ls x305 (by omega) hM hS hR (⟨by omega, by omega⟩) hW303 hT304 (lv_sub hl [0, 1, 2, 3, 4] rfl)
    exact J20 (100 + 1 - (1 : Int32).toInt).toNat I109 H locs ls (1 : Int32) (by omega) hM hS hR (by rw [zl_1]; decide) hW111 hT112 (lv_sub hl [0, 1, 2, 3, 4] rfl)
  · have b106 := zi_eq b106 (rfl : x102.toInt = x102.toInt) (zl_0 : (0 : Int32).toInt = 0)
    subst hQ
    exact zq_vret E hr hZ hM hS hR hlocks dX2_findPrice_8
def zw_X2_drawYears : List (Nat × Nat) := [(3, 3), (5, 0), (5, 1), (5, 2), (5, 3), (5, 4), (5, 5), (7, 0), (7, 1), (7, 2), (7, 3), (7, 4), (7, 5), (7, 6), (8, 0), (8, 1), (8, 2), (8, 3), (8, 4), (8, 5), (8, 6), (30, 999), (34, 999)]
set_option maxHeartbeats 8000000 in
set_option maxRecDepth 100000 in
theorem c_X2_drawYears (l : Launch) (X : zq_X) (zk zn : Nat) (I : zq_M) (L : zq_L X) (b : Int) (h0 : Nat) (k_h0 : zq_k X h0 = 3) (p1 : Nat) (k_p1 : zq_k X p1 = 1) (p2 : Option Nat) (hqp2 : p2 = none ∨ ∃ q, p2 = some q ∧ zq_k X q = 4) (p3 : Int32) (p4 : Int32) (g_p3 : 0 ≤ p3.toInt ∧ p3.toInt ≤ 10) (g_p4 : 0 ≤ p4.toInt ∧ p4.toInt ≤ 60) (q_0 : zW X I b (zq_r X p1 0)) (q_1 : zq_o X p1 = 0) (q_2 : 0 ≤ b ∧ b ≤ 800000) : Met l yX2_drawYears (zt_w yX2_drawYears cX2_drawYears 9 none) (zq_rm (5)) (va_Pc [.ref h0, .ref p1, va_rf p2, .int p3, .int p4] (zq_W X (zk, zn) I)) (va_Qv (fun I2 => zq_fr (zf X zw_X2_drawYears (fun b => zq_o X b = 201)) I I2) (zq_E X (zk, zn)) (zq_A X)) 0 0 (zq_A X) := by
  refine Met.ofW (cc := cX2_drawYears) (maxL := 9) (ret := none) (by decide) rfl ?_
  intro p e s m args below meth c s₁ B hml hv
  obtain ⟨hargs, hM, hZ⟩ := hv
  have hown : s.vm.findClass RX2 = some m.cls := findClass_of_methodNamed B.named
  have hts := atoms_spec (ws := zt_w yX2_drawYears cX2_drawYears 9 none) B.pre
  have E : CallFix p m c cX2_drawYears 9 s args (Cond.code yX2_drawYears cX2_drawYears 9 none :: zt) RX2 := ⟨B.exec, B.bytes, hml, hown, hts⟩
  have hx := B.exec
  have hb := B.bytes
  have hr := B.returns
  have hlocks := B.notSynchronized
  clear B
  have hS : va_S (zq_A X) s.heap s.heap [] := va_S.rf
  have hR : zq_fr (zf X zw_X2_drawYears (fun b => zq_o X b = 201)) I I := zq_fr.rf
  have hl := lv_entry ([.ref h0, .ref p1, va_rf p2, .int p3, .int p4]) (n := 9) (by cases p2 <;> exact Nat.le_of_ble_eq_true rfl)
  have hg : entryFrame m args 9 = F0 m 0 ((lg_sl ([.ref h0, .ref p1, va_rf p2, .int p3, .int p4]) ++ List.replicate (9 - (lg_sl ([.ref h0, .ref p1, va_rf p2, .int p3, .int p4])).length) Slot.unset).toArray) [] := by rw [hargs]; exact lg_entry_eq m ([.ref h0, .ref p1, va_rf p2, .int p3, .int p4]) 9
  rw [hg]
  clear hg hargs
  generalize (lg_sl ([.ref h0, .ref p1, va_rf p2, .int p3, .int p4]) ++ List.replicate (9 - (lg_sl ([.ref h0, .ref p1, va_rf p2, .int p3, .int p4])).length) Slot.unset).toArray = ls at hl ⊢
  have hl : lv_has ls 9 [(0, .ref h0), (1, .ref p1), (2, va_rf p2), (3, .int p3), (4, .int p4)] := by cases p2 <;> exact hl
  obtain ⟨R, hRm⟩ : ∃ R : Room, R = (headSpec (zt_w yX2_drawYears cX2_drawYears 9 none) (zq_rm (5))).room := ⟨_, rfl⟩
  rw [← hRm]
  have hro : ∀ d q : Nat, d + 1 ≤ 5 → q ≤ 45 → zq_rok d q R := fun d q h1 h2 => by rw [hRm]; exact zq_rokI h1 h2
  generalize hQ : MQ below _ args s 0 0 (zq_A X) = Q
  obtain ⟨H, hH⟩ : ∃ H, H = s.heap := ⟨_, rfl⟩
  obtain ⟨locs, hlo⟩ : ∃ x : List Loc, x = [] := ⟨_, rfl⟩
  rw [show W p l e R s m args below meth c s.heap [] 0 0 Q = W p l e R s m args below meth c H locs 0 0 Q by rw [hH, hlo]]
  have hM : zq_hm X (zk, zn) I H := by rw [hH]; exact hM
  have hS : va_S (zq_A X) s.heap H locs := by rw [hH, hlo]; exact hS
  clear hH hlo
  refine lv_aload_n hx hb dX2_drawYears_0 rfl (lv_at hl 0 rfl) ?_
  refine zq_callv (zq_rV (As := []) (rest := []) E hZ hM k_h0 (c_X2_forget l X zk (zn) I L h0 k_h0) zmX2_110 zM_X2_forget (hro (0) 1 (by first | decide | omega) (by decide)) ⟨by decide, by decide⟩ rfl hl.1 rfl rfl (Nat.le_of_ble_eq_true rfl) dX2_drawYears_1) hS (fun I103 H locs h101 hM hS => ?_)
  have fr104 := h101
  have hR := zq_fr.call hR fr104 (zf_sub (by decide +kernel) (fun _ _ q => q.elim))
  have hW105 := zW.frL q_0 L (zq_lk L.1 k_p1 rfl (by decide)) fr104 rfl rfl
  refine lv_aload_n hx hb dX2_drawYears_4 rfl (lv_at hl 0 rfl) ?_
  refine lv_iconst (v := 0) hx hb dX2_drawYears_5 (by decide +kernel) ?_
  refine lv_iconst (v := 0) hx hb dX2_drawYears_6 (by decide +kernel) ?_
  refine lv_iconst (v := 0) hx hb dX2_drawYears_7 (by decide +kernel) ?_
  refine lv_iconst (v := 0) hx hb dX2_drawYears_8 (by decide +kernel) ?_
  refine zq_callv (zq_rV (As := [.int (0 : Int32), .int (0 : Int32), .int (0 : Int32), .int (0 : Int32)]) (rest := []) E hZ hM k_h0 (c_X2_setBest l X zk (zn) I103 L h0 k_h0 (0 : Int32) (0 : Int32) (0 : Int32) (0 : Int32)) zmX2_50 zM_X2_setBest (hro (0) 5 (by first | decide | omega) (by decide)) ⟨by decide, by decide⟩ rfl hl.1 rfl rfl (Nat.le_of_ble_eq_true rfl) dX2_drawYears_9) hS (fun I108 H locs h106 hM hS => ?_)
  have fr109 := h106
  have := zl_0
  have hR := zq_fr.call hR fr109 (zf_sub (by decide +kernel) (fun _ _ q => q.elim))
  have hW110 := zW.frL hW105 L (zq_lk L.1 k_p1 rfl (by decide)) fr109 rfl rfl
  refine lv_aload_n hx hb dX2_drawYears_12 rfl (lv_at hl 1 rfl) ?_
  refine W.eq (g2 := F0 m 13 ls [.ref p1]) rfl ?_
  refine zq_gn E hM k_p1 (zFX2_144 E hZ) (Or.inl ⟨by decide, by decide, by decide, rfl⟩) dX2_drawYears_13 (fun x111 ex111 gx111 => ?_)
  clear gx111
  refine lv_i2l hx hb dX2_drawYears_16 rfl ?_
  refine lv_topl (fun y112 ey112 => ?_)
  have ty112 := zi_i2l ey112
  have := zi_rng x111
  refine lv_lstore (lv' := [(5, .long y112), (0, .ref h0), (1, .ref p1), (2, va_rf p2), (3, .int p3), (4, .int p4)]) hx hb dX2_drawYears_17 hl (by decide) rfl (fun ls hl => ?_)
  refine lv_iconst (v := 0) hx hb dX2_drawYears_19 (by decide +kernel) ?_
  refine lv_istore (lv' := [(7, .int (0 : Int32)), (5, .long y112), (0, .ref h0), (1, .ref p1), (2, va_rf p2), (3, .int p3), (4, .int p4)]) hx hb dX2_drawYears_20 hl (by decide) rfl (fun ls hl => ?_)
  have J22 : ∀ (n869 : Nat) (I867 : zq_M) (H : Heap) (locs : List Loc) (ls : Array Slot) (j865 : Int32) (jl866 : Int64), 10 + 1 - j865.toInt ≤ ((n869 : Nat) : Int) → (zq_hm X (zk, zn) I867 H) → (va_S (zq_A X) s.heap H locs) → (zq_fr (zf X zw_X2_drawYears (fun b => zq_o X b = 201)) I I867) → (0 ≤ j865.toInt ∧ j865.toInt ≤ 10) → (zW X I867 (b) (zq_r X p1 0)) → (lv_has ls 9 [(7, .int j865), (5, .long jl866), (0, .ref h0), (1, .ref p1), (2, va_rf p2), (3, .int p3), (4, .int p4)]) → W p l e R s m args below meth c H locs 0 0 Q (F0 m 22 ls []) := by
    intro n869
    induction n869 with
    | zero => intro I867 H locs ls j865 jl866 mu870 hM hS hR gj865 F868 hl; exfalso; have := zi_rng j865; omega
    | succ n869 ih22 =>
      intro I867 H locs ls j865 jl866 mu870 hM hS hR gj865 F868 hl
      refine lv_iload hx hb dX2_drawYears_22 (lv_at hl 0 rfl) ?_
      refine lv_iload_n hx hb dX2_drawYears_24 rfl (lv_at hl 5 rfl) ?_
      refine lv_icmp_ge (tgt := 121) hx hb dX2_drawYears_25 (by decide) (fun b871 => ?_) (fun b871 => ?_)
      · have b871 := zi_le b871 (rfl : p3.toInt = p3.toInt) (rfl : j865.toInt = j865.toInt)
        subst hQ
        exact zq_vret E hr hZ hM hS hR hlocks dX2_drawYears_121
      · have b871 := zi_nle b871 (rfl : p3.toInt = p3.toInt) (rfl : j865.toInt = j865.toInt)
        refine lv_aload_n hx hb dX2_drawYears_28 rfl (lv_at hl 2 rfl) ?_
        refine zq_getr E hM k_h0 (zFX2_12 E hZ) ⟨by decide, by decide, by decide, rfl⟩ dX2_drawYears_29 ?_
        have k872 : zq_k X (zq_r X h0 0) = 8 := zq_lk L.1 k_h0 rfl (by decide)
        refine lv_aload_n hx hb dX2_drawYears_32 rfl (lv_at hl 3 rfl) ?_
        refine zq_getr E hM k_p1 (zFX2_149 E hZ) ⟨by decide, by decide, by decide, rfl⟩ dX2_drawYears_33 ?_
        have k873 : zq_k X (zq_r X p1 0) = 8 := zq_lk L.1 k_p1 rfl (by decide)
        refine zq_callv (zq_rV (As := [.ref (zq_r X p1 0)]) (rest := []) E hZ hM k872 (c_X10_copyFrom l X zk (zn) I867 L (zq_r X h0 0) k872 (zq_r X p1 0) k873 (fun hq => by have h1 := (L.2.2.2.2.1 _ k_h0); have h2 := (zq_now L k_p1 (q_1)); omega)) zmX2_39 zM_X10_copyFrom (hro (1) 3 (by first | decide | omega) (by decide)) ⟨by decide, by decide⟩ rfl hl.1 rfl rfl (Nat.le_of_ble_eq_true rfl) dX2_drawYears_36) hS (fun I876 H locs h874 hM hS => ?_)
        obtain ⟨fr877, p878⟩ := h874
        have hR := zq_fr.call hR fr877 (zf_sub (by decide +kernel) (fun b _ q => (q.trans ((L.2.2.2.2.1 _ k_h0)))))
        have hW879 := zW.frP F868 L (zq_lk L.1 k_p1 rfl (by decide)) fr877 (fun q hq hp => by have h1 := hq.trans ((zq_now L k_p1 q_1)); have h2 := hp.trans ((L.2.2.2.2.1 _ k_h0)); omega)
        have hW880 := zW.copy F868 p878
        refine lv_iconst (v := 0) hx hb dX2_drawYears_39 (by decide +kernel) ?_
        refine lv_istore (lv' := [(8, .int (0 : Int32)), (7, .int j865), (5, .long jl866), (0, .ref h0), (1, .ref p1), (2, va_rf p2), (3, .int p3), (4, .int p4)]) hx hb dX2_drawYears_40 hl (by decide) rfl (fun ls hl => ?_)
        have J42 : ∀ (n1026 : Nat) (I1023 : zq_M) (H : Heap) (locs : List Loc) (ls : Array Slot) (j1021 : Int32) (jl1022 : Int64), 60 + 1 - j1021.toInt ≤ ((n1026 : Nat) : Int) → (zq_hm X (zk, zn) I1023 H) → (va_S (zq_A X) s.heap H locs) → (zq_fr (zf X zw_X2_drawYears (fun b => zq_o X b = 201)) I I1023) → (0 ≤ j1021.toInt ∧ j1021.toInt ≤ 60) → (zW X I1023 (b) (zq_r X p1 0)) → (zW X I1023 (b + 297 * j1021.toInt) (zq_r X h0 0)) → (lv_has ls 9 [(8, .int j1021), (7, .int j865), (5, .long jl1022), (0, .ref h0), (1, .ref p1), (2, va_rf p2), (3, .int p3), (4, .int p4)]) → W p l e R s m args below meth c H locs 0 0 Q (F0 m 42 ls []) := by
          intro n1026
          induction n1026 with
          | zero => intro I1023 H locs ls j1021 jl1022 mu1027 hM hS hR gj1021 F1024 F1025 hl; exfalso; have := zi_rng j1021; omega
          | succ n1026 ih42 =>
            intro I1023 H locs ls j1021 jl1022 mu1027 hM hS hR gj1021 F1024 F1025 hl
            refine lv_iload hx hb dX2_drawYears_42 (lv_at hl 0 rfl) ?_
            refine lv_iload hx hb dX2_drawYears_44 (lv_at hl 7 rfl) ?_
            refine lv_icmp_ge (tgt := 99) hx hb dX2_drawYears_46 (by decide) (fun b1028 => ?_) (fun b1028 => ?_)
            · have b1028 := zi_le b1028 (rfl : p4.toInt = p4.toInt) (rfl : j1021.toInt = j1021.toInt)
              refine lv_aload_n hx hb dX2_drawYears_99 rfl (lv_at hl 3 rfl) ?_
              refine zq_getr E hM k_h0 (zFX2_18 E hZ) ⟨by decide, by decide, by decide, rfl⟩ dX2_drawYears_100 ?_
              have k1029 : zq_k X (zq_r X h0 1) = 34 := zq_lk L.1 k_h0 rfl (by decide)
              refine lv_iconst (v := 0) hx hb dX2_drawYears_103 (by decide +kernel) ?_
              refine lv_dup2_11 hx hb dX2_drawYears_104 rfl rfl ?_
              refine zq_ian (n := 4) (j := 0) E hZ hM k1029 ⟨by decide, rfl⟩ (by rw [zl_0]; decide) (by decide +kernel) dX2_drawYears_105 (fun x1030 ex1030 gx1030 => ?_)
              clear gx1030
              refine lv_aload_n hx hb dX2_drawYears_106 rfl (lv_at hl 3 rfl) ?_
              refine zq_getr E hM k_h0 (zFX2_12 E hZ) ⟨by decide, by decide, by decide, rfl⟩ dX2_drawYears_107 ?_
              have k1031 : zq_k X (zq_r X h0 0) = 8 := zq_lk L.1 k_h0 rfl (by decide)
              refine zq_gn E hM k1031 (zFX2_47 E hZ) (Or.inl ⟨by decide, by decide, by decide, rfl⟩) dX2_drawYears_110 (fun x1032 ex1032 gx1032 => ?_)
              clear gx1032
              refine lv_iadd hx hb dX2_drawYears_113 ?_
              refine lv_topi (fun x1033 ex1033 => ?_)
              refine W.eq (g2 := F0 m 114 ls [.int x1033, .int (0 : Int32), .ref (zq_r X h0 1)]) rfl ?_
              refine zq_isn (n := 4) (j := 0) E hZ hM hS k1029 ⟨by decide, rfl⟩ (by rw [zl_0]; decide) (by decide +kernel) (zq_any _) dX2_drawYears_114 (fun I1034 H locs eI1034 hM hS => ?_)
              have hR := zq_fr.putE hR eI1034 (zf_ia k1029 (by decide) rfl)
              have hW1035 := zW.put F1024 L (zq_lk L.1 k_p1 rfl (by decide)) eI1034 k1029 (Or.inl ⟨by decide, by decide⟩)
              have hW1036 := zW.put F1025 L k872 eI1034 k1029 (Or.inl ⟨by decide, by decide⟩)
              obtain ⟨x1037, ex1037⟩ : ∃ y : Int32, y = j865 + 1 := ⟨_, rfl⟩
              have tx1037 := zi_add ex1037 (rfl : j865.toInt = j865.toInt) zl_1 ⟨by omega, by omega⟩
              refine lv_iinc (v := x1037) (lv' := [(7, .int x1037), (8, .int j1021), (5, .long jl1022), (0, .ref h0), (1, .ref p1), (2, va_rf p2), (3, .int p3), (4, .int p4)]) hx hb dX2_drawYears_115 hl (k := 1) rfl (by rw [ex1037]; rfl) (by decide) rfl (fun ls hl => ?_)
              refine lv_goto (tgt := 22) hx hb dX2_drawYears_118 (by decide) ?_
              exact ih22 I1034 H locs ls x1037 jl1022 (by omega) hM hS hR (⟨by omega, by omega⟩) hW1035 (lv_sub hl [0, 2, 3, 4, 5, 6, 7] rfl)
            · have b1028 := zi_nle b1028 (rfl : p4.toInt = p4.toInt) (rfl : j1021.toInt = j1021.toInt)
              refine lv_lload hx hb dX2_drawYears_49 (lv_at hl 2 rfl) ?_
              refine W.ldc2 (v := 1103515245) hx hb hown (hts _ (List.mem_cons_of_mem _ zCX2_152)) rfl dX2_drawYears_51 ?_
              refine W.eq (g2 := F0 m 54 ls [.long (1103515245 : Int64), .long jl1022]) rfl ?_
              refine lv_lmul hx hb dX2_drawYears_54 ?_
              refine lv_topl (fun y1038 ey1038 => ?_)
              refine W.ldc2 (v := 12345) hx hb hown (hts _ (List.mem_cons_of_mem _ zCX2_154)) rfl dX2_drawYears_55 ?_
              refine W.eq (g2 := F0 m 58 ls [.long (12345 : Int64), .long y1038]) rfl ?_
              refine lv_ladd hx hb dX2_drawYears_58 ?_
              refine lv_topl (fun y1039 ey1039 => ?_)
              refine W.ldc2 (v := 2147483648) hx hb hown (hts _ (List.mem_cons_of_mem _ zCX2_156)) rfl dX2_drawYears_59 ?_
              refine W.eq (g2 := F0 m 62 ls [.long (2147483648 : Int64), .long y1039]) rfl ?_
              refine lv_lrem hx hb dX2_drawYears_62 (by decide +kernel) ?_
              refine lv_topl (fun y1040 ey1040 => ?_)
              refine lv_lstore (lv' := [(5, .long y1040), (8, .int j1021), (7, .int j865), (0, .ref h0), (1, .ref p1), (2, va_rf p2), (3, .int p3), (4, .int p4)]) hx hb dX2_drawYears_63 hl (by decide) rfl (fun ls hl => ?_)
              refine lv_aload_n hx hb dX2_drawYears_65 rfl (lv_at hl 3 rfl) ?_
              refine W.eq (g2 := F0 m 66 ls [.ref h0]) rfl ?_
              refine zq_getr E hM k_h0 (zFX2_18 E hZ) ⟨by decide, by decide, by decide, rfl⟩ dX2_drawYears_66 ?_
              have k1041 : zq_k X (zq_r X h0 1) = 34 := zq_lk L.1 k_h0 rfl (by decide)
              refine lv_iconst (v := 1) hx hb dX2_drawYears_69 (by decide +kernel) ?_
              refine lv_dup2_11 hx hb dX2_drawYears_70 rfl rfl ?_
              refine zq_ian (n := 4) (j := 1) E hZ hM k1041 ⟨by decide, rfl⟩ (by rw [zl_1]; decide) (by decide +kernel) dX2_drawYears_71 (fun x1042 ex1042 gx1042 => ?_)
              clear gx1042
              refine lv_aload_n hx hb dX2_drawYears_72 rfl (lv_at hl 3 rfl) ?_
              refine zq_getr E hM k_h0 (zFX2_12 E hZ) ⟨by decide, by decide, by decide, rfl⟩ dX2_drawYears_73 ?_
              have k1043 : zq_k X (zq_r X h0 0) = 8 := zq_lk L.1 k_h0 rfl (by decide)
              refine zq_oload_n hx hb dX2_drawYears_76 rfl (lv_at hl 5 rfl) ?_
              refine lv_lload hx hb dX2_drawYears_77 (lv_at hl 0 rfl) ?_
              refine W.ldc2 (v := 65536) hx hb hown (hts _ (List.mem_cons_of_mem _ zCX2_158)) rfl dX2_drawYears_79 ?_
              refine W.eq (g2 := F0 m 82 ls [.long (65536 : Int64), .long y1040, va_rf p2, .ref (zq_r X h0 0), .int x1042, .int (1 : Int32), .ref (zq_r X h0 1)]) rfl ?_
              refine lv_ldiv hx hb dX2_drawYears_82 (by decide +kernel) ?_
              refine lv_topl (fun y1044 ey1044 => ?_)
              refine W.eq (g2 := F0 m 83 ls [.long y1044, va_rf p2, .ref (zq_r X h0 0), .int x1042, .int (1 : Int32), .ref (zq_r X h0 1)]) rfl ?_
              refine W.ldc2 (v := 101) hx hb hown (hts _ (List.mem_cons_of_mem _ zCX2_160)) rfl dX2_drawYears_83 ?_
              refine W.eq (g2 := F0 m 86 ls [.long (101 : Int64), .long y1044, va_rf p2, .ref (zq_r X h0 0), .int x1042, .int (1 : Int32), .ref (zq_r X h0 1)]) rfl ?_
              refine lv_lrem hx hb dX2_drawYears_86 (by decide +kernel) ?_
              refine lv_topl (fun y1045 ey1045 => ?_)
              refine lv_l2i hx hb dX2_drawYears_87 rfl ?_
              refine lv_topi (fun x1046 ex1046 => ?_)
              refine zq_calli (zq_rV (As := [va_rf p2, .int x1046]) (rest := [.int x1042, .int (1 : Int32), .ref (zq_r X h0 1)]) E hZ hM k1043 (c_X10_passMonth l X zk (zn) I1023 L (b + 297 * j1021.toInt) (zq_r X h0 0) k1043 p2 hqp2 x1046 (F1025) (by have := zi_rng x1046; omega)) zmX2_43 zM_X10_passMonth (hro (4) 6 (by first | decide | omega) (by decide)) ⟨by decide, by decide⟩ rfl hl.1 rfl rfl (Nat.le_of_ble_eq_true rfl) dX2_drawYears_88) hS (fun x1048 I1049 H locs h1047 hM hS => ?_)
              obtain ⟨fr1050, p1051⟩ := h1047
              have hR := zq_fr.call hR fr1050 (zf_sub (by decide +kernel) (fun b _ q => (q.trans ((L.2.2.2.2.1 _ k_h0)))))
              have hW1052 := zW.frP F1024 L (zq_lk L.1 k_p1 rfl (by decide)) fr1050 (fun q hq hp => by have h1 := hq.trans ((zq_now L k_p1 q_1)); have h2 := hp.trans ((L.2.2.2.2.1 _ k_h0)); omega)
              refine lv_iadd hx hb dX2_drawYears_91 ?_
              refine lv_topi (fun x1054 ex1054 => ?_)
              refine zq_isn (n := 4) (j := 1) E hZ hM hS k1041 ⟨by decide, rfl⟩ (by rw [zl_1]; decide) (by decide +kernel) (zq_any _) dX2_drawYears_92 (fun I1055 H locs eI1055 hM hS => ?_)
              have hR := zq_fr.putE hR eI1055 (zf_ia k1041 (by decide) rfl)
              have hW1056 := zW.put hW1052 L (zq_lk L.1 k_p1 rfl (by decide)) eI1055 k1041 (Or.inl ⟨by decide, by decide⟩)
              have hW1057 := zW.put p1051 L k872 eI1055 k1041 (Or.inl ⟨by decide, by decide⟩)
              obtain ⟨x1058, ex1058⟩ : ∃ y : Int32, y = j1021 + 1 := ⟨_, rfl⟩
              have tx1058 := zi_add ex1058 (rfl : j1021.toInt = j1021.toInt) zl_1 ⟨by omega, by omega⟩
              refine lv_iinc (v := x1058) (lv' := [(8, .int x1058), (5, .long y1040), (7, .int j865), (0, .ref h0), (1, .ref p1), (2, va_rf p2), (3, .int p3), (4, .int p4)]) hx hb dX2_drawYears_93 hl (k := 1) rfl (by rw [ex1058]; rfl) (by decide) rfl (fun ls hl => ?_)
              refine lv_goto (tgt := 42) hx hb dX2_drawYears_96 (by decide) ?_
              exact ih42 I1055 H locs ls x1058 y1040 (by omega) hM hS hR (⟨by omega, by omega⟩) hW1056 (zW.mono hW1057 (by have := zl_0; omega)) (lv_sub hl [0, 2, 1, 3, 4, 5, 6, 7] rfl)
        exact J42 (60 + 1 - (0 : Int32).toInt).toNat I876 H locs ls (0 : Int32) jl866 (by omega) hM hS hR (by rw [zl_0]; decide) hW879 (zW.mono hW880 (by have := zl_0; omega)) (lv_sub hl [0, 1, 2, 3, 4, 5, 6, 7] rfl)
  exact J22 (10 + 1 - (0 : Int32).toInt).toNat I108 H locs ls (0 : Int32) y112 (by omega) hM hS hR (by rw [zl_0]; decide) hW110 (lv_sub hl [0, 1, 2, 3, 4, 5, 6] rfl)
