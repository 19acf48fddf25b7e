def zw_X0_open : List (Nat × Nat) := [(1, 6), (5, 0), (5, 1), (5, 2), (5, 3), (5, 4), (5, 5), (7, 0), (7, 1), (7, 2), (7, 3), (7, 4), (7, 5), (7, 6), (8, 0), (8, 1), (8, 2), (8, 3), (8, 4), (8, 5), (8, 6), (30, 999)]
set_option maxHeartbeats 8000000 in
set_option maxRecDepth 100000 in
theorem c_X0_open (l : Launch) (X : zq_X) (zk zn : Nat) (I : zq_M) (L : zq_L X) (b : Int) (h0 : Nat) (k_h0 : zq_k X h0 = 1) (p1 : Nat) (k_p1 : zq_k X p1 = 8) (q_0 : zW X I b p1) (q_1 : zq_o X p1 = 200) : Met l yX0_open (zt_w yX0_open cX0_open 2 none) (zq_rm (2)) (va_Pc [.ref h0, .ref p1] (zq_W X (zk, zn) I)) (va_Qv (fun I2 => zq_fr (zf X zw_X0_open (fun b => zq_o X b = 100 + 2 * zq_o X h0 ∨ zq_o X b = 101 + 2 * zq_o X h0)) I I2 ∧ (zW X I2 b (zq_r X h0 0)) ∧ (zW X I2 b (zq_r X h0 1))) (zq_E X (zk, zn)) (zq_A X)) 0 0 (zq_A X) := by
  refine Met.ofW (cc := cX0_open) (maxL := 2) (ret := none) (by decide) rfl ?_
  intro p e s m args below meth c s₁ B hml hv
  obtain ⟨hargs, hM, hZ⟩ := hv
  have hown : s.vm.findClass RX0 = some m.cls := findClass_of_methodNamed B.named
  have hts := atoms_spec (ws := zt_w yX0_open cX0_open 2 none) B.pre
  have E : CallFix p m c cX0_open 2 s args (Cond.code yX0_open cX0_open 2 none :: zt) RX0 := ⟨B.exec, B.bytes, hml, hown, hts⟩
  have hx := B.exec
  have hb := B.bytes
  have hr := B.returns
  have hlocks := B.notSynchronized
  clear B
  have hS : va_S (zq_A X) s.heap s.heap [] := va_S.rf
  have hR : zq_fr (zf X zw_X0_open (fun b => zq_o X b = 100 + 2 * zq_o X h0 ∨ zq_o X b = 101 + 2 * zq_o X h0)) I I := zq_fr.rf
  have hl := lv_entry ([.ref h0, .ref p1]) (n := 2) (by exact Nat.le_of_ble_eq_true rfl)
  have hg : entryFrame m args 2 = F0 m 0 ((lg_sl ([.ref h0, .ref p1]) ++ List.replicate (2 - (lg_sl ([.ref h0, .ref p1])).length) Slot.unset).toArray) [] := by rw [hargs]; exact lg_entry_eq m ([.ref h0, .ref p1]) 2
  rw [hg]
  clear hg hargs
  generalize (lg_sl ([.ref h0, .ref p1]) ++ List.replicate (2 - (lg_sl ([.ref h0, .ref p1])).length) Slot.unset).toArray = ls at hl ⊢
  have hl : lv_has ls 2 [(0, .ref h0), (1, .ref p1)] := by exact hl
  obtain ⟨R, hRm⟩ : ∃ R : Room, R = (headSpec (zt_w yX0_open cX0_open 2 none) (zq_rm (2))).room := ⟨_, rfl⟩
  rw [← hRm]
  have hro : ∀ d q : Nat, d + 1 ≤ 2 → q ≤ 45 → zq_rok d q R := fun d q h1 h2 => by rw [hRm]; exact zq_rokI h1 h2
  generalize hQ : MQ below _ args s 0 0 (zq_A X) = Q
  obtain ⟨H, hH⟩ : ∃ H, H = s.heap := ⟨_, rfl⟩
  obtain ⟨locs, hlo⟩ : ∃ x : List Loc, x = [] := ⟨_, rfl⟩
  rw [show W p l e R s m args below meth c s.heap [] 0 0 Q = W p l e R s m args below meth c H locs 0 0 Q by rw [hH, hlo]]
  have hM : zq_hm X (zk, zn) I H := by rw [hH]; exact hM
  have hS : va_S (zq_A X) s.heap H locs := by rw [hH, hlo]; exact hS
  clear hH hlo
  have hb4 := (L.2.2.1 h0 k_h0).1
  refine lv_aload_n hx hb dX0_open_0 rfl (lv_at hl 0 rfl) ?_
  refine zq_getr E hM k_h0 (zFX0_12 E hZ) ⟨by decide, by decide, by decide, rfl⟩ dX0_open_1 ?_
  have k101 : zq_k X (zq_r X h0 0) = 8 := zq_lk L.1 k_h0 rfl (by decide)
  refine lv_aload_n hx hb dX0_open_4 rfl (lv_at hl 1 rfl) ?_
  refine zq_callv (zq_rV (As := [.ref p1]) (rest := []) E hZ hM k101 (c_X10_copyFrom l X zk (zn) I L (zq_r X h0 0) k101 p1 k_p1 (fun hq => by have h1 := (L.2.2.1 _ k_h0).2.1; have h2 := q_1; omega)) zmX0_32 zM_X10_copyFrom (hro (1) 3 (by first | decide | omega) (by decide)) ⟨by decide, by decide⟩ rfl hl.1 rfl rfl (Nat.le_of_ble_eq_true rfl) dX0_open_5) hS (fun I104 H locs h102 hM hS => ?_)
  obtain ⟨fr105, p106⟩ := h102
  have hR := zq_fr.call hR fr105 (zf_sub (by decide +kernel) (fun b _ q => (Or.inl (q.trans ((L.2.2.1 _ k_h0).2.1)))))
  have hW107 := zW.frP q_0 L k_p1 fr105 (fun q hq hp => by have h1 := hq.trans (q_1); have h2 := hp.trans ((L.2.2.1 _ k_h0).2.1); omega)
  have hW108 := zW.copy q_0 p106
  refine lv_aload_n hx hb dX0_open_8 rfl (lv_at hl 0 rfl) ?_
  refine zq_getr E hM k_h0 (zFX0_18 E hZ) ⟨by decide, by decide, by decide, rfl⟩ dX0_open_9 ?_
  have k109 : zq_k X (zq_r X h0 1) = 8 := zq_lk L.1 k_h0 rfl (by decide)
  refine lv_aload_n hx hb dX0_open_12 rfl (lv_at hl 1 rfl) ?_
  refine zq_callv (zq_rV (As := [.ref p1]) (rest := []) E hZ hM k109 (c_X10_copyFrom l X zk (zn) I104 L (zq_r X h0 1) k109 p1 k_p1 (fun hq => by have h1 := (L.2.2.1 _ k_h0).2.2; have h2 := q_1; omega)) zmX0_32 zM_X10_copyFrom (hro (1) 3 (by first | decide | omega) (by decide)) ⟨by decide, by decide⟩ rfl hl.1 rfl rfl (Nat.le_of_ble_eq_true rfl) dX0_open_13) hS (fun I112 H locs h110 hM hS => ?_)
  obtain ⟨fr113, p114⟩ := h110
  have hR := zq_fr.call hR fr113 (zf_sub (by decide +kernel) (fun b _ q => (Or.inr (q.trans ((L.2.2.1 _ k_h0).2.2)))))
  have hW115 := zW.frP hW107 L k_p1 fr113 (fun q hq hp => by have h1 := hq.trans (q_1); have h2 := hp.trans ((L.2.2.1 _ k_h0).2.2); omega)
  have hW116 := zW.frP hW108 L k101 fr113 (fun q hq hp => by have h1 := hq.trans ((L.2.2.1 _ k_h0).2.1); have h2 := hp.trans ((L.2.2.1 _ k_h0).2.2); omega)
  have hW117 := zW.copy hW107 p114
  refine lv_aload_n hx hb dX0_open_16 rfl (lv_at hl 0 rfl) ?_
  refine W.eq (g2 := F0 m 17 ls [.ref h0]) rfl ?_
  refine lv_iconst (v := 0) hx hb dX0_open_17 (by decide +kernel) ?_
  refine zq_pn E hM hS k_h0 (zGX0_36 E hZ) ⟨by decide, by decide, by decide, rfl⟩ (show 0 ≤ (0 : Int32).toInt ∧ (0 : Int32).toInt ≤ 10 by decide +kernel) dX0_open_18 (fun I118 H locs eI118 hM hS => ?_)
  have hR := zq_fr.putE hR eI118 (zf_i k_h0 rfl rfl)
  have hW119 := zW.put hW115 L k_p1 eI118 k_h0 (Or.inl ⟨by decide, by decide⟩)
  have hW120 := zW.put hW116 L k101 eI118 k_h0 (Or.inl ⟨by decide, by decide⟩)
  have hW121 := zW.put hW117 L k109 eI118 k_h0 (Or.inl ⟨by decide, by decide⟩)
  subst hQ
  exact zq_vret E hr hZ hM hS ⟨hR, (hW120), (hW121)⟩ hlocks dX0_open_21
def zw_X0_addNote : List (Nat × Nat) := [(1, 6), (33, 999)]
set_option maxHeartbeats 8000000 in
set_option maxRecDepth 100000 in
theorem c_X0_addNote (l : Launch) (X : zq_X) (zk zn : Nat) (I : zq_M) (L : zq_L X)  (h0 : Nat) (k_h0 : zq_k X h0 = 1) (p1 : Int32) (p2 : Int32)  : Met l yX0_addNote (zt_w yX0_addNote cX0_addNote 3 none) (zq_rm (0)) (va_Pc [.ref h0, .int p1, .int p2] (zq_W X (zk, zn) I)) (va_Qv (fun I2 => zq_fr (zf X zw_X0_addNote (fun _ => False)) I I2) (zq_E X (zk, zn)) (zq_A X)) 0 0 (zq_A X) := by
  refine Met.ofW (cc := cX0_addNote) (maxL := 3) (ret := none) (by decide) rfl ?_
  intro p e s m args below meth c s₁ B hml hv
  obtain ⟨hargs, hM, hZ⟩ := hv
  have hown : s.vm.findClass RX0 = some m.cls := findClass_of_methodNamed B.named
  have hts := atoms_spec (ws := zt_w yX0_addNote cX0_addNote 3 none) B.pre
  have E : CallFix p m c cX0_addNote 3 s args (Cond.code yX0_addNote cX0_addNote 3 none :: zt) RX0 := ⟨B.exec, B.bytes, hml, hown, hts⟩
  have hx := B.exec
  have hb := B.bytes
  have hr := B.returns
  have hlocks := B.notSynchronized
  clear B
  have hS : va_S (zq_A X) s.heap s.heap [] := va_S.rf
  have hR : zq_fr (zf X zw_X0_addNote (fun _ => False)) I I := zq_fr.rf
  have hl := lv_entry ([.ref h0, .int p1, .int p2]) (n := 3) (by exact Nat.le_of_ble_eq_true rfl)
  have hg : entryFrame m args 3 = F0 m 0 ((lg_sl ([.ref h0, .int p1, .int p2]) ++ List.replicate (3 - (lg_sl ([.ref h0, .int p1, .int p2])).length) Slot.unset).toArray) [] := by rw [hargs]; exact lg_entry_eq m ([.ref h0, .int p1, .int p2]) 3
  rw [hg]
  clear hg hargs
  generalize (lg_sl ([.ref h0, .int p1, .int p2]) ++ List.replicate (3 - (lg_sl ([.ref h0, .int p1, .int p2])).length) Slot.unset).toArray = ls at hl ⊢
  have hl : lv_has ls 3 [(0, .ref h0), (1, .int p1), (2, .int p2)] := by exact hl
  obtain ⟨R, hRm⟩ : ∃ R : Room, R = (headSpec (zt_w yX0_addNote cX0_addNote 3 none) (zq_rm (0))).room := ⟨_, rfl⟩
  rw [← hRm]
  generalize hQ : MQ below _ args s 0 0 (zq_A X) = Q
  obtain ⟨H, hH⟩ : ∃ H, H = s.heap := ⟨_, rfl⟩
  obtain ⟨locs, hlo⟩ : ∃ x : List Loc, x = [] := ⟨_, rfl⟩
  rw [show W p l e R s m args below meth c s.heap [] 0 0 Q = W p l e R s m args below meth c H locs 0 0 Q by rw [hH, hlo]]
  have hM : zq_hm X (zk, zn) I H := by rw [hH]; exact hM
  have hS : va_S (zq_A X) s.heap H locs := by rw [hH, hlo]; exact hS
  clear hH hlo
  refine lv_aload_n hx hb dX0_addNote_0 rfl (lv_at hl 0 rfl) ?_
  refine zq_gn E hM k_h0 (zFX0_36 E hZ) (Or.inl ⟨by decide, by decide, by decide, rfl⟩) dX0_addNote_1 (fun x101 ex101 gx101 => ?_)
  replace gx101 : 0 ≤ x101.toInt ∧ x101.toInt ≤ 10 := gx101
  refine lv_bipush (v := 10) hx hb dX0_addNote_4 (by decide +kernel) ?_
  refine lv_icmp_ge (tgt := 39) hx hb dX0_addNote_6 (by decide) (fun b102 => ?_) (fun b102 => ?_)
  · have b102 := zi_le b102 (zl_10 : (10 : Int32).toInt = 10) (rfl : x101.toInt = x101.toInt)
    subst hQ
    exact zq_vret E hr hZ hM hS hR hlocks dX0_addNote_39
  · have b102 := zi_nle b102 (zl_10 : (10 : Int32).toInt = 10) (rfl : x101.toInt = x101.toInt)
    refine lv_aload_n hx hb dX0_addNote_9 rfl (lv_at hl 0 rfl) ?_
    refine zq_getr E hM k_h0 (zFX0_25 E hZ) ⟨by decide, by decide, by decide, rfl⟩ dX0_addNote_10 ?_
    have k103 : zq_k X (zq_r X h0 4) = 33 := zq_lk L.1 k_h0 rfl (by decide)
    refine lv_aload_n hx hb dX0_addNote_13 rfl (lv_at hl 0 rfl) ?_
    refine zq_gk (v := x101) E hM k_h0 (zFX0_36 E hZ) (Or.inl ⟨by decide, by decide, by decide, rfl⟩) ex101 dX0_addNote_14 ?_
    refine lv_iload_n hx hb dX0_addNote_17 rfl (lv_at hl 1 rfl) ?_
    refine zq_isn (n := 10) (j := (x101.toNatClampNeg)) E hZ hM hS k103 ⟨by decide, rfl⟩ ⟨by omega, by omega⟩ rfl (zq_any _) dX0_addNote_18 (fun I104 H locs eI104 hM hS => ?_)
    have hR := zq_fr.putE hR eI104 (zf_ia k103 (by decide) rfl)
    refine lv_aload_n hx hb dX0_addNote_19 rfl (lv_at hl 0 rfl) ?_
    refine zq_getr E hM k_h0 (zFX0_29 E hZ) ⟨by decide, by decide, by decide, rfl⟩ dX0_addNote_20 ?_
    have k105 : zq_k X (zq_r X h0 5) = 33 := zq_lk L.1 k_h0 rfl (by decide)
    refine lv_aload_n hx hb dX0_addNote_23 rfl (lv_at hl 0 rfl) ?_
    refine W.eq (g2 := F0 m 24 ls [.ref h0, .ref (zq_r X h0 5)]) rfl ?_
    refine zq_gk (v := x101) E hM k_h0 (zFX0_36 E hZ) (Or.inl ⟨by decide, by decide, by decide, rfl⟩) (zq_kp eI104 (Or.inl (zq_kne k_h0 k103 (by decide))) ex101) dX0_addNote_24 ?_
    refine lv_iload_n hx hb dX0_addNote_27 rfl (lv_at hl 2 rfl) ?_
    refine zq_isn (n := 10) (j := (x101.toNatClampNeg)) E hZ hM hS k105 ⟨by decide, rfl⟩ ⟨by omega, by omega⟩ rfl (zq_any _) dX0_addNote_28 (fun I106 H locs eI106 hM hS => ?_)
    have hR := zq_fr.putE hR eI106 (zf_ia k105 (by decide) rfl)
    refine lv_aload_n hx hb dX0_addNote_29 rfl (lv_at hl 0 rfl) ?_
    refine lv_dup hx hb dX0_addNote_30 rfl ?_
    refine zq_gk (v := x101) E hM k_h0 (zFX0_36 E hZ) (Or.inl ⟨by decide, by decide, by decide, rfl⟩) (zq_kp eI106 (Or.inl (zq_kne k_h0 k105 (by decide))) (zq_kp eI104 (Or.inl (zq_kne k_h0 k103 (by decide))) ex101)) dX0_addNote_31 ?_
    refine lv_iconst (v := 1) hx hb dX0_addNote_34 (by decide +kernel) ?_
    refine lv_iadd hx hb dX0_addNote_35 ?_
    refine lv_topi (fun x107 ex107 => ?_)
    have tx107 := zi_add ex107 (rfl : x101.toInt = x101.toInt) (zl_1 : (1 : Int32).toInt = 1) ⟨by omega, by omega⟩
    refine zq_pn E hM hS k_h0 (zGX0_36 E hZ) ⟨by decide, by decide, by decide, rfl⟩ (show 0 ≤ x107.toInt ∧ x107.toInt ≤ 10 from ⟨by omega, by omega⟩) dX0_addNote_36 (fun I108 H locs eI108 hM hS => ?_)
    have hR := zq_fr.putE hR eI108 (zf_i k_h0 rfl rfl)
    subst hQ
    exact zq_vret E hr hZ hM hS hR hlocks dX0_addNote_39
def zw_X0_copyFrom : List (Nat × Nat) := [(1, 2), (1, 3), (1, 6), (5, 0), (5, 1), (5, 2), (5, 3), (5, 4), (5, 5), (7, 0), (7, 1), (7, 2), (7, 3), (7, 4), (7, 5), (7, 6), (8, 0), (8, 1), (8, 2), (8, 3), (8, 4), (8, 5), (8, 6), (30, 999), (33, 999)]
set_option maxHeartbeats 8000000 in
set_option maxRecDepth 100000 in
theorem c_X0_copyFrom (l : Launch) (X : zq_X) (zk zn : Nat) (I : zq_M) (L : zq_L X) (b : Int) (h0 : Nat) (k_h0 : zq_k X h0 = 1) (p1 : Nat) (k_p1 : zq_k X p1 = 1) (q_0 : zW X I b (zq_r X p1 0)) (q_1 : zW X I b (zq_r X p1 1)) (q_2 : ¬ zq_o X h0 = zq_o X p1) : Met l yX0_copyFrom (zt_w yX0_copyFrom cX0_copyFrom 2 none) (zq_rm (2)) (va_Pc [.ref h0, .ref p1] (zq_W X (zk, zn) I)) (va_Qv (fun I2 => zq_fr (zf X zw_X0_copyFrom (fun b => zq_o X b = 100 + 2 * zq_o X h0 ∨ zq_o X b = 101 + 2 * zq_o X h0)) I I2 ∧ (zW X I2 b (zq_r X h0 0)) ∧ (zW X I2 b (zq_r X h0 1)) ∧ (I2 h0 3 = I p1 3) ∧ (∀ a, zq_k X a = 1 → a ≠ h0 → I2 a 3 = I a 3)) (zq_E X (zk, zn)) (zq_A X)) 0 0 (zq_A X) := by
  refine Met.ofW (cc := cX0_copyFrom) (maxL := 2) (ret := none) (by decide) rfl ?_
  intro p e s m args below meth c s₁ B hml hv
  obtain ⟨hargs, hM, hZ⟩ := hv
  have hown : s.vm.findClass RX0 = some m.cls := findClass_of_methodNamed B.named
  have hts := atoms_spec (ws := zt_w yX0_copyFrom cX0_copyFrom 2 none) B.pre
  have E : CallFix p m c cX0_copyFrom 2 s args (Cond.code yX0_copyFrom cX0_copyFrom 2 none :: zt) RX0 := ⟨B.exec, B.bytes, hml, hown, hts⟩
  have hx := B.exec
  have hb := B.bytes
  have hr := B.returns
  have hlocks := B.notSynchronized
  clear B
  have hS : va_S (zq_A X) s.heap s.heap [] := va_S.rf
  have hR : zq_fr (zf X zw_X0_copyFrom (fun b => zq_o X b = 100 + 2 * zq_o X h0 ∨ zq_o X b = 101 + 2 * zq_o X h0)) I I := zq_fr.rf
  have hl := lv_entry ([.ref h0, .ref p1]) (n := 2) (by exact Nat.le_of_ble_eq_true rfl)
  have hg : entryFrame m args 2 = F0 m 0 ((lg_sl ([.ref h0, .ref p1]) ++ List.replicate (2 - (lg_sl ([.ref h0, .ref p1])).length) Slot.unset).toArray) [] := by rw [hargs]; exact lg_entry_eq m ([.ref h0, .ref p1]) 2
  rw [hg]
  clear hg hargs
  generalize (lg_sl ([.ref h0, .ref p1]) ++ List.replicate (2 - (lg_sl ([.ref h0, .ref p1])).length) Slot.unset).toArray = ls at hl ⊢
  have hl : lv_has ls 2 [(0, .ref h0), (1, .ref p1)] := by exact hl
  obtain ⟨R, hRm⟩ : ∃ R : Room, R = (headSpec (zt_w yX0_copyFrom cX0_copyFrom 2 none) (zq_rm (2))).room := ⟨_, rfl⟩
  rw [← hRm]
  have hrn : 1 ≤ R.frames ∧ 64 ≤ R.locals := by rw [hRm]; exact ⟨Nat.le_of_ble_eq_true rfl, Nat.le_of_ble_eq_true rfl⟩
  have hro : ∀ d q : Nat, d + 1 ≤ 2 → q ≤ 45 → zq_rok d q R := fun d q h1 h2 => by rw [hRm]; exact zq_rokI h1 h2
  generalize hQ : MQ below _ args s 0 0 (zq_A X) = Q
  obtain ⟨H, hH⟩ : ∃ H, H = s.heap := ⟨_, rfl⟩
  obtain ⟨locs, hlo⟩ : ∃ x : List Loc, x = [] := ⟨_, rfl⟩
  rw [show W p l e R s m args below meth c s.heap [] 0 0 Q = W p l e R s m args below meth c H locs 0 0 Q by rw [hH, hlo]]
  have hM : zq_hm X (zk, zn) I H := by rw [hH]; exact hM
  have hS : va_S (zq_A X) s.heap H locs := by rw [hH, hlo]; exact hS
  clear hH hlo
  have hb4 := (L.2.2.1 h0 k_h0).1
  have hb5 := (L.2.2.1 p1 k_p1).1
  have hX0 : ∀ a, zq_k X a = 1 → a ≠ h0 → I a 3 = I a 3 := fun _ _ _ => rfl
  refine lv_aload_n hx hb dX0_copyFrom_0 rfl (lv_at hl 0 rfl) ?_
  refine zq_getr E hM k_h0 (zFX0_12 E hZ) ⟨by decide, by decide, by decide, rfl⟩ dX0_copyFrom_1 ?_
  have k101 : zq_k X (zq_r X h0 0) = 8 := zq_lk L.1 k_h0 rfl (by decide)
  refine lv_aload_n hx hb dX0_copyFrom_4 rfl (lv_at hl 1 rfl) ?_
  refine zq_getr E hM k_p1 (zFX0_12 E hZ) ⟨by decide, by decide, by decide, rfl⟩ dX0_copyFrom_5 ?_
  have k102 : zq_k X (zq_r X p1 0) = 8 := zq_lk L.1 k_p1 rfl (by decide)
  refine zq_callv (zq_rV (As := [.ref (zq_r X p1 0)]) (rest := []) E hZ hM k101 (c_X10_copyFrom l X zk (zn) I L (zq_r X h0 0) k101 (zq_r X p1 0) k102 (fun hq => by have h1 := (L.2.2.1 _ k_h0).2.1; have h2 := (L.2.2.1 _ k_p1).2.1; omega)) zmX0_32 zM_X10_copyFrom (hro (1) 3 (by first | decide | omega) (by decide)) ⟨by decide, by decide⟩ rfl hl.1 rfl rfl (Nat.le_of_ble_eq_true rfl) dX0_copyFrom_8) hS (fun I105 H locs h103 hM hS => ?_)
  obtain ⟨fr106, p107⟩ := h103
  have hR := zq_fr.call hR fr106 (zf_sub (by decide +kernel) (fun b _ q => (Or.inl (q.trans ((L.2.2.1 _ k_h0).2.1)))))
  have hW108 := zW.frP q_0 L (zq_lk L.1 k_p1 rfl (by decide)) fr106 (fun q hq hp => by have h1 := hq.trans ((L.2.2.1 p1 k_p1).2.1); have h2 := hp.trans ((L.2.2.1 _ k_h0).2.1); omega)
  have hW109 := zW.frP q_1 L (zq_lk L.1 k_p1 rfl (by decide)) fr106 (fun q hq hp => by have h1 := hq.trans ((L.2.2.1 p1 k_p1).2.2); have h2 := hp.trans ((L.2.2.1 _ k_h0).2.1); omega)
  have hX110 := fun a hk ha => zq_fr.kp fr106 (zf_n hk rfl) (hX0 a hk ha)
  have hW111 := zW.copy q_0 p107
  refine lv_aload_n hx hb dX0_copyFrom_11 rfl (lv_at hl 0 rfl) ?_
  refine zq_getr E hM k_h0 (zFX0_18 E hZ) ⟨by decide, by decide, by decide, rfl⟩ dX0_copyFrom_12 ?_
  have k112 : zq_k X (zq_r X h0 1) = 8 := zq_lk L.1 k_h0 rfl (by decide)
  refine lv_aload_n hx hb dX0_copyFrom_15 rfl (lv_at hl 1 rfl) ?_
  refine zq_getr E hM k_p1 (zFX0_18 E hZ) ⟨by decide, by decide, by decide, rfl⟩ dX0_copyFrom_16 ?_
  have k113 : zq_k X (zq_r X p1 1) = 8 := zq_lk L.1 k_p1 rfl (by decide)
  refine W.eq (g2 := F0 m 19 ls [.ref (zq_r X p1 1), .ref (zq_r X h0 1)]) rfl ?_
  refine zq_callv (zq_rV (As := [.ref (zq_r X p1 1)]) (rest := []) E hZ hM k112 (c_X10_copyFrom l X zk (zn) I105 L (zq_r X h0 1) k112 (zq_r X p1 1) k113 (fun hq => by have h1 := (L.2.2.1 _ k_h0).2.2; have h2 := (L.2.2.1 _ k_p1).2.2; omega)) zmX0_32 zM_X10_copyFrom (hro (1) 3 (by first | decide | omega) (by decide)) ⟨by decide, by decide⟩ rfl hl.1 rfl rfl (Nat.le_of_ble_eq_true rfl) dX0_copyFrom_19) hS (fun I116 H locs h114 hM hS => ?_)
  obtain ⟨fr117, p118⟩ := h114
  have hR := zq_fr.call hR fr117 (zf_sub (by decide +kernel) (fun b _ q => (Or.inr (q.trans ((L.2.2.1 _ k_h0).2.2)))))
  have hW119 := zW.frP hW108 L (zq_lk L.1 k_p1 rfl (by decide)) fr117 (fun q hq hp => by have h1 := hq.trans ((L.2.2.1 p1 k_p1).2.1); have h2 := hp.trans ((L.2.2.1 _ k_h0).2.2); omega)
  have hW120 := zW.frP hW109 L (zq_lk L.1 k_p1 rfl (by decide)) fr117 (fun q hq hp => by have h1 := hq.trans ((L.2.2.1 p1 k_p1).2.2); have h2 := hp.trans ((L.2.2.1 _ k_h0).2.2); omega)
  have hX121 := fun a hk ha => zq_fr.kp fr117 (zf_n hk rfl) (hX110 a hk ha)
  have hW122 := zW.frP hW111 L k101 fr117 (fun q hq hp => by have h1 := hq.trans ((L.2.2.1 _ k_h0).2.1); have h2 := hp.trans ((L.2.2.1 _ k_h0).2.2); omega)
  have hW123 := zW.copy hW109 p118
  refine lv_aload_n hx hb dX0_copyFrom_22 rfl (lv_at hl 0 rfl) ?_
  refine lv_aload_n hx hb dX0_copyFrom_23 rfl (lv_at hl 1 rfl) ?_
  refine zq_gn E hM k_p1 (zFX0_21 E hZ) (Or.inl ⟨by decide, by decide, by decide, rfl⟩) dX0_copyFrom_24 (fun x124 ex124 gx124 => ?_)
  clear gx124
  refine zq_pn E hM hS k_h0 (zGX0_21 E hZ) ⟨by decide, by decide, by decide, rfl⟩ (zq_any _) dX0_copyFrom_27 (fun I125 H locs eI125 hM hS => ?_)
  have hR := zq_fr.putE hR eI125 (zf_i k_h0 rfl rfl)
  have hW126 := zW.put hW119 L (zq_lk L.1 k_p1 rfl (by decide)) eI125 k_h0 (Or.inl ⟨by decide, by decide⟩)
  have hW127 := zW.put hW120 L (zq_lk L.1 k_p1 rfl (by decide)) eI125 k_h0 (Or.inl ⟨by decide, by decide⟩)
  have hX128 := fun a hk ha => zq_kp eI125 (Or.inl ha) (hX121 a hk ha)
  have hW129 := zW.put hW122 L k101 eI125 k_h0 (Or.inl ⟨by decide, by decide⟩)
  have hW130 := zW.put hW123 L k112 eI125 k_h0 (Or.inl ⟨by decide, by decide⟩)
  refine lv_aload_n hx hb dX0_copyFrom_30 rfl (lv_at hl 0 rfl) ?_
  refine lv_aload_n hx hb dX0_copyFrom_31 rfl (lv_at hl 1 rfl) ?_
  refine zq_gn E hM k_p1 (zFX0_39 E hZ) (Or.inl ⟨by decide, by decide, by decide, rfl⟩) dX0_copyFrom_32 (fun x131 ex131 gx131 => ?_)
  clear gx131
  refine zq_pn E hM hS k_h0 (zGX0_39 E hZ) ⟨by decide, by decide, by decide, rfl⟩ (zq_any _) dX0_copyFrom_35 (fun I132 H locs eI132 hM hS => ?_)
  have hR := zq_fr.putE hR eI132 (zf_i k_h0 rfl rfl)
  have hW133 := zW.put hW126 L (zq_lk L.1 k_p1 rfl (by decide)) eI132 k_h0 (Or.inl ⟨by decide, by decide⟩)
  have hW134 := zW.put hW127 L (zq_lk L.1 k_p1 rfl (by decide)) eI132 k_h0 (Or.inl ⟨by decide, by decide⟩)
  have hX135 := fun a hk ha => zq_kp eI132 (Or.inl ha) (hX128 a hk ha)
  have hW136 := zW.put hW129 L k101 eI132 k_h0 (Or.inl ⟨by decide, by decide⟩)
  have hW137 := zW.put hW130 L k112 eI132 k_h0 (Or.inl ⟨by decide, by decide⟩)
  refine lv_aload_n hx hb dX0_copyFrom_38 rfl (lv_at hl 1 rfl) ?_
  refine W.eq (g2 := F0 m 39 ls [.ref p1]) rfl ?_
  refine zq_getr E hM k_p1 (zFX0_25 E hZ) ⟨by decide, by decide, by decide, rfl⟩ dX0_copyFrom_39 ?_
  have k138 : zq_k X (zq_r X p1 4) = 33 := zq_lk L.1 k_p1 rfl (by decide)
  refine lv_iconst (v := 0) hx hb dX0_copyFrom_42 (by decide +kernel) ?_
  refine lv_aload_n hx hb dX0_copyFrom_43 rfl (lv_at hl 0 rfl) ?_
  refine zq_getr E hM k_h0 (zFX0_25 E hZ) ⟨by decide, by decide, by decide, rfl⟩ dX0_copyFrom_44 ?_
  have k139 : zq_k X (zq_r X h0 4) = 33 := zq_lk L.1 k_h0 rfl (by decide)
  refine lv_iconst (v := 0) hx hb dX0_copyFrom_47 (by decide +kernel) ?_
  refine lv_bipush (v := 10) hx hb dX0_copyFrom_48 (by decide +kernel) ?_
  refine zq_copyi (n0 := 10) E hZ hM hS k138 k139 ⟨by decide, rfl⟩ (fun _ => rfl) (by decide +kernel) (by decide +kernel) rfl (List.mem_cons_of_mem _ zt_acl1) (List.mem_cons_of_mem _ zt_acn) (List.mem_cons_of_mem _ zt_acs) (List.mem_cons_of_mem _ zt_aci) hl.1 (hrn).1 (Nat.le_trans (Nat.le_of_ble_eq_true rfl) (hrn).2) dX0_copyFrom_50 (fun I140 H locs cp141 hM hS => ?_)
  have hR := zq_fr.cp hR cp141 k139 (by decide) (fun h => absurd h (by decide))
  have hW142 := zW.cpy hW133 L (zq_lk L.1 k_p1 rfl (by decide)) cp141 k139 (by decide)
  have hW143 := zW.cpy hW134 L (zq_lk L.1 k_p1 rfl (by decide)) cp141 k139 (by decide)
  have hX144 := fun a hk ha => (cp141 a 3 (zq_kne hk k139 (by decide))).trans (hX135 a hk ha)
  have hW145 := zW.cpy hW136 L k101 cp141 k139 (by decide)
  have hW146 := zW.cpy hW137 L k112 cp141 k139 (by decide)
  refine lv_aload_n hx hb dX0_copyFrom_53 rfl (lv_at hl 1 rfl) ?_
  refine zq_getr E hM k_p1 (zFX0_29 E hZ) ⟨by decide, by decide, by decide, rfl⟩ dX0_copyFrom_54 ?_
  have k147 : zq_k X (zq_r X p1 5) = 33 := zq_lk L.1 k_p1 rfl (by decide)
  refine lv_iconst (v := 0) hx hb dX0_copyFrom_57 (by decide +kernel) ?_
  refine W.eq (g2 := F0 m 58 ls [.int (0 : Int32), .ref (zq_r X p1 5)]) rfl ?_
  refine lv_aload_n hx hb dX0_copyFrom_58 rfl (lv_at hl 0 rfl) ?_
  refine zq_getr E hM k_h0 (zFX0_29 E hZ) ⟨by decide, by decide, by decide, rfl⟩ dX0_copyFrom_59 ?_
  have k148 : zq_k X (zq_r X h0 5) = 33 := zq_lk L.1 k_h0 rfl (by decide)
  refine lv_iconst (v := 0) hx hb dX0_copyFrom_62 (by decide +kernel) ?_
  refine lv_bipush (v := 10) hx hb dX0_copyFrom_63 (by decide +kernel) ?_
  refine zq_copyi (n0 := 10) E hZ hM hS k147 k148 ⟨by decide, rfl⟩ (fun _ => rfl) (by decide +kernel) (by decide +kernel) rfl (List.mem_cons_of_mem _ zt_acl1) (List.mem_cons_of_mem _ zt_acn) (List.mem_cons_of_mem _ zt_acs) (List.mem_cons_of_mem _ zt_aci) hl.1 (hrn).1 (Nat.le_trans (Nat.le_of_ble_eq_true rfl) (hrn).2) dX0_copyFrom_65 (fun I149 H locs cp150 hM hS => ?_)
  have hR := zq_fr.cp hR cp150 k148 (by decide) (fun h => absurd h (by decide))
  have hW151 := zW.cpy hW142 L (zq_lk L.1 k_p1 rfl (by decide)) cp150 k148 (by decide)
  have hW152 := zW.cpy hW143 L (zq_lk L.1 k_p1 rfl (by decide)) cp150 k148 (by decide)
  have hX153 := fun a hk ha => (cp150 a 3 (zq_kne hk k148 (by decide))).trans (hX144 a hk ha)
  have hW154 := zW.cpy hW145 L k101 cp150 k148 (by decide)
  have hW155 := zW.cpy hW146 L k112 cp150 k148 (by decide)
  refine lv_aload_n hx hb dX0_copyFrom_68 rfl (lv_at hl 0 rfl) ?_
  refine lv_aload_n hx hb dX0_copyFrom_69 rfl (lv_at hl 1 rfl) ?_
  refine zq_gn E hM k_p1 (zFX0_36 E hZ) (Or.inl ⟨by decide, by decide, by decide, rfl⟩) dX0_copyFrom_70 (fun x156 ex156 gx156 => ?_)
  replace gx156 : 0 ≤ x156.toInt ∧ x156.toInt ≤ 10 := gx156
  refine zq_pn E hM hS k_h0 (zGX0_36 E hZ) ⟨by decide, by decide, by decide, rfl⟩ (show 0 ≤ x156.toInt ∧ x156.toInt ≤ 10 from ⟨by omega, by omega⟩) dX0_copyFrom_73 (fun I157 H locs eI157 hM hS => ?_)
  have hR := zq_fr.putE hR eI157 (zf_i k_h0 rfl rfl)
  have hW158 := zW.put hW151 L (zq_lk L.1 k_p1 rfl (by decide)) eI157 k_h0 (Or.inl ⟨by decide, by decide⟩)
  have hW159 := zW.put hW152 L (zq_lk L.1 k_p1 rfl (by decide)) eI157 k_h0 (Or.inl ⟨by decide, by decide⟩)
  have hX160 := fun a hk ha => zq_kp eI157 (Or.inl ha) (hX153 a hk ha)
  have hW161 := zW.put hW154 L k101 eI157 k_h0 (Or.inl ⟨by decide, by decide⟩)
  have hW162 := zW.put hW155 L k112 eI157 k_h0 (Or.inl ⟨by decide, by decide⟩)
  subst hQ
  exact zq_vret E hr hZ hM hS ⟨hR, (hW161), (hW162), (((zq_kp eI157 (Or.inr (by decide)) ((cp150 _ _ (zq_kne k_h0 k148 (by decide))).trans ((cp141 _ _ (zq_kne k_h0 k139 (by decide))).trans (zq_kv eI132))))).trans ((zq_fr.kb fr106 (zf_n k_p1 rfl) (zq_fr.kb fr117 (zf_n k_p1 rfl) (zq_kb eI125 (Or.inr (by decide)) ex131)))).symm), (hX160)⟩ hlocks dX0_copyFrom_76
