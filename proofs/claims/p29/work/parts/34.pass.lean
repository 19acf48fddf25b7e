def zw_X10_moveShip : List (Nat × Nat) := [(5, 2), (5, 3), (5, 4), (5, 5), (7, 4)]
set_option maxHeartbeats 8000000 in
set_option maxRecDepth 100000 in
theorem c_X10_moveShip (l : Launch) (X : zq_X) (zk zn : Nat) (I : zq_M) (L : zq_L X) (b : Int) (h0 : Nat) (k_h0 : zq_k X h0 = 8) (p1 : Nat) (k_p1 : zq_k X p1 = 5) (q_0 : zW X I b h0) (q_1 : zq_o X p1 = zq_o X h0) (q_2 : 0 ≤ b ∧ b ≤ 999000) : Met l yX10_moveShip (zt_w yX10_moveShip cX10_moveShip 3 none) (zq_rm (1)) (va_Pc [.ref h0, .ref p1] (zq_W X (zk, zn) I)) (va_Qv (fun I2 => zq_fr (zf X zw_X10_moveShip (fun b => zq_o X b = zq_o X h0)) I I2 ∧ (zW X I2 (b + 99) h0)) (zq_E X (zk, zn)) (zq_A X)) 0 0 (zq_A X) := by
  refine Met.ofW (cc := cX10_moveShip) (maxL := 3) (ret := none) (by decide) rfl ?_
  intro p e s m args below meth c s₁ B hml hv
  obtain ⟨hargs, hM, hZ⟩ := hv
  have hown : s.vm.findClass RX10 = some m.cls := findClass_of_methodNamed B.named
  have hts := atoms_spec (ws := zt_w yX10_moveShip cX10_moveShip 3 none) B.pre
  have E : CallFix p m c cX10_moveShip 3 s args (Cond.code yX10_moveShip cX10_moveShip 3 none :: zt) RX10 := ⟨B.exec, B.bytes, hml, hown, hts⟩
  have hx := B.exec
  have hb := B.bytes
  have hr := B.returns
  have hlocks := B.notSynchronized
  clear B
  have hS : va_S (zq_A X) s.heap s.heap [] := va_S.rf
  have hR : zq_fr (zf X zw_X10_moveShip (fun b => zq_o X b = zq_o X h0)) I I := zq_fr.rf
  have hl := lv_entry ([.ref h0, .ref p1]) (n := 3) (by exact Nat.le_of_ble_eq_true rfl)
  have hg : entryFrame m args 3 = F0 m 0 ((lg_sl ([.ref h0, .ref p1]) ++ List.replicate (3 - (lg_sl ([.ref h0, .ref p1])).length) Slot.unset).toArray) [] := by rw [hargs]; exact lg_entry_eq m ([.ref h0, .ref p1]) 3
  rw [hg]
  clear hg hargs
  generalize (lg_sl ([.ref h0, .ref p1]) ++ List.replicate (3 - (lg_sl ([.ref h0, .ref p1])).length) Slot.unset).toArray = ls at hl ⊢
  have hl : lv_has ls 3 [(0, .ref h0), (1, .ref p1)] := by exact hl
  obtain ⟨R, hRm⟩ : ∃ R : Room, R = (headSpec (zt_w yX10_moveShip cX10_moveShip 3 none) (zq_rm (1))).room := ⟨_, rfl⟩
  rw [← hRm]
  have hro : ∀ d q : Nat, d + 1 ≤ 1 → q ≤ 45 → zq_rok d q R := fun d q h1 h2 => by rw [hRm]; exact zq_rokI h1 h2
  generalize hQ : MQ below _ args s 0 0 (zq_A X) = Q
  obtain ⟨H, hH⟩ : ∃ H, H = s.heap := ⟨_, rfl⟩
  obtain ⟨locs, hlo⟩ : ∃ x : List Loc, x = [] := ⟨_, rfl⟩
  rw [show W p l e R s m args below meth c s.heap [] 0 0 Q = W p l e R s m args below meth c H locs 0 0 Q by rw [hH, hlo]]
  have hM : zq_hm X (zk, zn) I H := by rw [hH]; exact hM
  have hS : va_S (zq_A X) s.heap H locs := by rw [hH, hlo]; exact hS
  clear hH hlo
  refine lv_aload_n hx hb dX10_moveShip_0 rfl (lv_at hl 1 rfl) ?_
  refine zq_gn E hM k_p1 (zFX10_72 E hZ) (Or.inl ⟨by decide, by decide, by decide, rfl⟩) dX10_moveShip_1 (fun x101 ex101 gx101 => ?_)
  clear gx101
  refine lv_if_ne (tgt := 8) hx hb dX10_moveShip_4 (by decide) (fun b102 => ?_) (fun b102 => ?_)
  · have b102 := zi_ne b102 (rfl : x101.toInt = x101.toInt) (zl_0 : (0 : Int32).toInt = 0)
    refine lv_aload_n hx hb dX10_moveShip_8 rfl (lv_at hl 1 rfl) ?_
    refine lv_dup hx hb dX10_moveShip_9 rfl ?_
    refine zq_gk (v := x101) E hM k_p1 (zFX10_72 E hZ) (Or.inl ⟨by decide, by decide, by decide, rfl⟩) ex101 dX10_moveShip_10 ?_
    refine lv_iconst (v := 1) hx hb dX10_moveShip_13 (by decide +kernel) ?_
    refine lv_isub hx hb dX10_moveShip_14 ?_
    refine lv_topi (fun x103 ex103 => ?_)
    refine zq_pn E hM hS k_p1 (zGX10_72 E hZ) ⟨by decide, by decide, by decide, rfl⟩ (zq_any _) dX10_moveShip_15 (fun I104 H locs eI104 hM hS => ?_)
    have hR := zq_fr.putE hR eI104 (zf_iw k_p1 rfl (q_1))
    have hW105 := zW.put q_0 L k_h0 eI104 k_p1 (Or.inl ⟨by decide, by decide⟩)
    refine lv_aload_n hx hb dX10_moveShip_18 rfl (lv_at hl 0 rfl) ?_
    refine lv_aload_n hx hb dX10_moveShip_19 rfl (lv_at hl 1 rfl) ?_
    refine zq_gn E hM k_p1 (zFX10_75 E hZ) (Or.inl ⟨by decide, by decide, by decide, rfl⟩) dX10_moveShip_20 (fun x106 ex106 gx106 => ?_)
    clear gx106
    refine W.eq (g2 := F0 m 23 ls [.int x106, .ref h0]) rfl ?_
    refine zq_pcalli (zq_rV (As := [.int x106]) (rest := []) E hZ hM k_h0 (c_X10_hasTown l X zk (zn) I104 L h0 k_h0 x106) zmX10_99 zM_X10_hasTown (hro (0) 2 (by first | decide | omega) (by decide)) ⟨by decide, by decide⟩ rfl hl.1 rfl rfl (Nat.le_of_ble_eq_true rfl) dX10_moveShip_23) hS (fun x108 H locs h107 hM hS => ?_)
    obtain ⟨p109, p110, p111⟩ := h107
    refine lv_if_ne (tgt := 30) hx hb dX10_moveShip_26 (by decide) (fun b112 => ?_) (fun b112 => ?_)
    · have b112 := zi_ne b112 (rfl : x108.toInt = x108.toInt) (zl_0 : (0 : Int32).toInt = 0)
      refine lv_aload_n hx hb dX10_moveShip_30 rfl (lv_at hl 0 rfl) ?_
      refine zq_getr E hM k_h0 (zFX10_23 E hZ) ⟨by decide, by decide, by decide, rfl⟩ dX10_moveShip_31 ?_
      have k113 : zq_k X (zq_r X h0 9) = 32 := zq_lk L.1 k_h0 rfl (by decide)
      refine lv_aload_n hx hb dX10_moveShip_34 rfl (lv_at hl 1 rfl) ?_
      refine zq_gk (v := x106) E hM k_p1 (zFX10_75 E hZ) (Or.inl ⟨by decide, by decide, by decide, rfl⟩) ex106 dX10_moveShip_35 ?_
      refine zq_rald (n := 4) (t := 8) (j := (x106.toNatClampNeg)) E hZ hM k113 ⟨by decide, rfl⟩ ⟨rfl, by decide, by decide⟩ ⟨by omega, by omega⟩ rfl dX10_moveShip_38 ?_
      have k114 : zq_k X (zq_r X (zq_r X h0 9) (x106.toNatClampNeg)) = 7 := zq_lay_a L.1 k113 (n := 4) (zq_inn (i := x106) (n := 4) ⟨by omega, by omega⟩) (by decide) (by decide)
      refine lv_astore_n (lv' := [(2, .ref (zq_r X (zq_r X h0 9) (x106.toNatClampNeg))), (0, .ref h0), (1, .ref p1)]) hx hb dX10_moveShip_39 rfl hl (by decide) rfl (fun ls hl => ?_)
      have hT9 : zT I104 b (zq_r X (zq_r X h0 9) (x106.toNatClampNeg)) := hW105 _ (zq_inn (i := x106) (n := 4) ⟨by omega, by omega⟩) (by have := zq_cl (i := x106) (by omega); omega)
      have hT1 := hT9.1
      refine lv_aload_n hx hb dX10_moveShip_40 rfl (lv_at hl 2 rfl) ?_
      refine lv_aload_n hx hb dX10_moveShip_41 rfl (lv_at hl 2 rfl) ?_
      refine zq_gn E hM k_p1 (zFX10_78 E hZ) (Or.inl ⟨by decide, by decide, by decide, rfl⟩) dX10_moveShip_42 (fun x115 ex115 gx115 => ?_)
      replace gx115 : 0 ≤ x115.toInt ∧ x115.toInt ≤ 99 := gx115
      refine W.eq (g2 := F0 m 45 ls [.int x115, .ref p1]) rfl ?_
      refine lv_aload_n hx hb dX10_moveShip_45 rfl (lv_at hl 0 rfl) ?_
      refine lv_aload_n hx hb dX10_moveShip_46 rfl (lv_at hl 2 rfl) ?_
      refine zq_gn E hM k_p1 (zFX10_113 E hZ) (Or.inr ⟨by decide, by decide, by decide, rfl⟩) dX10_moveShip_47 (fun x116 ex116 gx116 => ?_)
      replace gx116 : 0 ≤ x116.toInt ∧ x116.toInt ≤ 1 := gx116
      refine zq_pcalli (zq_rV (As := [.int x116]) (rest := [.int x115, .ref p1]) E hZ hM k114 (c_X7_heatFor l X zk (zn) I104 L (zq_r X (zq_r X h0 9) (x106.toNatClampNeg)) k114 x116 ⟨by omega, by omega⟩) zmX10_161 zM_X7_heatFor (hro (0) 2 (by first | decide | omega) (by decide)) ⟨by decide, by decide⟩ rfl hl.1 rfl rfl (Nat.le_of_ble_eq_true rfl) dX10_moveShip_50) hS (fun x118 H locs h117 hM hS => ?_)
      obtain ⟨p119, p120⟩ := h117
      refine zq_pcalli (zq_rS (As := [.int x115, .int x118]) (rest := [.ref p1]) E hZ hM (c_X7_melted l X zk (zn) I104 L x115 x118) zmX10_158 zM_X7_melted (hro (0) 2 (by first | decide | omega) (by decide)) hl.1 rfl rfl (Nat.le_of_ble_eq_true rfl) dX10_moveShip_53) hS (fun x122 H locs h121 hM hS => ?_)
      have p123 := h121
      refine zq_pn E hM hS k_p1 (zGX10_78 E hZ) ⟨by decide, by decide, by decide, rfl⟩ (show 0 ≤ x122.toInt ∧ x122.toInt ≤ 99 from ⟨by omega, by omega⟩) dX10_moveShip_56 (fun I124 H locs eI124 hM hS => ?_)
      have hR := zq_fr.putE hR eI124 (zf_iw k_p1 rfl (q_1))
      have hW125 := zW.put hW105 L k_h0 eI124 k_p1 (Or.inl ⟨by decide, by decide⟩)
      have hT126 := zT.put hT9 eI124 (Or.inl (zq_kne k114 k_p1 (by decide)))
      refine lv_aload_n hx hb dX10_moveShip_59 rfl (lv_at hl 2 rfl) ?_
      refine zq_gk (v := x103) E hM k_p1 (zFX10_72 E hZ) (Or.inl ⟨by decide, by decide, by decide, rfl⟩) (zq_kp eI124 (Or.inr (by decide)) (zq_kv eI104)) dX10_moveShip_60 ?_
      refine lv_if_ne (tgt := 91) hx hb dX10_moveShip_63 (by decide) (fun b127 => ?_) (fun b127 => ?_)
      · have b127 := zi_ne b127 (rfl : x103.toInt = x103.toInt) (zl_0 : (0 : Int32).toInt = 0)
        subst hQ
        exact zq_vret E hr hZ hM hS ⟨hR, ((zW.mono hW125 (by have := zl_0; omega)))⟩ hlocks dX10_moveShip_91
      · have b127 := zi_eq b127 (rfl : x103.toInt = x103.toInt) (zl_0 : (0 : Int32).toInt = 0)
        refine lv_aload_n hx hb dX10_moveShip_66 rfl (lv_at hl 0 rfl) ?_
        refine lv_dup hx hb dX10_moveShip_67 rfl ?_
        refine zq_gn E hM k114 (zFX10_120 E hZ) (Or.inl ⟨by decide, by decide, by decide, rfl⟩) dX10_moveShip_68 (fun x128 ex128 gx128 => ?_)
        clear gx128
        have fx128 := zT.r4 hT126 ex128
        refine lv_aload_n hx hb dX10_moveShip_71 rfl (lv_at hl 2 rfl) ?_
        refine zq_gk (v := x122) E hM k_p1 (zFX10_78 E hZ) (Or.inl ⟨by decide, by decide, by decide, rfl⟩) (zq_kv eI124) dX10_moveShip_72 ?_
        refine lv_iadd hx hb dX10_moveShip_75 ?_
        refine lv_topi (fun x129 ex129 => ?_)
        have tx129 := zi_add ex129 (rfl : x128.toInt = x128.toInt) (rfl : x122.toInt = x122.toInt) ⟨by omega, by omega⟩
        refine zq_pn E hM hS k114 (zGX10_120 E hZ) ⟨by decide, by decide, by decide, rfl⟩ (zq_any _) dX10_moveShip_76 (fun I130 H locs eI130 hM hS => ?_)
        have hR := zq_fr.putE hR eI130 (zf_iw k114 rfl (((zq_own_a L.2.1 k113 (n := 4) (zq_inn (i := x106) (n := 4) ⟨by omega, by omega⟩) (by decide)).trans (((L.2.1 _ _ _ k_h0 (by decide) rfl).trans ((rfl : zq_o X h0 = zq_o X h0)))))))
        have hW131 := zW.putS (b2 := b + 99) hW125 L k_h0 (zq_inn (i := x106) (n := 4) ⟨by omega, by omega⟩) eI130 ⟨by omega, by omega⟩ (by omega)
        have hT132 := zT.put4 (b2 := b + 99) hT126 eI130 ⟨by omega, by omega⟩
        refine lv_aload_n hx hb dX10_moveShip_79 rfl (lv_at hl 2 rfl) ?_
        refine zq_callv (zq_rV (As := []) (rest := []) E hZ hM k_p1 (c_X5_unload l X zk (zn) I130 L p1 k_p1) zmX10_165 zM_X5_unload (hro (0) 1 (by first | decide | omega) (by decide)) ⟨by decide, by decide⟩ rfl hl.1 rfl rfl (Nat.le_of_ble_eq_true rfl) dX10_moveShip_80) hS (fun I135 H locs h133 hM hS => ?_)
        have fr136 := h133
        have hR := zq_fr.call hR fr136 (zf_sub (by decide +kernel) (fun b _ q => (by rw [q]; exact q_1)))
        have hW137 := zW.frL hW131 L k_h0 fr136 rfl rfl
        have hT138 := zT.fr hT132 fr136 k114 rfl
        refine W.eq (g2 := F0 m 83 ls []) rfl ?_
        refine lv_aload_n hx hb dX10_moveShip_83 rfl (lv_at hl 2 rfl) ?_
        refine lv_aload_n hx hb dX10_moveShip_84 rfl (lv_at hl 0 rfl) ?_
        refine zq_gn E hM k114 (zFX10_110 E hZ) (Or.inl ⟨by decide, by decide, by decide, rfl⟩) dX10_moveShip_85 (fun x139 ex139 gx139 => ?_)
        replace gx139 : (-1) ≤ x139.toInt ∧ x139.toInt ≤ 6 := gx139
        refine zq_pn E hM hS k_p1 (zGX10_72 E hZ) ⟨by decide, by decide, by decide, rfl⟩ (zq_any _) dX10_moveShip_88 (fun I140 H locs eI140 hM hS => ?_)
        have hR := zq_fr.putE hR eI140 (zf_iw k_p1 rfl (q_1))
        have hW141 := zW.put hW137 L k_h0 eI140 k_p1 (Or.inl ⟨by decide, by decide⟩)
        have hT142 := zT.put hT138 eI140 (Or.inl (zq_kne k114 k_p1 (by decide)))
        subst hQ
        exact zq_vret E hr hZ hM hS ⟨hR, (hW141)⟩ hlocks dX10_moveShip_91
    · have b112 := zi_eq b112 (rfl : x108.toInt = x108.toInt) (zl_0 : (0 : Int32).toInt = 0)
      subst hQ
      exact zq_vret E hr hZ hM hS ⟨hR, ((zW.mono hW105 (by have := zl_0; omega)))⟩ hlocks dX10_moveShip_29
  · have b102 := zi_eq b102 (rfl : x101.toInt = x101.toInt) (zl_0 : (0 : Int32).toInt = 0)
    subst hQ
    exact zq_vret E hr hZ hM hS ⟨hR, ((zW.mono q_0 (by have := zl_0; omega)))⟩ hlocks dX10_moveShip_7
def zw_X10_passMonth : List (Nat × Nat) := [(5, 2), (5, 3), (5, 4), (5, 5), (7, 2), (7, 4), (7, 6), (8, 1), (8, 3), (8, 4)]
set_option maxHeartbeats 8000000 in
set_option maxRecDepth 100000 in
theorem c_X10_passMonth (l : Launch) (X : zq_X) (zk zn : Nat) (I : zq_M) (L : zq_L X) (b : Int) (h0 : Nat) (k_h0 : zq_k X h0 = 8) (p1 : Option Nat) (hqp1 : p1 = none ∨ ∃ q, p1 = some q ∧ zq_k X q = 4) (p2 : Int32) (q_0 : zW X I b h0) (q_1 : 0 ≤ b ∧ b ≤ 900000) : Met l yX10_passMonth (zt_w yX10_passMonth cX10_passMonth 6 (some .int)) (zq_rm (4)) (va_Pc [.ref h0, va_rf p1, .int p2] (zq_W X (zk, zn) I)) (va_Qi (fun (r : Int32) I2 => zq_fr (zf X zw_X10_passMonth (fun b => zq_o X b = zq_o X h0)) I I2 ∧ (zW X I2 (b + 297) h0)) (zq_E X (zk, zn)) (zq_A X)) 0 0 (zq_A X) := by
  refine Met.ofW (cc := cX10_passMonth) (maxL := 6) (ret := (some .int)) (by decide) rfl ?_
  intro p e s m args below meth c s₁ B hml hv
  obtain ⟨hargs, hM, hZ⟩ := hv
  have hown : s.vm.findClass RX10 = some m.cls := findClass_of_methodNamed B.named
  have hts := atoms_spec (ws := zt_w yX10_passMonth cX10_passMonth 6 (some .int)) B.pre
  have E : CallFix p m c cX10_passMonth 6 s args (Cond.code yX10_passMonth cX10_passMonth 6 (some .int) :: zt) RX10 := ⟨B.exec, B.bytes, hml, hown, hts⟩
  have hx := B.exec
  have hb := B.bytes
  have hr := B.returns
  have hlocks := B.notSynchronized
  clear B
  have hS : va_S (zq_A X) s.heap s.heap [] := va_S.rf
  have hR : zq_fr (zf X zw_X10_passMonth (fun b => zq_o X b = zq_o X h0)) I I := zq_fr.rf
  have hl := lv_entry ([.ref h0, va_rf p1, .int p2]) (n := 6) (by cases p1 <;> exact Nat.le_of_ble_eq_true rfl)
  have hg : entryFrame m args 6 = F0 m 0 ((lg_sl ([.ref h0, va_rf p1, .int p2]) ++ List.replicate (6 - (lg_sl ([.ref h0, va_rf p1, .int p2])).length) Slot.unset).toArray) [] := by rw [hargs]; exact lg_entry_eq m ([.ref h0, va_rf p1, .int p2]) 6
  rw [hg]
  clear hg hargs
  generalize (lg_sl ([.ref h0, va_rf p1, .int p2]) ++ List.replicate (6 - (lg_sl ([.ref h0, va_rf p1, .int p2])).length) Slot.unset).toArray = ls at hl ⊢
  have hl : lv_has ls 6 [(0, .ref h0), (1, va_rf p1), (2, .int p2)] := by cases p1 <;> exact hl
  obtain ⟨R, hRm⟩ : ∃ R : Room, R = (headSpec (zt_w yX10_passMonth cX10_passMonth 6 (some .int)) (zq_rm (4))).room := ⟨_, rfl⟩
  rw [← hRm]
  have hro : ∀ d q : Nat, d + 1 ≤ 4 → q ≤ 45 → zq_rok d q R := fun d q h1 h2 => by rw [hRm]; exact zq_rokI h1 h2
  generalize hQ : MQ below _ args s 0 0 (zq_A X) = Q
  obtain ⟨H, hH⟩ : ∃ H, H = s.heap := ⟨_, rfl⟩
  obtain ⟨locs, hlo⟩ : ∃ x : List Loc, x = [] := ⟨_, rfl⟩
  rw [show W p l e R s m args below meth c s.heap [] 0 0 Q = W p l e R s m args below meth c H locs 0 0 Q by rw [hH, hlo]]
  have hM : zq_hm X (zk, zn) I H := by rw [hH]; exact hM
  have hS : va_S (zq_A X) s.heap H locs := by rw [hH, hlo]; exact hS
  clear hH hlo
  refine lv_iconst (v := 0) hx hb dX10_passMonth_0 (by decide +kernel) ?_
  refine lv_istore_n (lv' := [(3, .int (0 : Int32)), (0, .ref h0), (1, va_rf p1), (2, .int p2)]) hx hb dX10_passMonth_1 rfl hl (by decide) rfl (fun ls hl => ?_)
  have J2 : ∀ (n5416 : Nat) (I5414 : zq_M) (H : Heap) (locs : List Loc) (ls : Array Slot) (j5413 : Int32), 3 + 1 - j5413.toInt ≤ ((n5416 : Nat) : Int) → (zq_hm X (zk, zn) I5414 H) → (va_S (zq_A X) s.heap H locs) → (zq_fr (zf X zw_X10_passMonth (fun b => zq_o X b = zq_o X h0)) I I5414) → (0 ≤ j5413.toInt ∧ j5413.toInt ≤ 3) → (zW X I5414 (b) h0) → (lv_has ls 6 [(3, .int j5413), (0, .ref h0), (1, va_rf p1), (2, .int p2)]) → W p l e R s m args below meth c H locs 0 0 Q (F0 m 2 ls []) := by
    intro n5416
    induction n5416 with
    | zero => intro I5414 H locs ls j5413 mu5417 hM hS hR gj5413 F5415 hl; exfalso; have := zi_rng j5413; omega
    | succ n5416 ih2 =>
      intro I5414 H locs ls j5413 mu5417 hM hS hR gj5413 F5415 hl
      refine zq_oload_n hx hb dX10_passMonth_2 rfl (lv_at hl 2 rfl) ?_
      have J34 : ∀ (ls : Array Slot), (lv_has ls 6 [(3, .int j5413), (0, .ref h0), (1, va_rf p1), (2, .int p2)]) → W p l e R s m args below meth c H locs 0 0 Q (F0 m 34 ls []) := by
        intro ls hl
        refine lv_aload_n hx hb dX10_passMonth_34 rfl (lv_at hl 1 rfl) ?_
        refine lv_iload_n hx hb dX10_passMonth_35 rfl (lv_at hl 3 rfl) ?_
        refine zq_callv (zq_rV (As := [.int p2]) (rest := []) E hZ hM k_h0 (c_X10_growPond l X zk (zn) I5414 L h0 k_h0 p2) zmX10_127 zM_X10_growPond (hro (1) 3 (by first | decide | omega) (by decide)) ⟨by decide, by decide⟩ rfl hl.1 rfl rfl (Nat.le_of_ble_eq_true rfl) dX10_passMonth_36) hS (fun I6745 H locs h6743 hM hS => ?_)
        have fr6746 := h6743
        have hR := zq_fr.call hR fr6746 (zf_sub (by decide +kernel) (fun b _ q => q))
        have hW6747 := zW.frL F5415 L k_h0 fr6746 rfl rfl
        refine lv_iconst (v := 0) hx hb dX10_passMonth_39 (by decide +kernel) ?_
        refine lv_istore_n (lv' := [(3, .int (0 : Int32)), (0, .ref h0), (1, va_rf p1), (2, .int p2)]) hx hb dX10_passMonth_40 rfl hl (by decide) rfl (fun ls hl => ?_)
        have J41 : ∀ (n7795 : Nat) (I7793 : zq_M) (H : Heap) (locs : List Loc) (ls : Array Slot) (j7792 : Int32), 3 + 1 - j7792.toInt ≤ ((n7795 : Nat) : Int) → (zq_hm X (zk, zn) I7793 H) → (va_S (zq_A X) s.heap H locs) → (zq_fr (zf X zw_X10_passMonth (fun b => zq_o X b = zq_o X h0)) I I7793) → (0 ≤ j7792.toInt ∧ j7792.toInt ≤ 3) → (zW X I7793 (b + 99 * j7792.toInt) h0) → (lv_has ls 6 [(3, .int j7792), (0, .ref h0), (1, va_rf p1), (2, .int p2)]) → W p l e R s m args below meth c H locs 0 0 Q (F0 m 41 ls []) := by
          intro n7795
          induction n7795 with
          | zero => intro I7793 H locs ls j7792 mu7796 hM hS hR gj7792 F7794 hl; exfalso; have := zi_rng j7792; omega
          | succ n7795 ih41 =>
            intro I7793 H locs ls j7792 mu7796 hM hS hR gj7792 F7794 hl
            refine lv_iload_n hx hb dX10_passMonth_41 rfl (lv_at hl 0 rfl) ?_
            refine lv_aload_n hx hb dX10_passMonth_42 rfl (lv_at hl 1 rfl) ?_
            refine zq_gn E hM k_h0 (zFX10_46 E hZ) (Or.inl ⟨by decide, by decide, by decide, rfl⟩) dX10_passMonth_43 (fun x7797 ex7797 gx7797 => ?_)
            replace gx7797 : 0 ≤ x7797.toInt ∧ x7797.toInt ≤ 3 := gx7797
            refine lv_icmp_ge (tgt := 65) hx hb dX10_passMonth_46 (by decide) (fun b7798 => ?_) (fun b7798 => ?_)
            · have b7798 := zi_le b7798 (rfl : x7797.toInt = x7797.toInt) (rfl : j7792.toInt = j7792.toInt)
              refine lv_iconst (v := 0) hx hb dX10_passMonth_65 (by decide +kernel) ?_
              refine lv_istore_n (lv' := [(3, .int (0 : Int32)), (0, .ref h0), (1, va_rf p1), (2, .int p2)]) hx hb dX10_passMonth_66 rfl hl (by decide) rfl (fun ls hl => ?_)
              refine lv_iconst (v := 0) hx hb dX10_passMonth_67 (by decide +kernel) ?_
              refine lv_istore (lv' := [(4, .int (0 : Int32)), (3, .int (0 : Int32)), (0, .ref h0), (1, va_rf p1), (2, .int p2)]) hx hb dX10_passMonth_68 hl (by decide) rfl (fun ls hl => ?_)
              have J70 : ∀ (n8020 : Nat) (I8018 : zq_M) (H : Heap) (locs : List Loc) (ls : Array Slot) (j8016 : Int32) (j8017 : Int32), 4 + 1 - j8016.toInt ≤ ((n8020 : Nat) : Int) → (zq_hm X (zk, zn) I8018 H) → (va_S (zq_A X) s.heap H locs) → (zq_fr (zf X zw_X10_passMonth (fun b => zq_o X b = zq_o X h0)) I I8018) → (0 ≤ j8016.toInt ∧ j8016.toInt ≤ 4) → (zW X I8018 (b + 297) h0) → (lv_has ls 6 [(4, .int j8016), (3, .int j8017), (0, .ref h0), (1, va_rf p1), (2, .int p2)]) → W p l e R s m args below meth c H locs 0 0 Q (F0 m 70 ls []) := by
                intro n8020
                induction n8020 with
                | zero => intro I8018 H locs ls j8016 j8017 mu8021 hM hS hR gj8016 F8019 hl; exfalso; have := zi_rng j8016; omega
                | succ n8020 ih70 =>
                  intro I8018 H locs ls j8016 j8017 mu8021 hM hS hR gj8016 F8019 hl
                  refine lv_iload hx hb dX10_passMonth_70 (lv_at hl 0 rfl) ?_
                  refine lv_aload_n hx hb dX10_passMonth_72 rfl (lv_at hl 2 rfl) ?_
                  refine zq_gn E hM k_h0 (zFX10_49 E hZ) (Or.inl ⟨by decide, by decide, by decide, rfl⟩) dX10_passMonth_73 (fun x8022 ex8022 gx8022 => ?_)
                  replace gx8022 : 0 ≤ x8022.toInt ∧ x8022.toInt ≤ 4 := gx8022
                  refine lv_icmp_ge (tgt := 129) hx hb dX10_passMonth_76 (by decide) (fun b8023 => ?_) (fun b8023 => ?_)
                  · have b8023 := zi_le b8023 (rfl : x8022.toInt = x8022.toInt) (rfl : j8016.toInt = j8016.toInt)
                    refine lv_aload_n hx hb dX10_passMonth_129 rfl (lv_at hl 2 rfl) ?_
                    refine lv_dup hx hb dX10_passMonth_130 rfl ?_
                    refine zq_gn E hM k_h0 (zFX10_43 E hZ) (Or.inl ⟨by decide, by decide, by decide, rfl⟩) dX10_passMonth_131 (fun x8024 ex8024 gx8024 => ?_)
                    clear gx8024
                    refine lv_iconst (v := 1) hx hb dX10_passMonth_134 (by decide +kernel) ?_
                    refine lv_iadd hx hb dX10_passMonth_135 ?_
                    refine lv_topi (fun x8025 ex8025 => ?_)
                    refine zq_pn E hM hS k_h0 (zGX10_43 E hZ) ⟨by decide, by decide, by decide, rfl⟩ (zq_any _) dX10_passMonth_136 (fun I8026 H locs eI8026 hM hS => ?_)
                    have hR := zq_fr.putE hR eI8026 (zf_iw k_h0 rfl ((rfl : zq_o X h0 = zq_o X h0)))
                    have hW8027 := zW.put F8019 L k_h0 eI8026 k_h0 (Or.inr (Or.inr ⟨rfl, by decide⟩))
                    refine lv_iload_n hx hb dX10_passMonth_139 rfl (lv_at hl 1 rfl) ?_
                    subst hQ
                    exact zq_iret E hr hZ hM hS ⟨hR, (hW8027)⟩ hlocks dX10_passMonth_140
                  · have b8023 := zi_nle b8023 (rfl : x8022.toInt = x8022.toInt) (rfl : j8016.toInt = j8016.toInt)
                    refine lv_aload_n hx hb dX10_passMonth_79 rfl (lv_at hl 2 rfl) ?_
                    refine zq_getr E hM k_h0 (zFX10_23 E hZ) ⟨by decide, by decide, by decide, rfl⟩ dX10_passMonth_80 ?_
                    have k8028 : zq_k X (zq_r X h0 9) = 32 := zq_lk L.1 k_h0 rfl (by decide)
                    refine lv_iload hx hb dX10_passMonth_83 (lv_at hl 0 rfl) ?_
                    refine zq_rald (n := 4) (t := 8) (j := (j8016.toNatClampNeg)) E hZ hM k8028 ⟨by decide, rfl⟩ ⟨rfl, by decide, by decide⟩ ⟨by omega, by omega⟩ rfl dX10_passMonth_85 ?_
                    have k8029 : zq_k X (zq_r X (zq_r X h0 9) (j8016.toNatClampNeg)) = 7 := zq_lay_a L.1 k8028 (n := 4) (zq_inn (i := j8016) (n := 4) ⟨by omega, by omega⟩) (by decide) (by decide)
                    refine zq_calli (zq_rV (As := []) (rest := []) E hZ hM k8029 (c_X7_sellMonth l X zk (zn) I8018 L (b + 297) (zq_r X (zq_r X h0 9) (j8016.toNatClampNeg)) k8029 (zW.town F8019 ex8022 (by omega) (by omega) (by omega)) (by omega)) zmX10_134 zM_X7_sellMonth (hro (1) 3 (by first | decide | omega) (by decide)) ⟨by decide, by decide⟩ rfl hl.1 rfl rfl (Nat.le_of_ble_eq_true rfl) dX10_passMonth_86) hS (fun x8031 I8032 H locs h8030 hM hS => ?_)
                    obtain ⟨fr8033, p8034, p8035⟩ := h8030
                    have hR := zq_fr.call hR fr8033 (zf_sub (by decide +kernel) (fun b _ q => (by rw [q]; exact ((zq_own_a L.2.1 k8028 (n := 4) (zq_inn (i := j8016) (n := 4) ⟨by omega, by omega⟩) (by decide)).trans (((L.2.1 _ _ _ k_h0 (by decide) rfl).trans ((rfl : zq_o X h0 = zq_o X h0))))))))
                    have hW8036 := zW.one (b2 := b + 297) F8019 L k_h0 (zq_inn (i := j8016) (n := 4) ⟨by omega, by omega⟩) fr8033 (Int.le_refl _) p8034
                    refine lv_istore (lv' := [(5, .int x8031), (4, .int j8016), (3, .int j8017), (0, .ref h0), (1, va_rf p1), (2, .int p2)]) hx hb dX10_passMonth_89 hl (by decide) rfl (fun ls hl => ?_)
                    refine lv_aload_n hx hb dX10_passMonth_91 rfl (lv_at hl 3 rfl) ?_
                    refine W.ldc (v := 99999) hx hb hown (hts _ (List.mem_cons_of_mem _ zCX10_138)) rfl dX10_passMonth_92 ?_
                    refine W.eq (g2 := F0 m 94 ls [.int (99999 : Int32), .ref h0]) rfl ?_
                    refine lv_aload_n hx hb dX10_passMonth_94 rfl (lv_at hl 3 rfl) ?_
                    refine W.eq (g2 := F0 m 95 ls [.ref h0, .int (99999 : Int32), .ref h0]) rfl ?_
                    refine zq_gn E hM k_h0 (zFX10_33 E hZ) (Or.inl ⟨by decide, by decide, by decide, rfl⟩) dX10_passMonth_95 (fun x8037 ex8037 gx8037 => ?_)
                    clear gx8037
                    refine lv_iload hx hb dX10_passMonth_98 (lv_at hl 0 rfl) ?_
                    refine lv_aload_n hx hb dX10_passMonth_100 rfl (lv_at hl 3 rfl) ?_
                    refine zq_getr E hM k_h0 (zFX10_23 E hZ) ⟨by decide, by decide, by decide, rfl⟩ dX10_passMonth_101 ?_
                    have k8038 : zq_k X (zq_r X h0 9) = 32 := zq_lk L.1 k_h0 rfl (by decide)
                    refine lv_iload hx hb dX10_passMonth_104 (lv_at hl 1 rfl) ?_
                    refine zq_rald (n := 4) (t := 8) (j := (j8016.toNatClampNeg)) E hZ hM k8038 ⟨by decide, rfl⟩ ⟨rfl, by decide, by decide⟩ ⟨by omega, by omega⟩ rfl dX10_passMonth_106 ?_
                    have k8039 : zq_k X (zq_r X (zq_r X h0 9) (j8016.toNatClampNeg)) = 7 := zq_lay_a L.1 k8038 (n := 4) (zq_inn (i := j8016) (n := 4) ⟨by omega, by omega⟩) (by decide) (by decide)
                    refine zq_gn E hM k8039 (zFX10_139 E hZ) (Or.inl ⟨by decide, by decide, by decide, rfl⟩) dX10_passMonth_107 (fun x8040 ex8040 gx8040 => ?_)
                    replace gx8040 : (-1) ≤ x8040.toInt ∧ x8040.toInt ≤ 99 := gx8040
                    refine lv_imul hx hb dX10_passMonth_110 ?_
                    refine lv_topi (fun x8041 ex8041 => ?_)
                    refine lv_iadd hx hb dX10_passMonth_111 ?_
                    refine lv_topi (fun x8042 ex8042 => ?_)
                    refine zq_pcalli (zq_rS (As := [.int (99999 : Int32), .int x8042]) (rest := [.ref h0]) E hZ hM (c_J9_min_7cf53 l X zk (zn) I8032 L (99999 : Int32) x8042) zmX10_93 zM_J9_min_7cf53 (hro (0) 2 (by first | decide | omega) (by decide)) hl.1 rfl rfl (Nat.le_of_ble_eq_true rfl) dX10_passMonth_112) hS (fun x8044 H locs h8043 hM hS => ?_)
                    have p8045 := h8043
                    have := zl_99999
                    refine W.eq (g2 := F0 m 115 ls [.int x8044, .ref h0]) rfl ?_
                    refine zq_pn E hM hS k_h0 (zGX10_33 E hZ) ⟨by decide, by decide, by decide, rfl⟩ (zq_any _) dX10_passMonth_115 (fun I8046 H locs eI8046 hM hS => ?_)
                    have hR := zq_fr.putE hR eI8046 (zf_iw k_h0 rfl ((rfl : zq_o X h0 = zq_o X h0)))
                    have hW8047 := zW.put hW8036 L k_h0 eI8046 k_h0 (Or.inr (Or.inr ⟨rfl, by decide⟩))
                    refine lv_iload_n hx hb dX10_passMonth_118 rfl (lv_at hl 2 rfl) ?_
                    refine lv_iload hx hb dX10_passMonth_119 (lv_at hl 0 rfl) ?_
                    refine lv_iadd hx hb dX10_passMonth_121 ?_
                    refine lv_topi (fun x8048 ex8048 => ?_)
                    refine lv_istore_n (lv' := [(3, .int x8048), (5, .int x8031), (4, .int j8016), (0, .ref h0), (1, va_rf p1), (2, .int p2)]) hx hb dX10_passMonth_122 rfl hl (by decide) rfl (fun ls hl => ?_)
                    obtain ⟨x8049, ex8049⟩ : ∃ y : Int32, y = j8016 + 1 := ⟨_, rfl⟩
                    have tx8049 := zi_add ex8049 (rfl : j8016.toInt = j8016.toInt) zl_1 ⟨by omega, by omega⟩
                    refine lv_iinc (v := x8049) (lv' := [(4, .int x8049), (3, .int x8048), (5, .int x8031), (0, .ref h0), (1, va_rf p1), (2, .int p2)]) hx hb dX10_passMonth_123 hl (k := 2) rfl (by rw [ex8049]; rfl) (by decide) rfl (fun ls hl => ?_)
                    refine lv_goto (tgt := 70) hx hb dX10_passMonth_126 (by decide) ?_
                    exact ih70 I8046 H locs ls x8049 x8048 (by omega) hM hS hR (⟨by omega, by omega⟩) hW8047 (lv_sub hl [0, 1, 3, 4, 5] rfl)
              exact J70 (4 + 1 - (0 : Int32).toInt).toNat I7793 H locs ls (0 : Int32) (0 : Int32) (by omega) hM hS hR (by rw [zl_0]; decide) (zW.mono F7794 (by have := zl_0; omega)) (lv_sub hl [0, 1, 2, 3, 4] rfl)
            · have b7798 := zi_nle b7798 (rfl : x7797.toInt = x7797.toInt) (rfl : j7792.toInt = j7792.toInt)
              refine lv_aload_n hx hb dX10_passMonth_49 rfl (lv_at hl 1 rfl) ?_
              refine lv_aload_n hx hb dX10_passMonth_50 rfl (lv_at hl 1 rfl) ?_
              refine zq_getr E hM k_h0 (zFX10_17 E hZ) ⟨by decide, by decide, by decide, rfl⟩ dX10_passMonth_51 ?_
              have k8050 : zq_k X (zq_r X h0 8) = 31 := zq_lk L.1 k_h0 rfl (by decide)
              refine lv_iload_n hx hb dX10_passMonth_54 rfl (lv_at hl 0 rfl) ?_
              refine zq_rald (n := 3) (t := 7) (j := (j7792.toNatClampNeg)) E hZ hM k8050 ⟨by decide, rfl⟩ ⟨rfl, by decide, by decide⟩ ⟨by omega, by omega⟩ rfl dX10_passMonth_55 ?_
              have k8051 : zq_k X (zq_r X (zq_r X h0 8) (j7792.toNatClampNeg)) = 5 := zq_lay_a L.1 k8050 (n := 3) (zq_inn (i := j7792) (n := 3) ⟨by omega, by omega⟩) (by decide) (by decide)
              refine zq_callv (zq_rV (As := [.ref (zq_r X (zq_r X h0 8) (j7792.toNatClampNeg))]) (rest := []) E hZ hM k_h0 (c_X10_moveShip l X zk (zn) I7793 L (b + 99 * j7792.toInt) h0 k_h0 (zq_r X (zq_r X h0 8) (j7792.toNatClampNeg)) k8051 (F7794) (((zq_own_a L.2.1 k8050 (n := 3) (zq_inn (i := j7792) (n := 3) ⟨by omega, by omega⟩) (by decide)).trans (((L.2.1 _ _ _ k_h0 (by decide) rfl).trans ((rfl : zq_o X h0 = zq_o X h0)))))) (by omega)) zmX10_131 zM_X10_moveShip (hro (1) 3 (by first | decide | omega) (by decide)) ⟨by decide, by decide⟩ rfl hl.1 rfl rfl (Nat.le_of_ble_eq_true rfl) dX10_passMonth_56) hS (fun I8054 H locs h8052 hM hS => ?_)
              obtain ⟨fr8055, p8056⟩ := h8052
              have hR := zq_fr.call hR fr8055 (zf_sub (by decide +kernel) (fun b _ q => q))
              obtain ⟨x8058, ex8058⟩ : ∃ y : Int32, y = j7792 + 1 := ⟨_, rfl⟩
              have tx8058 := zi_add ex8058 (rfl : j7792.toInt = j7792.toInt) zl_1 ⟨by omega, by omega⟩
              refine lv_iinc (v := x8058) (lv' := [(3, .int x8058), (0, .ref h0), (1, va_rf p1), (2, .int p2)]) hx hb dX10_passMonth_59 hl (k := 0) rfl (by rw [ex8058]; rfl) (by decide) rfl (fun ls hl => ?_)
              refine lv_goto (tgt := 41) hx hb dX10_passMonth_62 (by decide) ?_
              exact ih41 I8054 H locs ls x8058 (by omega) hM hS hR (⟨by omega, by omega⟩) (zW.mono p8056 (by have := zl_0; omega)) (lv_sub hl [0, 1, 2, 3] rfl)
        exact J41 (3 + 1 - (0 : Int32).toInt).toNat I6745 H locs ls (0 : Int32) (by omega) hM hS hR (by rw [zl_0]; decide) (zW.mono hW6747 (by have := zl_0; omega)) (lv_sub hl [0, 1, 2, 3] rfl)
      rcases hqp1 with rfl | ⟨q8059, rfl, kq8059⟩
      · replace hl : lv_has ls 6 [(3, .int j5413), (0, .ref h0), (1, .null), (2, .int p2)] := hl
        refine lv_ifnullN (tgt := 34) hx hb dX10_passMonth_3 (by decide) ?_
        exact J34 ls (lv_sub hl [0, 1, 2, 3] rfl)
      · replace hl : lv_has ls 6 [(3, .int j5413), (0, .ref h0), (1, .ref q8059), (2, .int p2)] := hl
        refine lv_ifnull hx hb dX10_passMonth_3 ?_
        refine lv_iload_n hx hb dX10_passMonth_6 rfl (lv_at hl 0 rfl) ?_
        refine lv_aload_n hx hb dX10_passMonth_7 rfl (lv_at hl 1 rfl) ?_
        refine zq_gn E hM k_h0 (zFX10_46 E hZ) (Or.inl ⟨by decide, by decide, by decide, rfl⟩) dX10_passMonth_8 (fun x8062 ex8062 gx8062 => ?_)
        replace gx8062 : 0 ≤ x8062.toInt ∧ x8062.toInt ≤ 3 := gx8062
        refine lv_icmp_ge (tgt := 34) hx hb dX10_passMonth_11 (by decide) (fun b8063 => ?_) (fun b8063 => ?_)
        · have b8063 := zi_le b8063 (rfl : x8062.toInt = x8062.toInt) (rfl : j5413.toInt = j5413.toInt)
          exact J34 ls (lv_sub hl [0, 1, 2, 3] rfl)
        · have b8063 := zi_nle b8063 (rfl : x8062.toInt = x8062.toInt) (rfl : j5413.toInt = j5413.toInt)
          refine lv_aload_n hx hb dX10_passMonth_14 rfl (lv_at hl 1 rfl) ?_
          refine lv_iload_n hx hb dX10_passMonth_15 rfl (lv_at hl 0 rfl) ?_
          refine zq_pcalli (zq_rV (As := [.int j5413]) (rest := []) E hZ hM k_h0 (c_X10_isAtHome l X zk (zn) I5414 L h0 k_h0 j5413) zmX10_84 zM_X10_isAtHome (hro (1) 2 (by first | decide | omega) (by decide)) ⟨by decide, by decide⟩ rfl hl.1 rfl rfl (Nat.le_of_ble_eq_true rfl) dX10_passMonth_16) hS (fun x8065 H locs h8064 hM hS => ?_)
          obtain ⟨p8066, p8067⟩ := h8064
          have J28 : ∀ (I8073 : zq_M) (H : Heap) (locs : List Loc) (ls : Array Slot), (zq_hm X (zk, zn) I8073 H) → (va_S (zq_A X) s.heap H locs) → (zq_fr (zf X zw_X10_passMonth (fun b => zq_o X b = zq_o X h0)) I I8073) → (zW X I8073 (b) h0) → (lv_has ls 6 [(3, .int j5413), (0, .ref h0), (1, .ref q8059), (2, .int p2)]) → W p l e R s m args below meth c H locs 0 0 Q (F0 m 28 ls []) := by
            intro I8073 H locs ls hM hS hR F8074 hl
            obtain ⟨x8076, ex8076⟩ : ∃ y : Int32, y = j5413 + 1 := ⟨_, rfl⟩
            have tx8076 := zi_add ex8076 (rfl : j5413.toInt = j5413.toInt) zl_1 ⟨by omega, by omega⟩
            refine lv_iinc (v := x8076) (lv' := [(3, .int x8076), (0, .ref h0), (1, .ref q8059), (2, .int p2)]) hx hb dX10_passMonth_28 hl (k := 0) rfl (by rw [ex8076]; rfl) (by decide) rfl (fun ls hl => ?_)
            refine lv_goto (tgt := 2) hx hb dX10_passMonth_31 (by decide) ?_
            exact ih2 I8073 H locs ls x8076 (by omega) hM hS hR (⟨by omega, by omega⟩) F8074 (lv_sub hl [0, 1, 2, 3] rfl)
          refine lv_if_eq (tgt := 28) hx hb dX10_passMonth_19 (by decide) (fun b8077 => ?_) (fun b8077 => ?_)
          · have b8077 := zi_eq b8077 (rfl : x8065.toInt = x8065.toInt) (zl_0 : (0 : Int32).toInt = 0)
            exact J28 I5414 H locs ls hM hS hR F5415 (lv_sub hl [0, 1, 2, 3] rfl)
          · have b8077 := zi_ne b8077 (rfl : x8065.toInt = x8065.toInt) (zl_0 : (0 : Int32).toInt = 0)
            refine lv_aload_n hx hb dX10_passMonth_22 rfl (lv_at hl 1 rfl) ?_
            refine lv_aload_n hx hb dX10_passMonth_23 rfl (lv_at hl 2 rfl) ?_
            refine lv_iload_n hx hb dX10_passMonth_24 rfl (lv_at hl 0 rfl) ?_
            refine zq_callv (zq_rV (As := [.ref q8059, .int j5413]) (rest := []) E hZ hM k_h0 (c_X10_sailByRule l X zk (zn) I5414 L h0 k_h0 q8059 kq8059 j5413) zmX10_123 zM_X10_sailByRule (hro (3) 9 (by first | decide | omega) (by decide)) ⟨by decide, by decide⟩ rfl hl.1 rfl rfl (Nat.le_of_ble_eq_true rfl) dX10_passMonth_25) hS (fun I8080 H locs h8078 hM hS => ?_)
            have fr8081 := h8078
            have hR := zq_fr.call hR fr8081 (zf_sub (by decide +kernel) (fun b _ q => q))
            have hW8082 := zW.frL F5415 L k_h0 fr8081 rfl rfl
            exact J28 I8080 H locs ls hM hS hR hW8082 (lv_sub hl [0, 1, 2, 3] rfl)
  exact J2 (3 + 1 - (0 : Int32).toInt).toNat I H locs ls (0 : Int32) (by omega) hM hS hR (by rw [zl_0]; decide) q_0 (lv_sub hl [0, 1, 2, 3] rfl)
def zw_X10_copyFrom : List (Nat × Nat) := [(5, 0), (5, 1), (5, 2), (5, 3), (5, 4), (5, 5), (7, 0), (7, 1), (7, 2), (7, 3), (7, 4), (7, 5), (7, 6), (8, 0), (8, 1), (8, 2), (8, 3), (8, 4), (8, 5), (8, 6), (30, 999)]
set_option maxHeartbeats 8000000 in
set_option maxRecDepth 100000 in
theorem c_X10_copyFrom (l : Launch) (X : zq_X) (zk zn : Nat) (I : zq_M) (L : zq_L X)  (h0 : Nat) (k_h0 : zq_k X h0 = 8) (p1 : Nat) (k_p1 : zq_k X p1 = 8) (q_0 : ¬ zq_o X h0 = zq_o X p1) : Met l yX10_copyFrom (zt_w yX10_copyFrom cX10_copyFrom 3 none) (zq_rm (1)) (va_Pc [.ref h0, .ref p1] (zq_W X (zk, zn) I)) (va_Qv (fun I2 => zq_fr (zf X zw_X10_copyFrom (fun b => zq_o X b = zq_o X h0)) I I2 ∧ (zCp X I I2 h0 p1 4)) (zq_E X (zk, zn)) (zq_A X)) 0 0 (zq_A X) := by
  refine Met.ofW (cc := cX10_copyFrom) (maxL := 3) (ret := none) (by decide) rfl ?_
  intro p e s m args below meth c s₁ B hml hv
  obtain ⟨hargs, hM, hZ⟩ := hv
  have hown : s.vm.findClass RX10 = some m.cls := findClass_of_methodNamed B.named
  have hts := atoms_spec (ws := zt_w yX10_copyFrom cX10_copyFrom 3 none) B.pre
  have E : CallFix p m c cX10_copyFrom 3 s args (Cond.code yX10_copyFrom cX10_copyFrom 3 none :: zt) RX10 := ⟨B.exec, B.bytes, hml, hown, hts⟩
  have hx := B.exec
  have hb := B.bytes
  have hr := B.returns
  have hlocks := B.notSynchronized
  clear B
  have hS : va_S (zq_A X) s.heap s.heap [] := va_S.rf
  have hR : zq_fr (zf X zw_X10_copyFrom (fun b => zq_o X b = zq_o X h0)) I I := zq_fr.rf
  have hl := lv_entry ([.ref h0, .ref p1]) (n := 3) (by exact Nat.le_of_ble_eq_true rfl)
  have hg : entryFrame m args 3 = F0 m 0 ((lg_sl ([.ref h0, .ref p1]) ++ List.replicate (3 - (lg_sl ([.ref h0, .ref p1])).length) Slot.unset).toArray) [] := by rw [hargs]; exact lg_entry_eq m ([.ref h0, .ref p1]) 3
  rw [hg]
  clear hg hargs
  generalize (lg_sl ([.ref h0, .ref p1]) ++ List.replicate (3 - (lg_sl ([.ref h0, .ref p1])).length) Slot.unset).toArray = ls at hl ⊢
  have hl : lv_has ls 3 [(0, .ref h0), (1, .ref p1)] := by exact hl
  obtain ⟨R, hRm⟩ : ∃ R : Room, R = (headSpec (zt_w yX10_copyFrom cX10_copyFrom 3 none) (zq_rm (1))).room := ⟨_, rfl⟩
  rw [← hRm]
  have hrn : 1 ≤ R.frames ∧ 64 ≤ R.locals := by rw [hRm]; exact ⟨Nat.le_of_ble_eq_true rfl, Nat.le_of_ble_eq_true rfl⟩
  have hro : ∀ d q : Nat, d + 1 ≤ 1 → q ≤ 45 → zq_rok d q R := fun d q h1 h2 => by rw [hRm]; exact zq_rokI h1 h2
  generalize hQ : MQ below _ args s 0 0 (zq_A X) = Q
  obtain ⟨H, hH⟩ : ∃ H, H = s.heap := ⟨_, rfl⟩
  obtain ⟨locs, hlo⟩ : ∃ x : List Loc, x = [] := ⟨_, rfl⟩
  rw [show W p l e R s m args below meth c s.heap [] 0 0 Q = W p l e R s m args below meth c H locs 0 0 Q by rw [hH, hlo]]
  have hM : zq_hm X (zk, zn) I H := by rw [hH]; exact hM
  have hS : va_S (zq_A X) s.heap H locs := by rw [hH, hlo]; exact hS
  clear hH hlo
  refine lv_aload_n hx hb dX10_copyFrom_0 rfl (lv_at hl 0 rfl) ?_
  refine lv_aload_n hx hb dX10_copyFrom_1 rfl (lv_at hl 1 rfl) ?_
  refine zq_gn E hM k_p1 (zFX10_29 E hZ) (Or.inr ⟨by decide, by decide, by decide, rfl⟩) dX10_copyFrom_2 (fun x101 ex101 gx101 => ?_)
  replace gx101 : 0 ≤ x101.toInt ∧ x101.toInt ≤ 1 := gx101
  refine zq_pz E hM hS k_h0 (zGX10_29 E hZ) ⟨by decide, by decide, by decide, rfl⟩ (show 0 ≤ x101.toInt ∧ x101.toInt ≤ 1 from ⟨by omega, by omega⟩) rfl dX10_copyFrom_5 (fun I102 H locs eI102 hM hS => ?_)
  have hR := zq_fr.putE hR eI102 (zf_iw k_h0 rfl ((rfl : zq_o X h0 = zq_o X h0)))
  refine lv_aload_n hx hb dX10_copyFrom_8 rfl (lv_at hl 0 rfl) ?_
  refine lv_aload_n hx hb dX10_copyFrom_9 rfl (lv_at hl 1 rfl) ?_
  refine zq_gn E hM k_p1 (zFX10_33 E hZ) (Or.inl ⟨by decide, by decide, by decide, rfl⟩) dX10_copyFrom_10 (fun x103 ex103 gx103 => ?_)
  clear gx103
  refine zq_pn E hM hS k_h0 (zGX10_33 E hZ) ⟨by decide, by decide, by decide, rfl⟩ (zq_any _) dX10_copyFrom_13 (fun I104 H locs eI104 hM hS => ?_)
  have hR := zq_fr.putE hR eI104 (zf_iw k_h0 rfl ((rfl : zq_o X h0 = zq_o X h0)))
  refine lv_aload_n hx hb dX10_copyFrom_16 rfl (lv_at hl 0 rfl) ?_
  refine W.eq (g2 := F0 m 17 ls [.ref h0]) rfl ?_
  refine lv_aload_n hx hb dX10_copyFrom_17 rfl (lv_at hl 1 rfl) ?_
  refine zq_gn E hM k_p1 (zFX10_37 E hZ) (Or.inl ⟨by decide, by decide, by decide, rfl⟩) dX10_copyFrom_18 (fun x105 ex105 gx105 => ?_)
  clear gx105
  refine zq_pn E hM hS k_h0 (zGX10_37 E hZ) ⟨by decide, by decide, by decide, rfl⟩ (zq_any _) dX10_copyFrom_21 (fun I106 H locs eI106 hM hS => ?_)
  have hR := zq_fr.putE hR eI106 (zf_iw k_h0 rfl ((rfl : zq_o X h0 = zq_o X h0)))
  refine lv_aload_n hx hb dX10_copyFrom_24 rfl (lv_at hl 0 rfl) ?_
  refine lv_aload_n hx hb dX10_copyFrom_25 rfl (lv_at hl 1 rfl) ?_
  refine zq_gn E hM k_p1 (zFX10_40 E hZ) (Or.inl ⟨by decide, by decide, by decide, rfl⟩) dX10_copyFrom_26 (fun x107 ex107 gx107 => ?_)
  clear gx107
  refine zq_pn E hM hS k_h0 (zGX10_40 E hZ) ⟨by decide, by decide, by decide, rfl⟩ (zq_any _) dX10_copyFrom_29 (fun I108 H locs eI108 hM hS => ?_)
  have hR := zq_fr.putE hR eI108 (zf_iw k_h0 rfl ((rfl : zq_o X h0 = zq_o X h0)))
  refine lv_aload_n hx hb dX10_copyFrom_32 rfl (lv_at hl 0 rfl) ?_
  refine lv_aload_n hx hb dX10_copyFrom_33 rfl (lv_at hl 1 rfl) ?_
  refine zq_gn E hM k_p1 (zFX10_43 E hZ) (Or.inl ⟨by decide, by decide, by decide, rfl⟩) dX10_copyFrom_34 (fun x109 ex109 gx109 => ?_)
  clear gx109
  refine W.eq (g2 := F0 m 37 ls [.int x109, .ref h0]) rfl ?_
  refine zq_pn E hM hS k_h0 (zGX10_43 E hZ) ⟨by decide, by decide, by decide, rfl⟩ (zq_any _) dX10_copyFrom_37 (fun I110 H locs eI110 hM hS => ?_)
  have hR := zq_fr.putE hR eI110 (zf_iw k_h0 rfl ((rfl : zq_o X h0 = zq_o X h0)))
  refine lv_aload_n hx hb dX10_copyFrom_40 rfl (lv_at hl 0 rfl) ?_
  refine lv_aload_n hx hb dX10_copyFrom_41 rfl (lv_at hl 1 rfl) ?_
  refine zq_gn E hM k_p1 (zFX10_46 E hZ) (Or.inl ⟨by decide, by decide, by decide, rfl⟩) dX10_copyFrom_42 (fun x111 ex111 gx111 => ?_)
  replace gx111 : 0 ≤ x111.toInt ∧ x111.toInt ≤ 3 := gx111
  refine zq_pn E hM hS k_h0 (zGX10_46 E hZ) ⟨by decide, by decide, by decide, rfl⟩ (show 0 ≤ x111.toInt ∧ x111.toInt ≤ 3 from ⟨by omega, by omega⟩) dX10_copyFrom_45 (fun I112 H locs eI112 hM hS => ?_)
  have hR := zq_fr.putE hR eI112 (zf_iw k_h0 rfl ((rfl : zq_o X h0 = zq_o X h0)))
  refine lv_aload_n hx hb dX10_copyFrom_48 rfl (lv_at hl 0 rfl) ?_
  refine lv_aload_n hx hb dX10_copyFrom_49 rfl (lv_at hl 1 rfl) ?_
  refine zq_gn E hM k_p1 (zFX10_49 E hZ) (Or.inl ⟨by decide, by decide, by decide, rfl⟩) dX10_copyFrom_50 (fun x113 ex113 gx113 => ?_)
  replace gx113 : 0 ≤ x113.toInt ∧ x113.toInt ≤ 4 := gx113
  refine zq_pn E hM hS k_h0 (zGX10_49 E hZ) ⟨by decide, by decide, by decide, rfl⟩ (show 0 ≤ x113.toInt ∧ x113.toInt ≤ 4 from ⟨by omega, by omega⟩) dX10_copyFrom_53 (fun I114 H locs eI114 hM hS => ?_)
  have hR := zq_fr.putE hR eI114 (zf_iw k_h0 rfl ((rfl : zq_o X h0 = zq_o X h0)))
  have hC9 : zCp X I I114 h0 p1 0 := ⟨((zq_kv eI114)).trans ((zq_kb eI102 (Or.inr (by decide)) (zq_kb eI104 (Or.inr (by decide)) (zq_kb eI106 (Or.inr (by decide)) (zq_kb eI108 (Or.inr (by decide)) (zq_kb eI110 (Or.inr (by decide)) (zq_kb eI112 (Or.inr (by decide)) ex113))))))).symm, fun j _ h => absurd h (Nat.not_lt_zero _)⟩
  refine lv_aload_n hx hb dX10_copyFrom_56 rfl (lv_at hl 1 rfl) ?_
  refine W.eq (g2 := F0 m 57 ls [.ref p1]) rfl ?_
  refine zq_getr E hM k_p1 (zFX10_11 E hZ) ⟨by decide, by decide, by decide, rfl⟩ dX10_copyFrom_57 ?_
  have k115 : zq_k X (zq_r X p1 7) = 30 := zq_lk L.1 k_p1 rfl (by decide)
  refine lv_iconst (v := 0) hx hb dX10_copyFrom_60 (by decide +kernel) ?_
  refine lv_aload_n hx hb dX10_copyFrom_61 rfl (lv_at hl 0 rfl) ?_
  refine zq_getr E hM k_h0 (zFX10_11 E hZ) ⟨by decide, by decide, by decide, rfl⟩ dX10_copyFrom_62 ?_
  have k116 : zq_k X (zq_r X h0 7) = 30 := zq_lk L.1 k_h0 rfl (by decide)
  refine lv_iconst (v := 0) hx hb dX10_copyFrom_65 (by decide +kernel) ?_
  refine lv_bipush (v := 12) hx hb dX10_copyFrom_66 (by decide +kernel) ?_
  refine zq_copyi (n0 := 12) E hZ hM hS k115 k116 ⟨by decide, rfl⟩ (fun _ => rfl) (by decide +kernel) (by decide +kernel) rfl (List.mem_cons_of_mem _ zt_acl0) (List.mem_cons_of_mem _ zt_acn) (List.mem_cons_of_mem _ zt_acs) (List.mem_cons_of_mem _ zt_aci) hl.1 (hrn).1 (Nat.le_trans (Nat.le_of_ble_eq_true rfl) (hrn).2) dX10_copyFrom_68 (fun I117 H locs cp118 hM hS => ?_)
  have hR := zq_fr.cp hR cp118 k116 (by decide) (fun _ => (((L.2.1 _ _ _ k_h0 (by decide) rfl).trans ((rfl : zq_o X h0 = zq_o X h0)))))
  have hC119 := zCp.cpy hC9 L k_h0 cp118 k116 (by decide)
  refine lv_iconst (v := 0) hx hb dX10_copyFrom_71 (by decide +kernel) ?_
  refine lv_istore_n (lv' := [(2, .int (0 : Int32)), (0, .ref h0), (1, .ref p1)]) hx hb dX10_copyFrom_72 rfl hl (by decide) rfl (fun ls hl => ?_)
  have J73 : ∀ (n315 : Nat) (I313 : zq_M) (H : Heap) (locs : List Loc) (ls : Array Slot) (j312 : Int32), 3 + 1 - j312.toInt ≤ ((n315 : Nat) : Int) → (zq_hm X (zk, zn) I313 H) → (va_S (zq_A X) s.heap H locs) → (zq_fr (zf X zw_X10_copyFrom (fun b => zq_o X b = zq_o X h0)) I I313) → (0 ≤ j312.toInt ∧ j312.toInt ≤ 3) → (zCp X I I313 h0 p1 (0)) → (lv_has ls 3 [(2, .int j312), (0, .ref h0), (1, .ref p1)]) → W p l e R s m args below meth c H locs 0 0 Q (F0 m 73 ls []) := by
    intro n315
    induction n315 with
    | zero => intro I313 H locs ls j312 mu316 hM hS hR gj312 F314 hl; exfalso; have := zi_rng j312; omega
    | succ n315 ih73 =>
      intro I313 H locs ls j312 mu316 hM hS hR gj312 F314 hl
      refine lv_iload_n hx hb dX10_copyFrom_73 rfl (lv_at hl 0 rfl) ?_
      refine lv_iconst (v := 3) hx hb dX10_copyFrom_74 (by decide +kernel) ?_
      refine lv_icmp_ge (tgt := 99) hx hb dX10_copyFrom_75 (by decide) (fun b317 => ?_) (fun b317 => ?_)
      · have b317 := zi_le b317 (zl_3 : (3 : Int32).toInt = 3) (rfl : j312.toInt = j312.toInt)
        refine lv_iconst (v := 0) hx hb dX10_copyFrom_99 (by decide +kernel) ?_
        refine lv_istore_n (lv' := [(2, .int (0 : Int32)), (0, .ref h0), (1, .ref p1)]) hx hb dX10_copyFrom_100 rfl hl (by decide) rfl (fun ls hl => ?_)
        have J101 : ∀ (n377 : Nat) (I375 : zq_M) (H : Heap) (locs : List Loc) (ls : Array Slot) (j374 : Int32), 4 + 1 - j374.toInt ≤ ((n377 : Nat) : Int) → (zq_hm X (zk, zn) I375 H) → (va_S (zq_A X) s.heap H locs) → (zq_fr (zf X zw_X10_copyFrom (fun b => zq_o X b = zq_o X h0)) I I375) → (0 ≤ j374.toInt ∧ j374.toInt ≤ 4) → (zCp X I I375 h0 p1 (j374.toNatClampNeg)) → (lv_has ls 3 [(2, .int j374), (0, .ref h0), (1, .ref p1)]) → W p l e R s m args below meth c H locs 0 0 Q (F0 m 101 ls []) := by
          intro n377
          induction n377 with
          | zero => intro I375 H locs ls j374 mu378 hM hS hR gj374 F376 hl; exfalso; have := zi_rng j374; omega
          | succ n377 ih101 =>
            intro I375 H locs ls j374 mu378 hM hS hR gj374 F376 hl
            refine lv_iload_n hx hb dX10_copyFrom_101 rfl (lv_at hl 0 rfl) ?_
            refine lv_iconst (v := 4) hx hb dX10_copyFrom_102 (by decide +kernel) ?_
            refine lv_icmp_ge (tgt := 127) hx hb dX10_copyFrom_103 (by decide) (fun b379 => ?_) (fun b379 => ?_)
            · have b379 := zi_le b379 (zl_4 : (4 : Int32).toInt = 4) (rfl : j374.toInt = j374.toInt)
              subst hQ
              exact zq_vret E hr hZ hM hS ⟨hR, ((zCp.cast F376 (by have := zq_cl (i := j374) (by omega); omega)))⟩ hlocks dX10_copyFrom_127
            · have b379 := zi_nle b379 (zl_4 : (4 : Int32).toInt = 4) (rfl : j374.toInt = j374.toInt)
              refine lv_aload_n hx hb dX10_copyFrom_106 rfl (lv_at hl 1 rfl) ?_
              refine zq_getr E hM k_h0 (zFX10_23 E hZ) ⟨by decide, by decide, by decide, rfl⟩ dX10_copyFrom_107 ?_
              have k380 : zq_k X (zq_r X h0 9) = 32 := zq_lk L.1 k_h0 rfl (by decide)
              refine lv_iload_n hx hb dX10_copyFrom_110 rfl (lv_at hl 0 rfl) ?_
              refine zq_rald (n := 4) (t := 8) (j := (j374.toNatClampNeg)) E hZ hM k380 ⟨by decide, rfl⟩ ⟨rfl, by decide, by decide⟩ ⟨by omega, by omega⟩ rfl dX10_copyFrom_111 ?_
              have k381 : zq_k X (zq_r X (zq_r X h0 9) (j374.toNatClampNeg)) = 7 := zq_lay_a L.1 k380 (n := 4) (zq_inn (i := j374) (n := 4) ⟨by omega, by omega⟩) (by decide) (by decide)
              refine lv_aload_n hx hb dX10_copyFrom_112 rfl (lv_at hl 2 rfl) ?_
              refine zq_getr E hM k_p1 (zFX10_23 E hZ) ⟨by decide, by decide, by decide, rfl⟩ dX10_copyFrom_113 ?_
              have k382 : zq_k X (zq_r X p1 9) = 32 := zq_lk L.1 k_p1 rfl (by decide)
              refine lv_iload_n hx hb dX10_copyFrom_116 rfl (lv_at hl 0 rfl) ?_
              refine zq_rald (n := 4) (t := 8) (j := (j374.toNatClampNeg)) E hZ hM k382 ⟨by decide, rfl⟩ ⟨rfl, by decide, by decide⟩ ⟨by omega, by omega⟩ rfl dX10_copyFrom_117 ?_
              have k383 : zq_k X (zq_r X (zq_r X p1 9) (j374.toNatClampNeg)) = 7 := zq_lay_a L.1 k382 (n := 4) (zq_inn (i := j374) (n := 4) ⟨by omega, by omega⟩) (by decide) (by decide)
              have hR0 := hR
              refine zq_callv (zq_rV (As := [.ref (zq_r X (zq_r X p1 9) (j374.toNatClampNeg))]) (rest := []) E hZ hM k381 (c_X7_copyFrom l X zk (zn) I375 L (zq_r X (zq_r X h0 9) (j374.toNatClampNeg)) k381 (zq_r X (zq_r X p1 9) (j374.toNatClampNeg)) k383) zmX10_62 zM_X7_copyFrom (hro (0) 2 (by first | decide | omega) (by decide)) ⟨by decide, by decide⟩ rfl hl.1 rfl rfl (Nat.le_of_ble_eq_true rfl) dX10_copyFrom_118) hS (fun I386 H locs h384 hM hS => ?_)
              obtain ⟨fr387, p388⟩ := h384
              have hR := zq_fr.call hR fr387 (zf_sub (by decide +kernel) (fun b _ q => (by rw [q]; exact ((zq_own_a L.2.1 k380 (n := 4) (zq_inn (i := j374) (n := 4) ⟨by omega, by omega⟩) (by decide)).trans (((L.2.1 _ _ _ k_h0 (by decide) rfl).trans ((rfl : zq_o X h0 = zq_o X h0))))))))
              have hC389 := zCp.step F376 L k_h0 k_p1 (zq_inn (i := j374) (n := 4) ⟨by omega, by omega⟩) hR0 q_0 fr387 p388
              refine W.eq (g2 := F0 m 121 ls []) rfl ?_
              obtain ⟨x390, ex390⟩ : ∃ y : Int32, y = j374 + 1 := ⟨_, rfl⟩
              have tx390 := zi_add ex390 (rfl : j374.toInt = j374.toInt) zl_1 ⟨by omega, by omega⟩
              refine lv_iinc (v := x390) (lv' := [(2, .int x390), (0, .ref h0), (1, .ref p1)]) hx hb dX10_copyFrom_121 hl (k := 0) rfl (by rw [ex390]; rfl) (by decide) rfl (fun ls hl => ?_)
              refine lv_goto (tgt := 101) hx hb dX10_copyFrom_124 (by decide) ?_
              exact ih101 I386 H locs ls x390 (by omega) hM hS hR (⟨by omega, by omega⟩) (zCp.cast hC389 (by have h1 := zq_cl (i := x390) (by omega); have h2 := zq_cl (i := j374) (by omega); omega)) (lv_sub hl [0, 1, 2] rfl)
        exact J101 (4 + 1 - (0 : Int32).toInt).toNat I313 H locs ls (0 : Int32) (by omega) hM hS hR (by rw [zl_0]; decide) (zCp.cast F314 (by decide +kernel)) (lv_sub hl [0, 1, 2] rfl)
      · have b317 := zi_nle b317 (zl_3 : (3 : Int32).toInt = 3) (rfl : j312.toInt = j312.toInt)
        refine lv_aload_n hx hb dX10_copyFrom_78 rfl (lv_at hl 1 rfl) ?_
        refine zq_getr E hM k_h0 (zFX10_17 E hZ) ⟨by decide, by decide, by decide, rfl⟩ dX10_copyFrom_79 ?_
        have k391 : zq_k X (zq_r X h0 8) = 31 := zq_lk L.1 k_h0 rfl (by decide)
        refine lv_iload_n hx hb dX10_copyFrom_82 rfl (lv_at hl 0 rfl) ?_
        refine zq_rald (n := 3) (t := 7) (j := (j312.toNatClampNeg)) E hZ hM k391 ⟨by decide, rfl⟩ ⟨rfl, by decide, by decide⟩ ⟨by omega, by omega⟩ rfl dX10_copyFrom_83 ?_
        have k392 : zq_k X (zq_r X (zq_r X h0 8) (j312.toNatClampNeg)) = 5 := zq_lay_a L.1 k391 (n := 3) (zq_inn (i := j312) (n := 3) ⟨by omega, by omega⟩) (by decide) (by decide)
        refine lv_aload_n hx hb dX10_copyFrom_84 rfl (lv_at hl 2 rfl) ?_
        refine zq_getr E hM k_p1 (zFX10_17 E hZ) ⟨by decide, by decide, by decide, rfl⟩ dX10_copyFrom_85 ?_
        have k393 : zq_k X (zq_r X p1 8) = 31 := zq_lk L.1 k_p1 rfl (by decide)
        refine lv_iload_n hx hb dX10_copyFrom_88 rfl (lv_at hl 0 rfl) ?_
        refine zq_rald (n := 3) (t := 7) (j := (j312.toNatClampNeg)) E hZ hM k393 ⟨by decide, rfl⟩ ⟨rfl, by decide, by decide⟩ ⟨by omega, by omega⟩ rfl dX10_copyFrom_89 ?_
        have k394 : zq_k X (zq_r X (zq_r X p1 8) (j312.toNatClampNeg)) = 5 := zq_lay_a L.1 k393 (n := 3) (zq_inn (i := j312) (n := 3) ⟨by omega, by omega⟩) (by decide) (by decide)
        refine zq_callv (zq_rV (As := [.ref (zq_r X (zq_r X p1 8) (j312.toNatClampNeg))]) (rest := []) E hZ hM k392 (c_X5_copyFrom l X zk (zn) I313 L (zq_r X (zq_r X h0 8) (j312.toNatClampNeg)) k392 (zq_r X (zq_r X p1 8) (j312.toNatClampNeg)) k394) zmX10_58 zM_X5_copyFrom (hro (0) 2 (by first | decide | omega) (by decide)) ⟨by decide, by decide⟩ rfl hl.1 rfl rfl (Nat.le_of_ble_eq_true rfl) dX10_copyFrom_90) hS (fun I397 H locs h395 hM hS => ?_)
        have fr398 := h395
        have hR := zq_fr.call hR fr398 (zf_sub (by decide +kernel) (fun b _ q => (by rw [q]; exact ((zq_own_a L.2.1 k391 (n := 3) (zq_inn (i := j312) (n := 3) ⟨by omega, by omega⟩) (by decide)).trans (((L.2.1 _ _ _ k_h0 (by decide) rfl).trans ((rfl : zq_o X h0 = zq_o X h0))))))))
        have hC399 := zCp.frL F314 L k_h0 fr398 rfl rfl
        refine W.eq (g2 := F0 m 93 ls []) rfl ?_
        obtain ⟨x400, ex400⟩ : ∃ y : Int32, y = j312 + 1 := ⟨_, rfl⟩
        have tx400 := zi_add ex400 (rfl : j312.toInt = j312.toInt) zl_1 ⟨by omega, by omega⟩
        refine lv_iinc (v := x400) (lv' := [(2, .int x400), (0, .ref h0), (1, .ref p1)]) hx hb dX10_copyFrom_93 hl (k := 0) rfl (by rw [ex400]; rfl) (by decide) rfl (fun ls hl => ?_)
        refine lv_goto (tgt := 73) hx hb dX10_copyFrom_96 (by decide) ?_
        exact ih73 I397 H locs ls x400 (by omega) hM hS hR (⟨by omega, by omega⟩) hC399 (lv_sub hl [0, 1, 2] rfl)
  exact J73 (3 + 1 - (0 : Int32).toInt).toNat I117 H locs ls (0 : Int32) (by omega) hM hS hR (by rw [zl_0]; decide) hC119 (lv_sub hl [0, 1, 2] rfl)
