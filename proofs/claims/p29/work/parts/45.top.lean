set_option maxHeartbeats 8000000 in
set_option maxRecDepth 100000 in
theorem c_X11_ruleInForce (l : Launch) (X : zq_X) (zk zn : Nat) (I : zq_M) (L : zq_L X)  (h0 : Nat) (k_h0 : zq_k X h0 = 9)  : Met l yX11_ruleInForce (zt_w yX11_ruleInForce cX11_ruleInForce 1 (some (.object "PondIceTrade$Rule"))) (zq_rm (1)) (va_Pc [.ref h0] (zq_W X (zk, zn) I)) (fun _ st oc t => (∃ (u : zq_M) (q : Option Nat), oc = .returned (some (va_rf q)) ∧ (fun I2 => I2 = I ∧ True) u ∧ zq_E X (zk, zn) u t ∧ (q = none ∨ ∃ b, q = some b ∧ zq_k X b = 4)) ∧ va_F (zq_A X) st t) 0 0 (zq_A X) := by
  refine Met.ofW (cc := cX11_ruleInForce) (maxL := 1) (ret := (some (.object "PondIceTrade$Rule"))) (by decide) rfl ?_
  intro p e s m args below meth c s₁ B hml hv
  obtain ⟨hargs, hM, hZ⟩ := hv
  have hown : s.vm.findClass RX11 = some m.cls := findClass_of_methodNamed B.named
  have hts := atoms_spec (ws := zt_w yX11_ruleInForce cX11_ruleInForce 1 (some (.object "PondIceTrade$Rule"))) B.pre
  have E : CallFix p m c cX11_ruleInForce 1 s args (Cond.code yX11_ruleInForce cX11_ruleInForce 1 (some (.object "PondIceTrade$Rule")) :: zt) RX11 := ⟨B.exec, B.bytes, hml, hown, hts⟩
  have hx := B.exec
  have hb := B.bytes
  have hr := B.returns
  have hlocks := B.notSynchronized
  clear B
  have hS : va_S (zq_A X) s.heap s.heap [] := va_S.rf
  have hl := lv_entry ([.ref h0]) (n := 1) (by exact Nat.le_of_ble_eq_true rfl)
  have hg : entryFrame m args 1 = F0 m 0 ((lg_sl ([.ref h0]) ++ List.replicate (1 - (lg_sl ([.ref h0])).length) Slot.unset).toArray) [] := by rw [hargs]; exact lg_entry_eq m ([.ref h0]) 1
  rw [hg]
  clear hg hargs
  generalize (lg_sl ([.ref h0]) ++ List.replicate (1 - (lg_sl ([.ref h0])).length) Slot.unset).toArray = ls at hl ⊢
  have hl : lv_has ls 1 [(0, .ref h0)] := by exact hl
  obtain ⟨R, hRm⟩ : ∃ R : Room, R = (headSpec (zt_w yX11_ruleInForce cX11_ruleInForce 1 (some (.object "PondIceTrade$Rule"))) (zq_rm (1))).room := ⟨_, rfl⟩
  rw [← hRm]
  have hro : ∀ d q : Nat, d + 1 ≤ 1 → q ≤ 45 → zq_rok d q R := fun d q h1 h2 => by rw [hRm]; exact zq_rokI h1 h2
  generalize hQ : MQ below _ args s 0 0 (zq_A X) = Q
  obtain ⟨H, hH⟩ : ∃ H, H = s.heap := ⟨_, rfl⟩
  obtain ⟨locs, hlo⟩ : ∃ x : List Loc, x = [] := ⟨_, rfl⟩
  rw [show W p l e R s m args below meth c s.heap [] 0 0 Q = W p l e R s m args below meth c H locs 0 0 Q by rw [hH, hlo]]
  have hM : zq_hm X (zk, zn) I H := by rw [hH]; exact hM
  have hS : va_S (zq_A X) s.heap H locs := by rw [hH, hlo]; exact hS
  clear hH hlo
  refine lv_aload_n hx hb dX11_ruleInForce_0 rfl (lv_at hl 0 rfl) ?_
  refine zq_getr E hM k_h0 (zFX11_26 E hZ) ⟨by decide, by decide, by decide, rfl⟩ dX11_ruleInForce_1 ?_
  have k101 : zq_k X (zq_r X h0 3) = 1 := zq_lk L.1 k_h0 rfl (by decide)
  refine zq_gn E hM k101 (zFX11_109 E hZ) (Or.inl ⟨by decide, by decide, by decide, rfl⟩) dX11_ruleInForce_4 (fun x102 ex102 gx102 => ?_)
  clear gx102
  refine lv_iconst (v := 0) hx hb dX11_ruleInForce_7 (by decide +kernel) ?_
  refine lv_aload_n hx hb dX11_ruleInForce_8 rfl (lv_at hl 0 rfl) ?_
  refine zq_gn E hM k_h0 (zFX11_101 E hZ) (Or.inl ⟨by decide, by decide, by decide, rfl⟩) dX11_ruleInForce_9 (fun x103 ex103 gx103 => ?_)
  replace gx103 : 0 ≤ x103.toInt ∧ x103.toInt ≤ 6 := gx103
  refine lv_iconst (v := 1) hx hb dX11_ruleInForce_12 (by decide +kernel) ?_
  refine lv_isub hx hb dX11_ruleInForce_13 ?_
  refine lv_topi (fun x104 ex104 => ?_)
  have tx104 := zi_sub ex104 (rfl : x103.toInt = x103.toInt) (zl_1 : (1 : Int32).toInt = 1) ⟨by omega, by omega⟩
  refine zq_pcalli (zq_rS (As := [.int x102, .int (0 : Int32), .int x104]) (rest := []) E hZ hM (c_X11_isWithin l X zk (zn) I L x102 (0 : Int32) x104) zmX11_75 zM_X11_isWithin (hro (0) 3 (by first | decide | omega) (by decide)) hl.1 rfl rfl (Nat.le_of_ble_eq_true rfl) dX11_ruleInForce_14) hS (fun x106 H locs h105 hM hS => ?_)
  obtain ⟨p107, p108⟩ := h105
  have := zl_0
  refine W.eq (g2 := F0 m 17 ls [.int x106]) rfl ?_
  refine lv_if_eq (tgt := 35) hx hb dX11_ruleInForce_17 (by decide) (fun b109 => ?_) (fun b109 => ?_)
  · have b109 := zi_eq b109 (rfl : x106.toInt = x106.toInt) (zl_0 : (0 : Int32).toInt = 0)
    refine lv_null hx hb dX11_ruleInForce_35 ?_
    subst hQ
    exact zq_oret (q := none) E hr hZ hM hS ⟨rfl, trivial⟩ (Or.inl rfl) hlocks dX11_ruleInForce_36
  · have b109 := zi_ne b109 (rfl : x106.toInt = x106.toInt) (zl_0 : (0 : Int32).toInt = 0)
    refine lv_aload_n hx hb dX11_ruleInForce_20 rfl (lv_at hl 0 rfl) ?_
    refine zq_getr E hM k_h0 (zFX11_18 E hZ) ⟨by decide, by decide, by decide, rfl⟩ dX11_ruleInForce_21 ?_
    have k110 : zq_k X (zq_r X h0 1) = 39 := zq_lk L.1 k_h0 rfl (by decide)
    refine lv_aload_n hx hb dX11_ruleInForce_24 rfl (lv_at hl 0 rfl) ?_
    refine zq_getr E hM k_h0 (zFX11_26 E hZ) ⟨by decide, by decide, by decide, rfl⟩ dX11_ruleInForce_25 ?_
    have k111 : zq_k X (zq_r X h0 3) = 1 := zq_lk L.1 k_h0 rfl (by decide)
    refine zq_gk (v := x102) E hM k111 (zFX11_109 E hZ) (Or.inl ⟨by decide, by decide, by decide, rfl⟩) ex102 dX11_ruleInForce_28 ?_
    refine zq_rald (n := 6) (t := 4) (j := (x102.toNatClampNeg)) E hZ hM k110 ⟨by decide, rfl⟩ ⟨rfl, by decide, by decide⟩ ⟨by omega, by omega⟩ rfl dX11_ruleInForce_31 ?_
    have k112 : zq_k X (zq_r X (zq_r X h0 1) (x102.toNatClampNeg)) = 4 := zq_lay_a L.1 k110 (n := 6) (zq_inn (i := x102) (n := 6) ⟨by omega, by omega⟩) (by decide) (by decide)
    refine lv_goto (tgt := 36) hx hb dX11_ruleInForce_32 (by decide) ?_
    subst hQ
    exact zq_oret (q := some (zq_r X (zq_r X h0 1) (x102.toNatClampNeg))) E hr hZ hM hS ⟨rfl, trivial⟩ (Or.inr ⟨_, rfl, k112⟩) hlocks dX11_ruleInForce_36
def zw_X11_keepPast : List (Nat × Nat) := [(3, 3), (5, 0), (5, 1), (5, 2), (5, 3), (5, 4), (5, 5), (7, 0), (7, 1), (7, 2), (7, 3), (7, 4), (7, 5), (7, 6), (8, 0), (8, 1), (8, 2), (8, 3), (8, 4), (8, 5), (8, 6), (9, 8), (9, 9), (30, 999)]
set_option maxHeartbeats 8000000 in
set_option maxRecDepth 100000 in
theorem c_X11_keepPast (l : Launch) (X : zq_X) (zk zn : Nat) (I : zq_M) (L : zq_L X) (ct : Nat) (h0 : Nat) (k_h0 : zq_k X h0 = 9) (q_0 : zI X I ct) (q_1 : zS0 X I (zq_r X h0 4)) (q_2 : ct ≤ 600) : Met l yX11_keepPast (zt_w yX11_keepPast cX11_keepPast 1 none) (zq_rm (2)) (va_Pc [.ref h0] (zq_W X (zk, zn) I)) (va_Qv (fun I2 => zq_fr (zf X zw_X11_keepPast (fun b => (120 ≤ zq_o X b ∧ zq_o X b ≤ 139))) I I2 ∧ (zI X I2 ct) ∧ (zS0 X I2 (zq_r X h0 4))) (zq_E X (zk, zn)) (zq_A X)) 0 0 (zq_A X) := by
  refine Met.ofW (cc := cX11_keepPast) (maxL := 1) (ret := none) (by decide) rfl ?_
  intro p e s m args below meth c s₁ B hml hv
  obtain ⟨hargs, hM, hZ⟩ := hv
  have hown : s.vm.findClass RX11 = some m.cls := findClass_of_methodNamed B.named
  have hts := atoms_spec (ws := zt_w yX11_keepPast cX11_keepPast 1 none) B.pre
  have E : CallFix p m c cX11_keepPast 1 s args (Cond.code yX11_keepPast cX11_keepPast 1 none :: zt) RX11 := ⟨B.exec, B.bytes, hml, hown, hts⟩
  have hx := B.exec
  have hb := B.bytes
  have hr := B.returns
  have hlocks := B.notSynchronized
  clear B
  have hS : va_S (zq_A X) s.heap s.heap [] := va_S.rf
  have hR : zq_fr (zf X zw_X11_keepPast (fun b => (120 ≤ zq_o X b ∧ zq_o X b ≤ 139))) I I := zq_fr.rf
  have hl := lv_entry ([.ref h0]) (n := 1) (by exact Nat.le_of_ble_eq_true rfl)
  have hg : entryFrame m args 1 = F0 m 0 ((lg_sl ([.ref h0]) ++ List.replicate (1 - (lg_sl ([.ref h0])).length) Slot.unset).toArray) [] := by rw [hargs]; exact lg_entry_eq m ([.ref h0]) 1
  rw [hg]
  clear hg hargs
  generalize (lg_sl ([.ref h0]) ++ List.replicate (1 - (lg_sl ([.ref h0])).length) Slot.unset).toArray = ls at hl ⊢
  have hl : lv_has ls 1 [(0, .ref h0)] := by exact hl
  obtain ⟨R, hRm⟩ : ∃ R : Room, R = (headSpec (zt_w yX11_keepPast cX11_keepPast 1 none) (zq_rm (2))).room := ⟨_, rfl⟩
  rw [← hRm]
  have hro : ∀ d q : Nat, d + 1 ≤ 2 → q ≤ 45 → zq_rok d q R := fun d q h1 h2 => by rw [hRm]; exact zq_rokI h1 h2
  generalize hQ : MQ below _ args s 0 0 (zq_A X) = Q
  obtain ⟨H, hH⟩ : ∃ H, H = s.heap := ⟨_, rfl⟩
  obtain ⟨locs, hlo⟩ : ∃ x : List Loc, x = [] := ⟨_, rfl⟩
  rw [show W p l e R s m args below meth c s.heap [] 0 0 Q = W p l e R s m args below meth c H locs 0 0 Q by rw [hH, hlo]]
  have hM : zq_hm X (zk, zn) I H := by rw [hH]; exact hM
  have hS : va_S (zq_A X) s.heap H locs := by rw [hH, hlo]; exact hS
  clear hH hlo
  refine lv_aload_n hx hb dX11_keepPast_0 rfl (lv_at hl 0 rfl) ?_
  refine zq_getr E hM k_h0 (zFX11_45 E hZ) ⟨by decide, by decide, by decide, rfl⟩ dX11_keepPast_1 ?_
  have k101 : zq_k X (zq_r X h0 7) = 42 := zq_lk L.1 k_h0 rfl (by decide)
  refine lv_aload_n hx hb dX11_keepPast_4 rfl (lv_at hl 0 rfl) ?_
  refine zq_gn E hM k_h0 (zFX11_194 E hZ) (Or.inl ⟨by decide, by decide, by decide, rfl⟩) dX11_keepPast_5 (fun x102 ex102 gx102 => ?_)
  replace gx102 : 0 ≤ x102.toInt ∧ x102.toInt ≤ 19 := gx102
  refine zq_rald (n := 20) (t := 5) (j := (x102.toNatClampNeg)) E hZ hM k101 ⟨by decide, rfl⟩ ⟨rfl, by decide, by decide⟩ ⟨by omega, by omega⟩ rfl dX11_keepPast_8 ?_
  have k103 : zq_k X (zq_r X (zq_r X h0 7) (x102.toNatClampNeg)) = 8 := zq_lay_a L.1 k101 (n := 20) (zq_inn (i := x102) (n := 20) ⟨by omega, by omega⟩) (by decide) (by decide)
  have := (zq_inn (i := x102) (n := 20) ⟨by omega, by omega⟩)
  refine lv_aload_n hx hb dX11_keepPast_9 rfl (lv_at hl 0 rfl) ?_
  refine zq_getr E hM k_h0 (zFX11_26 E hZ) ⟨by decide, by decide, by decide, rfl⟩ dX11_keepPast_10 ?_
  have k104 : zq_k X (zq_r X h0 3) = 1 := zq_lk L.1 k_h0 rfl (by decide)
  refine zq_getr E hM k104 (zFX11_95 E hZ) ⟨by decide, by decide, by decide, rfl⟩ dX11_keepPast_13 ?_
  have k105 : zq_k X (zq_r X (zq_r X h0 3) 0) = 8 := zq_lk L.1 k104 rfl (by decide)
  refine zq_callv (zq_rV (As := [.ref (zq_r X (zq_r X h0 3) 0)]) (rest := []) E hZ hM k103 (c_X10_copyFrom l X zk (zn) I L (zq_r X (zq_r X h0 7) (x102.toNatClampNeg)) k103 (zq_r X (zq_r X h0 3) 0) k105 (fun hq => by have h1 := ((L.2.2.2.1 _ k_h0).2.2.2 _ (zq_inn (i := x102) (n := 20) ⟨by omega, by omega⟩)); have h2 := (zq_now L k104 ((L.2.2.2.1 _ k_h0).1)); omega)) zmX11_203 zM_X10_copyFrom (hro (1) 3 (by first | decide | omega) (by decide)) ⟨by decide, by decide⟩ rfl hl.1 rfl rfl (Nat.le_of_ble_eq_true rfl) dX11_keepPast_16) hS (fun I108 H locs h106 hM hS => ?_)
  obtain ⟨fr109, p110⟩ := h106
  have hR := zq_fr.call hR fr109 (zf_sub (by decide +kernel) (fun b _ q => (by have h9 := ((L.2.2.2.1 _ k_h0).2.2.2 _ (zq_inn (i := x102) (n := 20) ⟨by omega, by omega⟩)); omega)))
  have hI111 := zI.one (c2 := ct) q_0 L k103 fr109 (Nat.le_refl _) (zW.copy (q_0 _ k105 (by have h9 := (zq_now L k104 ((L.2.2.2.1 _ k_h0).1)); omega)) p110)
  have hS0112 := zS0.frP q_1 L (zq_lk L.1 k_h0 rfl (by decide)) fr109 (fun q hq => (fun hp => by have h1 := (hq.trans (L.2.2.2.1 _ k_h0).2.1); have h2 := hp.trans (((L.2.2.2.1 _ k_h0).2.2.2 _ (zq_inn (i := x102) (n := 20) ⟨by omega, by omega⟩))); omega))
  refine W.eq (g2 := F0 m 19 ls []) rfl ?_
  refine lv_aload_n hx hb dX11_keepPast_19 rfl (lv_at hl 0 rfl) ?_
  refine lv_aload_n hx hb dX11_keepPast_20 rfl (lv_at hl 0 rfl) ?_
  refine zq_gk (v := x102) E hM k_h0 (zFX11_194 E hZ) (Or.inl ⟨by decide, by decide, by decide, rfl⟩) (zq_fr.kp fr109 (zf_n k_h0 rfl) ex102) dX11_keepPast_21 ?_
  refine lv_iconst (v := 1) hx hb dX11_keepPast_24 (by decide +kernel) ?_
  refine lv_iadd hx hb dX11_keepPast_25 ?_
  refine lv_topi (fun x113 ex113 => ?_)
  have tx113 := zi_add ex113 (rfl : x102.toInt = x102.toInt) (zl_1 : (1 : Int32).toInt = 1) ⟨by omega, by omega⟩
  refine lv_bipush (v := 20) hx hb dX11_keepPast_26 (by decide +kernel) ?_
  refine lv_irem hx hb dX11_keepPast_28 (by decide +kernel) ?_
  refine lv_topi (fun x114 ex114 => ?_)
  have tx114 := zi_rem ex114 (rfl : x113.toInt = x113.toInt) (zl_20 : (20 : Int32).toInt = 20) (by omega) (by omega)
  refine zq_pn E hM hS k_h0 (zGX11_194 E hZ) ⟨by decide, by decide, by decide, rfl⟩ (show 0 ≤ x114.toInt ∧ x114.toInt ≤ 19 from ⟨by omega, by omega⟩) dX11_keepPast_29 (fun I115 H locs eI115 hM hS => ?_)
  have hR := zq_fr.putE hR eI115 (zf_i k_h0 rfl rfl)
  have hI116 := zI.put hI111 L eI115 k_h0 (Or.inl ⟨by decide, by decide⟩)
  have hS0117 := zS0.put hS0112 L (zq_lk L.1 k_h0 rfl (by decide)) eI115 k_h0 (Or.inl (by decide))
  refine lv_aload_n hx hb dX11_keepPast_32 rfl (lv_at hl 0 rfl) ?_
  refine lv_aload_n hx hb dX11_keepPast_33 rfl (lv_at hl 0 rfl) ?_
  refine W.eq (g2 := F0 m 34 ls [.ref h0, .ref h0]) rfl ?_
  refine zq_gn E hM k_h0 (zFX11_191 E hZ) (Or.inl ⟨by decide, by decide, by decide, rfl⟩) dX11_keepPast_34 (fun x118 ex118 gx118 => ?_)
  clear gx118
  refine lv_iconst (v := 1) hx hb dX11_keepPast_37 (by decide +kernel) ?_
  refine lv_iadd hx hb dX11_keepPast_38 ?_
  refine lv_topi (fun x119 ex119 => ?_)
  refine lv_bipush (v := 20) hx hb dX11_keepPast_39 (by decide +kernel) ?_
  refine zq_pcalli (zq_rS (As := [.int x119, .int (20 : Int32)]) (rest := [.ref h0]) E hZ hM (c_J9_min_7cf53 l X zk (zn) I115 L x119 (20 : Int32)) zmX11_315 zM_J9_min_7cf53 (hro (0) 2 (by first | decide | omega) (by decide)) hl.1 rfl rfl (Nat.le_of_ble_eq_true rfl) dX11_keepPast_41) hS (fun x121 H locs h120 hM hS => ?_)
  have p122 := h120
  have := zl_20
  refine zq_pn E hM hS k_h0 (zGX11_191 E hZ) ⟨by decide, by decide, by decide, rfl⟩ (zq_any _) dX11_keepPast_44 (fun I123 H locs eI123 hM hS => ?_)
  have hR := zq_fr.putE hR eI123 (zf_i k_h0 rfl rfl)
  have hI124 := zI.put hI116 L eI123 k_h0 (Or.inl ⟨by decide, by decide⟩)
  have hS0125 := zS0.put hS0117 L (zq_lk L.1 k_h0 rfl (by decide)) eI123 k_h0 (Or.inl (by decide))
  refine lv_aload_n hx hb dX11_keepPast_47 rfl (lv_at hl 0 rfl) ?_
  refine zq_getr E hM k_h0 (zFX11_52 E hZ) ⟨by decide, by decide, by decide, rfl⟩ dX11_keepPast_48 ?_
  have k126 : zq_k X (zq_r X h0 10) = 3 := zq_lk L.1 k_h0 rfl (by decide)
  refine zq_callv (zq_rV (As := []) (rest := []) E hZ hM k126 (c_X2_forget l X zk (zn) I123 L (zq_r X h0 10) k126) zmX11_112 zM_X2_forget (hro (0) 1 (by first | decide | omega) (by decide)) ⟨by decide, by decide⟩ rfl hl.1 rfl rfl (Nat.le_of_ble_eq_true rfl) dX11_keepPast_51) hS (fun I129 H locs h127 hM hS => ?_)
  have fr130 := h127
  have hR := zq_fr.call hR fr130 (zf_sub (by decide +kernel) (fun _ _ q => q.elim))
  have hI131 := zI.frL hI124 L fr130 rfl rfl
  have hS0132 := zS0.fr hS0125 L (zq_lk L.1 k_h0 rfl (by decide)) fr130 rfl
  subst hQ
  exact zq_vret E hr hZ hM hS ⟨hR, (hI131), (hS0132)⟩ hlocks dX11_keepPast_54
def zw_X11_forgetPast : List (Nat × Nat) := [(3, 3), (9, 9)]
set_option maxHeartbeats 8000000 in
set_option maxRecDepth 100000 in
theorem c_X11_forgetPast (l : Launch) (X : zq_X) (zk zn : Nat) (I : zq_M) (L : zq_L X)  (h0 : Nat) (k_h0 : zq_k X h0 = 9)  : Met l yX11_forgetPast (zt_w yX11_forgetPast cX11_forgetPast 1 none) (zq_rm (1)) (va_Pc [.ref h0] (zq_W X (zk, zn) I)) (va_Qv (fun I2 => zq_fr (zf X zw_X11_forgetPast (fun _ => False)) I I2) (zq_E X (zk, zn)) (zq_A X)) 0 0 (zq_A X) := by
  refine Met.ofW (cc := cX11_forgetPast) (maxL := 1) (ret := none) (by decide) rfl ?_
  intro p e s m args below meth c s₁ B hml hv
  obtain ⟨hargs, hM, hZ⟩ := hv
  have hown : s.vm.findClass RX11 = some m.cls := findClass_of_methodNamed B.named
  have hts := atoms_spec (ws := zt_w yX11_forgetPast cX11_forgetPast 1 none) B.pre
  have E : CallFix p m c cX11_forgetPast 1 s args (Cond.code yX11_forgetPast cX11_forgetPast 1 none :: zt) RX11 := ⟨B.exec, B.bytes, hml, hown, hts⟩
  have hx := B.exec
  have hb := B.bytes
  have hr := B.returns
  have hlocks := B.notSynchronized
  clear B
  have hS : va_S (zq_A X) s.heap s.heap [] := va_S.rf
  have hR : zq_fr (zf X zw_X11_forgetPast (fun _ => False)) I I := zq_fr.rf
  have hl := lv_entry ([.ref h0]) (n := 1) (by exact Nat.le_of_ble_eq_true rfl)
  have hg : entryFrame m args 1 = F0 m 0 ((lg_sl ([.ref h0]) ++ List.replicate (1 - (lg_sl ([.ref h0])).length) Slot.unset).toArray) [] := by rw [hargs]; exact lg_entry_eq m ([.ref h0]) 1
  rw [hg]
  clear hg hargs
  generalize (lg_sl ([.ref h0]) ++ List.replicate (1 - (lg_sl ([.ref h0])).length) Slot.unset).toArray = ls at hl ⊢
  have hl : lv_has ls 1 [(0, .ref h0)] := by exact hl
  obtain ⟨R, hRm⟩ : ∃ R : Room, R = (headSpec (zt_w yX11_forgetPast cX11_forgetPast 1 none) (zq_rm (1))).room := ⟨_, rfl⟩
  rw [← hRm]
  have hro : ∀ d q : Nat, d + 1 ≤ 1 → q ≤ 45 → zq_rok d q R := fun d q h1 h2 => by rw [hRm]; exact zq_rokI h1 h2
  generalize hQ : MQ below _ args s 0 0 (zq_A X) = Q
  obtain ⟨H, hH⟩ : ∃ H, H = s.heap := ⟨_, rfl⟩
  obtain ⟨locs, hlo⟩ : ∃ x : List Loc, x = [] := ⟨_, rfl⟩
  rw [show W p l e R s m args below meth c s.heap [] 0 0 Q = W p l e R s m args below meth c H locs 0 0 Q by rw [hH, hlo]]
  have hM : zq_hm X (zk, zn) I H := by rw [hH]; exact hM
  have hS : va_S (zq_A X) s.heap H locs := by rw [hH, hlo]; exact hS
  clear hH hlo
  refine lv_aload_n hx hb dX11_forgetPast_0 rfl (lv_at hl 0 rfl) ?_
  refine lv_iconst (v := 0) hx hb dX11_forgetPast_1 (by decide +kernel) ?_
  refine zq_pn E hM hS k_h0 (zGX11_191 E hZ) ⟨by decide, by decide, by decide, rfl⟩ (zq_any _) dX11_forgetPast_2 (fun I101 H locs eI101 hM hS => ?_)
  have hR := zq_fr.putE hR eI101 (zf_i k_h0 rfl rfl)
  refine lv_aload_n hx hb dX11_forgetPast_5 rfl (lv_at hl 0 rfl) ?_
  refine zq_getr E hM k_h0 (zFX11_52 E hZ) ⟨by decide, by decide, by decide, rfl⟩ dX11_forgetPast_6 ?_
  have k102 : zq_k X (zq_r X h0 10) = 3 := zq_lk L.1 k_h0 rfl (by decide)
  refine zq_callv (zq_rV (As := []) (rest := []) E hZ hM k102 (c_X2_forget l X zk (zn) I101 L (zq_r X h0 10) k102) zmX11_112 zM_X2_forget (hro (0) 1 (by first | decide | omega) (by decide)) ⟨by decide, by decide⟩ rfl hl.1 rfl rfl (Nat.le_of_ble_eq_true rfl) dX11_forgetPast_9) hS (fun I105 H locs h103 hM hS => ?_)
  have fr106 := h103
  have hR := zq_fr.call hR fr106 (zf_sub (by decide +kernel) (fun _ _ q => q.elim))
  subst hQ
  exact zq_vret E hr hZ hM hS hR hlocks dX11_forgetPast_12
def zw_X11_feed : List (Nat × Nat) := [(6, 1), (20, 999)]
set_option maxHeartbeats 8000000 in
set_option maxRecDepth 100000 in
theorem c_X11_feed (l : Launch) (X : zq_X) (zk zn : Nat) (I : zq_M) (L : zq_L X) (ct : Nat) (h0 : Nat) (k_h0 : zq_k X h0 = 9) (p1 : Int32) (p2 : Int32) (p3 : Int32) (p4 : Int32) (p5 : Int32) (q_0 : zI X I ct) (q_1 : zS0 X I (zq_r X h0 4)) (q_2 : ct ≤ 600) : Met l yX11_feed (zt_w yX11_feed cX11_feed 6 (some .int)) (zq_rm (1)) (va_Pc [.ref h0, .int p1, .int p2, .int p3, .int p4, .int p5] (zq_W X (zk, zn) I)) (va_Qi (fun (r : Int32) I2 => zq_fr (zf X zw_X11_feed (fun _ => True)) I I2 ∧ (zI X I2 (ct + 1)) ∧ (zS0 X I2 (zq_r X h0 4)) ∧ ((-1) ≤ r.toInt ∧ r.toInt ≤ 400)) (zq_E X (zk, zn)) (zq_A X)) 0 0 (zq_A X) := by
  refine Met.ofW (cc := cX11_feed) (maxL := 6) (ret := (some .int)) (by decide) rfl ?_
  intro p e s m args below meth c s₁ B hml hv
  obtain ⟨hargs, hM, hZ⟩ := hv
  have hown : s.vm.findClass RX11 = some m.cls := findClass_of_methodNamed B.named
  have hts := atoms_spec (ws := zt_w yX11_feed cX11_feed 6 (some .int)) B.pre
  have E : CallFix p m c cX11_feed 6 s args (Cond.code yX11_feed cX11_feed 6 (some .int) :: zt) RX11 := ⟨B.exec, B.bytes, hml, hown, hts⟩
  have hx := B.exec
  have hb := B.bytes
  have hr := B.returns
  have hlocks := B.notSynchronized
  clear B
  have hS : va_S (zq_A X) s.heap s.heap [] := va_S.rf
  have hR : zq_fr (zf X zw_X11_feed (fun _ => True)) I I := zq_fr.rf
  have hl := lv_entry ([.ref h0, .int p1, .int p2, .int p3, .int p4, .int p5]) (n := 6) (by exact Nat.le_of_ble_eq_true rfl)
  have hg : entryFrame m args 6 = F0 m 0 ((lg_sl ([.ref h0, .int p1, .int p2, .int p3, .int p4, .int p5]) ++ List.replicate (6 - (lg_sl ([.ref h0, .int p1, .int p2, .int p3, .int p4, .int p5])).length) Slot.unset).toArray) [] := by rw [hargs]; exact lg_entry_eq m ([.ref h0, .int p1, .int p2, .int p3, .int p4, .int p5]) 6
  rw [hg]
  clear hg hargs
  generalize (lg_sl ([.ref h0, .int p1, .int p2, .int p3, .int p4, .int p5]) ++ List.replicate (6 - (lg_sl ([.ref h0, .int p1, .int p2, .int p3, .int p4, .int p5])).length) Slot.unset).toArray = ls at hl ⊢
  have hl : lv_has ls 6 [(0, .ref h0), (1, .int p1), (2, .int p2), (3, .int p3), (4, .int p4), (5, .int p5)] := by exact hl
  obtain ⟨R, hRm⟩ : ∃ R : Room, R = (headSpec (zt_w yX11_feed cX11_feed 6 (some .int)) (zq_rm (1))).room := ⟨_, rfl⟩
  rw [← hRm]
  have hro : ∀ d q : Nat, d + 1 ≤ 1 → q ≤ 45 → zq_rok d q R := fun d q h1 h2 => by rw [hRm]; exact zq_rokI h1 h2
  generalize hQ : MQ below _ args s 0 0 (zq_A X) = Q
  obtain ⟨H, hH⟩ : ∃ H, H = s.heap := ⟨_, rfl⟩
  obtain ⟨locs, hlo⟩ : ∃ x : List Loc, x = [] := ⟨_, rfl⟩
  rw [show W p l e R s m args below meth c s.heap [] 0 0 Q = W p l e R s m args below meth c H locs 0 0 Q by rw [hH, hlo]]
  have hM : zq_hm X (zk, zn) I H := by rw [hH]; exact hM
  have hS : va_S (zq_A X) s.heap H locs := by rw [hH, hlo]; exact hS
  clear hH hlo
  refine lv_aload_n hx hb dX11_feed_0 rfl (lv_at hl 0 rfl) ?_
  refine zq_getr E hM k_h0 (zFX11_10 E hZ) ⟨by decide, by decide, by decide, rfl⟩ dX11_feed_1 ?_
  have k101 : zq_k X (zq_r X h0 0) = 6 := zq_lk L.1 k_h0 rfl (by decide)
  refine lv_bipush (v := 20) hx hb dX11_feed_4 (by decide +kernel) ?_
  refine zq_pcalli (zq_rV (As := [.int (20 : Int32)]) (rest := []) E hZ hM k101 (c_X6_hasRoomFor l X zk (zn) I L (zq_r X h0 0) k101 (20 : Int32)) zmX11_63 zM_X6_hasRoomFor (hro (0) 2 (by first | decide | omega) (by decide)) ⟨by decide, by decide⟩ rfl hl.1 rfl rfl (Nat.le_of_ble_eq_true rfl) dX11_feed_6) hS (fun x103 H locs h102 hM hS => ?_)
  have p104 := h102
  have := zl_20
  refine lv_if_ne (tgt := 14) hx hb dX11_feed_9 (by decide) (fun b105 => ?_) (fun b105 => ?_)
  · have b105 := zi_ne b105 (rfl : x103.toInt = x103.toInt) (zl_0 : (0 : Int32).toInt = 0)
    refine lv_aload_n hx hb dX11_feed_14 rfl (lv_at hl 0 rfl) ?_
    refine zq_getr E hM k_h0 (zFX11_10 E hZ) ⟨by decide, by decide, by decide, rfl⟩ dX11_feed_15 ?_
    have k106 : zq_k X (zq_r X h0 0) = 6 := zq_lk L.1 k_h0 rfl (by decide)
    refine lv_iload_n hx hb dX11_feed_18 rfl (lv_at hl 1 rfl) ?_
    refine zq_callv (zq_rV (As := [.int p1]) (rest := []) E hZ hM k106 (c_X6_add l X zk (zn) I L (zq_r X h0 0) k106 p1) zmX11_67 zM_X6_add (hro (0) 3 (by first | decide | omega) (by decide)) ⟨by decide, by decide⟩ rfl hl.1 rfl rfl (Nat.le_of_ble_eq_true rfl) dX11_feed_19) hS (fun I109 H locs h107 hM hS => ?_)
    have fr110 := h107
    have hR := zq_fr.call hR fr110 (zf_sub (by decide +kernel) (fun _ _ _ => trivial))
    have hI111 := zI.frL q_0 L fr110 rfl rfl
    have hS0112 := zS0.fr q_1 L (zq_lk L.1 k_h0 rfl (by decide)) fr110 rfl
    refine lv_aload_n hx hb dX11_feed_22 rfl (lv_at hl 0 rfl) ?_
    refine zq_getr E hM k_h0 (zFX11_10 E hZ) ⟨by decide, by decide, by decide, rfl⟩ dX11_feed_23 ?_
    have k113 : zq_k X (zq_r X h0 0) = 6 := zq_lk L.1 k_h0 rfl (by decide)
    refine lv_iload_n hx hb dX11_feed_26 rfl (lv_at hl 2 rfl) ?_
    refine zq_callv (zq_rV (As := [.int p2]) (rest := []) E hZ hM k113 (c_X6_add l X zk (zn) I109 L (zq_r X h0 0) k113 p2) zmX11_67 zM_X6_add (hro (0) 3 (by first | decide | omega) (by decide)) ⟨by decide, by decide⟩ rfl hl.1 rfl rfl (Nat.le_of_ble_eq_true rfl) dX11_feed_27) hS (fun I116 H locs h114 hM hS => ?_)
    have fr117 := h114
    have hR := zq_fr.call hR fr117 (zf_sub (by decide +kernel) (fun _ _ _ => trivial))
    have hI118 := zI.frL hI111 L fr117 rfl rfl
    have hS0119 := zS0.fr hS0112 L (zq_lk L.1 k_h0 rfl (by decide)) fr117 rfl
    refine lv_aload_n hx hb dX11_feed_30 rfl (lv_at hl 0 rfl) ?_
    refine W.eq (g2 := F0 m 31 ls [.ref h0]) rfl ?_
    refine zq_getr E hM k_h0 (zFX11_10 E hZ) ⟨by decide, by decide, by decide, rfl⟩ dX11_feed_31 ?_
    have k120 : zq_k X (zq_r X h0 0) = 6 := zq_lk L.1 k_h0 rfl (by decide)
    refine lv_iload_n hx hb dX11_feed_34 rfl (lv_at hl 3 rfl) ?_
    refine zq_callv (zq_rV (As := [.int p3]) (rest := []) E hZ hM k120 (c_X6_add l X zk (zn) I116 L (zq_r X h0 0) k120 p3) zmX11_67 zM_X6_add (hro (0) 3 (by first | decide | omega) (by decide)) ⟨by decide, by decide⟩ rfl hl.1 rfl rfl (Nat.le_of_ble_eq_true rfl) dX11_feed_35) hS (fun I123 H locs h121 hM hS => ?_)
    have fr124 := h121
    have hR := zq_fr.call hR fr124 (zf_sub (by decide +kernel) (fun _ _ _ => trivial))
    have hI125 := zI.frL hI118 L fr124 rfl rfl
    have hS0126 := zS0.fr hS0119 L (zq_lk L.1 k_h0 rfl (by decide)) fr124 rfl
    refine lv_aload_n hx hb dX11_feed_38 rfl (lv_at hl 0 rfl) ?_
    refine zq_getr E hM k_h0 (zFX11_10 E hZ) ⟨by decide, by decide, by decide, rfl⟩ dX11_feed_39 ?_
    have k127 : zq_k X (zq_r X h0 0) = 6 := zq_lk L.1 k_h0 rfl (by decide)
    refine lv_iload hx hb dX11_feed_42 (lv_at hl 4 rfl) ?_
    refine zq_callv (zq_rV (As := [.int p4]) (rest := []) E hZ hM k127 (c_X6_add l X zk (zn) I123 L (zq_r X h0 0) k127 p4) zmX11_67 zM_X6_add (hro (0) 3 (by first | decide | omega) (by decide)) ⟨by decide, by decide⟩ rfl hl.1 rfl rfl (Nat.le_of_ble_eq_true rfl) dX11_feed_44) hS (fun I130 H locs h128 hM hS => ?_)
    have fr131 := h128
    have hR := zq_fr.call hR fr131 (zf_sub (by decide +kernel) (fun _ _ _ => trivial))
    have hI132 := zI.frL hI125 L fr131 rfl rfl
    have hS0133 := zS0.fr hS0126 L (zq_lk L.1 k_h0 rfl (by decide)) fr131 rfl
    refine lv_aload_n hx hb dX11_feed_47 rfl (lv_at hl 0 rfl) ?_
    refine zq_getr E hM k_h0 (zFX11_10 E hZ) ⟨by decide, by decide, by decide, rfl⟩ dX11_feed_48 ?_
    have k134 : zq_k X (zq_r X h0 0) = 6 := zq_lk L.1 k_h0 rfl (by decide)
    refine lv_iload hx hb dX11_feed_51 (lv_at hl 5 rfl) ?_
    refine W.eq (g2 := F0 m 53 ls [.int p5, .ref (zq_r X h0 0)]) rfl ?_
    refine zq_callv (zq_rV (As := [.int p5]) (rest := []) E hZ hM k134 (c_X6_add l X zk (zn) I130 L (zq_r X h0 0) k134 p5) zmX11_67 zM_X6_add (hro (0) 3 (by first | decide | omega) (by decide)) ⟨by decide, by decide⟩ rfl hl.1 rfl rfl (Nat.le_of_ble_eq_true rfl) dX11_feed_53) hS (fun I137 H locs h135 hM hS => ?_)
    have fr138 := h135
    have hR := zq_fr.call hR fr138 (zf_sub (by decide +kernel) (fun _ _ _ => trivial))
    have hI139 := zI.frL hI132 L fr138 rfl rfl
    have hS0140 := zS0.fr hS0133 L (zq_lk L.1 k_h0 rfl (by decide)) fr138 rfl
    refine lv_aload_n hx hb dX11_feed_56 rfl (lv_at hl 0 rfl) ?_
    refine zq_getr E hM k_h0 (zFX11_10 E hZ) ⟨by decide, by decide, by decide, rfl⟩ dX11_feed_57 ?_
    have k141 : zq_k X (zq_r X h0 0) = 6 := zq_lk L.1 k_h0 rfl (by decide)
    refine zq_gn E hM k141 (zFX11_71 E hZ) (Or.inl ⟨by decide, by decide, by decide, rfl⟩) dX11_feed_60 (fun x142 ex142 gx142 => ?_)
    replace gx142 : 0 ≤ x142.toInt ∧ x142.toInt ≤ 400 := gx142
    subst hQ
    exact zq_iret E hr hZ hM hS ⟨hR, ((zI.mono hI139 (by omega))), (hS0140), (by omega)⟩ hlocks dX11_feed_63
  · have b105 := zi_eq b105 (rfl : x103.toInt = x103.toInt) (zl_0 : (0 : Int32).toInt = 0)
    refine lv_iconst (v := (-1)) hx hb dX11_feed_12 (by decide +kernel) ?_
    subst hQ
    exact zq_iret E hr hZ hM hS ⟨hR, ((zI.mono q_0 (by omega))), (q_1), (by have := zl_m1; omega)⟩ hlocks dX11_feed_13
def zw_X11_end : List (Nat × Nat) := [(6, 1)]
set_option maxHeartbeats 8000000 in
set_option maxRecDepth 100000 in
theorem c_X11_end (l : Launch) (X : zq_X) (zk zn : Nat) (I : zq_M) (L : zq_L X) (ct : Nat) (h0 : Nat) (k_h0 : zq_k X h0 = 9) (p1 : Int32) (q_0 : zI X I ct) (q_1 : zS0 X I (zq_r X h0 4)) (q_2 : ct ≤ 600) : Met l yX11_end (zt_w yX11_end cX11_end 2 (some .int)) (zq_rm (1)) (va_Pc [.ref h0, .int p1] (zq_W X (zk, zn) I)) (va_Qi (fun (r : Int32) I2 => zq_fr (zf X zw_X11_end (fun _ => True)) I I2 ∧ (zI X I2 (ct + 1)) ∧ (zS0 X I2 (zq_r X h0 4)) ∧ ((-1) ≤ r.toInt ∧ r.toInt ≤ 400)) (zq_E X (zk, zn)) (zq_A X)) 0 0 (zq_A X) := by
  refine Met.ofW (cc := cX11_end) (maxL := 2) (ret := (some .int)) (by decide) rfl ?_
  intro p e s m args below meth c s₁ B hml hv
  obtain ⟨hargs, hM, hZ⟩ := hv
  have hown : s.vm.findClass RX11 = some m.cls := findClass_of_methodNamed B.named
  have hts := atoms_spec (ws := zt_w yX11_end cX11_end 2 (some .int)) B.pre
  have E : CallFix p m c cX11_end 2 s args (Cond.code yX11_end cX11_end 2 (some .int) :: zt) RX11 := ⟨B.exec, B.bytes, hml, hown, hts⟩
  have hx := B.exec
  have hb := B.bytes
  have hr := B.returns
  have hlocks := B.notSynchronized
  clear B
  have hS : va_S (zq_A X) s.heap s.heap [] := va_S.rf
  have hR : zq_fr (zf X zw_X11_end (fun _ => True)) I I := zq_fr.rf
  have hl := lv_entry ([.ref h0, .int p1]) (n := 2) (by exact Nat.le_of_ble_eq_true rfl)
  have hg : entryFrame m args 2 = F0 m 0 ((lg_sl ([.ref h0, .int p1]) ++ List.replicate (2 - (lg_sl ([.ref h0, .int p1])).length) Slot.unset).toArray) [] := by rw [hargs]; exact lg_entry_eq m ([.ref h0, .int p1]) 2
  rw [hg]
  clear hg hargs
  generalize (lg_sl ([.ref h0, .int p1]) ++ List.replicate (2 - (lg_sl ([.ref h0, .int p1])).length) Slot.unset).toArray = ls at hl ⊢
  have hl : lv_has ls 2 [(0, .ref h0), (1, .int p1)] := by exact hl
  obtain ⟨R, hRm⟩ : ∃ R : Room, R = (headSpec (zt_w yX11_end cX11_end 2 (some .int)) (zq_rm (1))).room := ⟨_, rfl⟩
  rw [← hRm]
  have hro : ∀ d q : Nat, d + 1 ≤ 1 → q ≤ 45 → zq_rok d q R := fun d q h1 h2 => by rw [hRm]; exact zq_rokI h1 h2
  generalize hQ : MQ below _ args s 0 0 (zq_A X) = Q
  obtain ⟨H, hH⟩ : ∃ H, H = s.heap := ⟨_, rfl⟩
  obtain ⟨locs, hlo⟩ : ∃ x : List Loc, x = [] := ⟨_, rfl⟩
  rw [show W p l e R s m args below meth c s.heap [] 0 0 Q = W p l e R s m args below meth c H locs 0 0 Q by rw [hH, hlo]]
  have hM : zq_hm X (zk, zn) I H := by rw [hH]; exact hM
  have hS : va_S (zq_A X) s.heap H locs := by rw [hH, hlo]; exact hS
  clear hH hlo
  refine lv_iload_n hx hb dX11_end_0 rfl (lv_at hl 1 rfl) ?_
  refine lv_iconst (v := 0) hx hb dX11_end_1 (by decide +kernel) ?_
  refine lv_aload_n hx hb dX11_end_2 rfl (lv_at hl 0 rfl) ?_
  refine zq_getr E hM k_h0 (zFX11_10 E hZ) ⟨by decide, by decide, by decide, rfl⟩ dX11_end_3 ?_
  have k101 : zq_k X (zq_r X h0 0) = 6 := zq_lk L.1 k_h0 rfl (by decide)
  refine zq_gn E hM k101 (zFX11_71 E hZ) (Or.inl ⟨by decide, by decide, by decide, rfl⟩) dX11_end_6 (fun x102 ex102 gx102 => ?_)
  replace gx102 : 0 ≤ x102.toInt ∧ x102.toInt ≤ 400 := gx102
  refine zq_pcalli (zq_rS (As := [.int p1, .int (0 : Int32), .int x102]) (rest := []) E hZ hM (c_X11_isWithin l X zk (zn) I L p1 (0 : Int32) x102) zmX11_75 zM_X11_isWithin (hro (0) 3 (by first | decide | omega) (by decide)) hl.1 rfl rfl (Nat.le_of_ble_eq_true rfl) dX11_end_9) hS (fun x104 H locs h103 hM hS => ?_)
  obtain ⟨p105, p106⟩ := h103
  have := zl_0
  refine lv_if_ne (tgt := 17) hx hb dX11_end_12 (by decide) (fun b107 => ?_) (fun b107 => ?_)
  · have b107 := zi_ne b107 (rfl : x104.toInt = x104.toInt) (zl_0 : (0 : Int32).toInt = 0)
    refine lv_aload_n hx hb dX11_end_17 rfl (lv_at hl 0 rfl) ?_
    refine zq_getr E hM k_h0 (zFX11_10 E hZ) ⟨by decide, by decide, by decide, rfl⟩ dX11_end_18 ?_
    have k108 : zq_k X (zq_r X h0 0) = 6 := zq_lk L.1 k_h0 rfl (by decide)
    refine lv_iload_n hx hb dX11_end_21 rfl (lv_at hl 1 rfl) ?_
    refine zq_pn E hM hS k108 (zGX11_71 E hZ) ⟨by decide, by decide, by decide, rfl⟩ (show 0 ≤ p1.toInt ∧ p1.toInt ≤ 400 from ⟨by omega, by omega⟩) dX11_end_22 (fun I109 H locs eI109 hM hS => ?_)
    have hR := zq_fr.putE hR eI109 (zf_i k108 rfl rfl)
    have hI110 := zI.put q_0 L eI109 k108 (Or.inl ⟨by decide, by decide⟩)
    have hS0111 := zS0.put q_1 L (zq_lk L.1 k_h0 rfl (by decide)) eI109 k108 (Or.inl (by decide))
    refine lv_iload_n hx hb dX11_end_25 rfl (lv_at hl 1 rfl) ?_
    subst hQ
    exact zq_iret E hr hZ hM hS ⟨hR, ((zI.mono hI110 (by omega))), (hS0111), (by omega)⟩ hlocks dX11_end_26
  · have b107 := zi_eq b107 (rfl : x104.toInt = x104.toInt) (zl_0 : (0 : Int32).toInt = 0)
    refine lv_iconst (v := (-1)) hx hb dX11_end_15 (by decide +kernel) ?_
    subst hQ
    exact zq_iret E hr hZ hM hS ⟨hR, ((zI.mono q_0 (by omega))), (q_1), (by have := zl_m1; omega)⟩ hlocks dX11_end_16
def zw_X11_trade : List (Nat × Nat) := [(1, 6), (3, 3), (5, 0), (5, 1), (5, 2), (5, 3), (5, 4), (5, 5), (6, 1), (6, 7), (6, 8), (6, 9), (7, 0), (7, 1), (7, 2), (7, 3), (7, 4), (7, 5), (7, 6), (8, 0), (8, 1), (8, 2), (8, 3), (8, 4), (8, 5), (8, 6), (9, 9), (22, 999), (30, 999), (43, 999)]
set_option maxHeartbeats 8000000 in
set_option maxRecDepth 100000 in
theorem c_X11_trade (l : Launch) (X : zq_X) (zk zn : Nat) (I : zq_M) (L : zq_L X) (ct : Nat) (h0 : Nat) (k_h0 : zq_k X h0 = 9) (q_0 : zI X I ct) (q_1 : zS0 X I (zq_r X h0 4)) (q_2 : ct ≤ 600) : Met l yX11_trade (zt_w yX11_trade cX11_trade 1 (some .int)) (zq_rm (8)) (va_Pc [.ref h0] (zq_W X (zk, zn) I)) (va_Qi (fun (r : Int32) I2 => zq_fr (zf X zw_X11_trade (fun _ => True)) I I2 ∧ (zI X I2 (ct + 1)) ∧ (zS0 X I2 (zq_r X h0 4))) (zq_E X (zk, zn)) (zq_A X)) 0 0 (zq_A X) := by
  refine Met.ofW (cc := cX11_trade) (maxL := 1) (ret := (some .int)) (by decide) rfl ?_
  intro p e s m args below meth c s₁ B hml hv
  obtain ⟨hargs, hM, hZ⟩ := hv
  have hown : s.vm.findClass RX11 = some m.cls := findClass_of_methodNamed B.named
  have hts := atoms_spec (ws := zt_w yX11_trade cX11_trade 1 (some .int)) B.pre
  have E : CallFix p m c cX11_trade 1 s args (Cond.code yX11_trade cX11_trade 1 (some .int) :: zt) RX11 := ⟨B.exec, B.bytes, hml, hown, hts⟩
  have hx := B.exec
  have hb := B.bytes
  have hr := B.returns
  have hlocks := B.notSynchronized
  clear B
  have hS : va_S (zq_A X) s.heap s.heap [] := va_S.rf
  have hR : zq_fr (zf X zw_X11_trade (fun _ => True)) I I := zq_fr.rf
  have hl := lv_entry ([.ref h0]) (n := 1) (by exact Nat.le_of_ble_eq_true rfl)
  have hg : entryFrame m args 1 = F0 m 0 ((lg_sl ([.ref h0]) ++ List.replicate (1 - (lg_sl ([.ref h0])).length) Slot.unset).toArray) [] := by rw [hargs]; exact lg_entry_eq m ([.ref h0]) 1
  rw [hg]
  clear hg hargs
  generalize (lg_sl ([.ref h0]) ++ List.replicate (1 - (lg_sl ([.ref h0])).length) Slot.unset).toArray = ls at hl ⊢
  have hl : lv_has ls 1 [(0, .ref h0)] := by exact hl
  obtain ⟨R, hRm⟩ : ∃ R : Room, R = (headSpec (zt_w yX11_trade cX11_trade 1 (some .int)) (zq_rm (8))).room := ⟨_, rfl⟩
  rw [← hRm]
  have hro : ∀ d q : Nat, d + 1 ≤ 8 → q ≤ 45 → zq_rok d q R := fun d q h1 h2 => by rw [hRm]; exact zq_rokI h1 h2
  generalize hQ : MQ below _ args s 0 0 (zq_A X) = Q
  obtain ⟨H, hH⟩ : ∃ H, H = s.heap := ⟨_, rfl⟩
  obtain ⟨locs, hlo⟩ : ∃ x : List Loc, x = [] := ⟨_, rfl⟩
  rw [show W p l e R s m args below meth c s.heap [] 0 0 Q = W p l e R s m args below meth c H locs 0 0 Q by rw [hH, hlo]]
  have hM : zq_hm X (zk, zn) I H := by rw [hH]; exact hM
  have hS : va_S (zq_A X) s.heap H locs := by rw [hH, hlo]; exact hS
  clear hH hlo
  refine lv_aload_n hx hb dX11_trade_0 rfl (lv_at hl 0 rfl) ?_
  refine zq_getr E hM k_h0 (zFX11_10 E hZ) ⟨by decide, by decide, by decide, rfl⟩ dX11_trade_1 ?_
  have k101 : zq_k X (zq_r X h0 0) = 6 := zq_lk L.1 k_h0 rfl (by decide)
  refine lv_aload_n hx hb dX11_trade_4 rfl (lv_at hl 0 rfl) ?_
  refine zq_getr E hM k_h0 (zFX11_33 E hZ) ⟨by decide, by decide, by decide, rfl⟩ dX11_trade_5 ?_
  have k102 : zq_k X (zq_r X h0 4) = 8 := zq_lk L.1 k_h0 rfl (by decide)
  refine zq_calli (zq_rS (As := [.ref (zq_r X h0 0), .ref (zq_r X h0 4)]) (rest := []) E hZ hM (c_X8_reads l X zk (zn) I L (zq_r X h0 0) k101 (zq_r X h0 4) k102 (q_1)) zmX11_79 zM_X8_reads (hro (7) 3 (by first | decide | omega) (by decide)) hl.1 rfl rfl (Nat.le_of_ble_eq_true rfl) dX11_trade_8) hS (fun x104 I105 H locs h103 hM hS => ?_)
  obtain ⟨fr106, p107, p108, p109⟩ := h103
  have hR := zq_fr.call hR fr106 (zf_sub (by decide +kernel) (fun _ _ _ => trivial))
  have hI110 := zI.frP q_0 L fr106 (fun q hp => by have h2 := hp.trans ((L.2.2.2.1 _ k_h0).2.1); omega)
  have hS0111 := zS0.fr q_1 L (zq_lk L.1 k_h0 rfl (by decide)) fr106 rfl
  refine lv_if_ne (tgt := 25) hx hb dX11_trade_11 (by decide) (fun b112 => ?_) (fun b112 => ?_)
  · have b112 := zi_ne b112 (rfl : x104.toInt = x104.toInt) (zl_0 : (0 : Int32).toInt = 0)
    have hD113 : zW X I105 0 (zq_r X h0 4) := p108.resolve_left (by omega)
    refine lv_aload_n hx hb dX11_trade_25 rfl (lv_at hl 0 rfl) ?_
    refine zq_getr E hM k_h0 (zFX11_10 E hZ) ⟨by decide, by decide, by decide, rfl⟩ dX11_trade_26 ?_
    have k114 : zq_k X (zq_r X h0 0) = 6 := zq_lk L.1 k_h0 rfl (by decide)
    refine lv_iconst (v := 0) hx hb dX11_trade_29 (by decide +kernel) ?_
    refine zq_pn E hM hS k114 (zGX11_71 E hZ) ⟨by decide, by decide, by decide, rfl⟩ (show 0 ≤ (0 : Int32).toInt ∧ (0 : Int32).toInt ≤ 400 by decide +kernel) dX11_trade_30 (fun I115 H locs eI115 hM hS => ?_)
    have hR := zq_fr.putE hR eI115 (zf_i k114 rfl rfl)
    have hI116 := zI.put hI110 L eI115 k114 (Or.inl ⟨by decide, by decide⟩)
    have hS0117 := zS0.put p107 L (zq_lk L.1 k_h0 rfl (by decide)) eI115 k114 (Or.inl (by decide))
    have hW118 := zW.put hD113 L (zq_lk L.1 k_h0 rfl (by decide)) eI115 k114 (Or.inl ⟨by decide, by decide⟩)
    refine lv_aload_n hx hb dX11_trade_33 rfl (lv_at hl 0 rfl) ?_
    refine zq_getr E hM k_h0 (zFX11_26 E hZ) ⟨by decide, by decide, by decide, rfl⟩ dX11_trade_34 ?_
    have k119 : zq_k X (zq_r X h0 3) = 1 := zq_lk L.1 k_h0 rfl (by decide)
    refine lv_aload_n hx hb dX11_trade_37 rfl (lv_at hl 0 rfl) ?_
    refine zq_getr E hM k_h0 (zFX11_33 E hZ) ⟨by decide, by decide, by decide, rfl⟩ dX11_trade_38 ?_
    have k120 : zq_k X (zq_r X h0 4) = 8 := zq_lk L.1 k_h0 rfl (by decide)
    refine zq_callv (zq_rV (As := [.ref (zq_r X h0 4)]) (rest := []) E hZ hM k119 (c_X0_open l X zk (zn) I115 L (0) (zq_r X h0 3) k119 (zq_r X h0 4) k120 (hW118) ((L.2.2.2.1 _ k_h0).2.1)) zmX11_88 zM_X0_open (hro (2) 2 (by first | decide | omega) (by decide)) ⟨by decide, by decide⟩ rfl hl.1 rfl rfl (Nat.le_of_ble_eq_true rfl) dX11_trade_41) hS (fun I123 H locs h121 hM hS => ?_)
    obtain ⟨fr124, p125, p126⟩ := h121
    have hR := zq_fr.call hR fr124 (zf_sub (by decide +kernel) (fun _ _ _ => trivial))
    have hI127 := zI.two hI116 L k119 fr124 (zW.mono p125 (by omega)) (zW.mono p126 (by omega))
    have hS0128 := zS0.frP hS0117 L (zq_lk L.1 k_h0 rfl (by decide)) fr124 (fun q hq => (fun hp => hp.elim (fun hp => by have h3 := (L.2.2.1 _ k119).1; have h1 := (hq.trans (L.2.2.2.1 _ k_h0).2.1); omega) (fun hp => by have h3 := (L.2.2.1 _ k119).1; have h1 := (hq.trans (L.2.2.2.1 _ k_h0).2.1); omega)))
    have hW129 := zW.frP hW118 L (zq_lk L.1 k_h0 rfl (by decide)) fr124 (fun q hq hp => by have h1 := hq.trans ((L.2.2.2.1 _ k_h0).2.1); exact (fun hp => hp.elim (fun hp => by have h3 := (L.2.2.1 _ k119).1; omega) (fun hp => by have h3 := (L.2.2.1 _ k119).1; omega)) hp)
    refine W.eq (g2 := F0 m 44 ls []) rfl ?_
    refine lv_aload_n hx hb dX11_trade_44 rfl (lv_at hl 0 rfl) ?_
    refine zq_callv (zq_rV (As := []) (rest := []) E hZ hM k_h0 (c_X11_forgetPast l X zk (zn) I123 L h0 k_h0) zmX11_92 zM_X11_forgetPast (hro (1) 1 (by first | decide | omega) (by decide)) ⟨by decide, by decide⟩ rfl hl.1 rfl rfl (Nat.le_of_ble_eq_true rfl) dX11_trade_45) hS (fun I132 H locs h130 hM hS => ?_)
    have fr133 := h130
    have hR := zq_fr.call hR fr133 (zf_sub (by decide +kernel) (fun _ _ _ => trivial))
    have hI134 := zI.frL hI127 L fr133 rfl rfl
    have hS0135 := zS0.fr hS0128 L (zq_lk L.1 k_h0 rfl (by decide)) fr133 rfl
    have hW136 := zW.frL hW129 L (zq_lk L.1 k_h0 rfl (by decide)) fr133 rfl rfl
    refine lv_aload_n hx hb dX11_trade_48 rfl (lv_at hl 0 rfl) ?_
    refine zq_getr E hM k_h0 (zFX11_26 E hZ) ⟨by decide, by decide, by decide, rfl⟩ dX11_trade_49 ?_
    have k137 : zq_k X (zq_r X h0 3) = 1 := zq_lk L.1 k_h0 rfl (by decide)
    refine zq_getr E hM k137 (zFX11_95 E hZ) ⟨by decide, by decide, by decide, rfl⟩ dX11_trade_52 ?_
    have k138 : zq_k X (zq_r X (zq_r X h0 3) 0) = 8 := zq_lk L.1 k137 rfl (by decide)
    refine zq_gn E hM k138 (zFX11_98 E hZ) (Or.inl ⟨by decide, by decide, by decide, rfl⟩) dX11_trade_55 (fun x139 ex139 gx139 => ?_)
    replace gx139 : 0 ≤ x139.toInt ∧ x139.toInt ≤ 4 := gx139
    subst hQ
    exact zq_iret E hr hZ hM hS ⟨hR, ((zI.mono hI134 (by omega))), (hS0135)⟩ hlocks dX11_trade_58
  · have b112 := zi_eq b112 (rfl : x104.toInt = x104.toInt) (zl_0 : (0 : Int32).toInt = 0)
    refine lv_bipush (v := (-2)) hx hb dX11_trade_14 (by decide +kernel) ?_
    refine lv_aload_n hx hb dX11_trade_16 rfl (lv_at hl 0 rfl) ?_
    refine zq_getr E hM k_h0 (zFX11_10 E hZ) ⟨by decide, by decide, by decide, rfl⟩ dX11_trade_17 ?_
    have k140 : zq_k X (zq_r X h0 0) = 6 := zq_lk L.1 k_h0 rfl (by decide)
    refine zq_gn E hM k140 (zFX11_85 E hZ) (Or.inl ⟨by decide, by decide, by decide, rfl⟩) dX11_trade_20 (fun x141 ex141 gx141 => ?_)
    clear gx141
    refine lv_isub hx hb dX11_trade_23 ?_
    refine lv_topi (fun x142 ex142 => ?_)
    subst hQ
    exact zq_iret E hr hZ hM hS ⟨hR, ((zI.mono hI110 (by omega))), (p107)⟩ hlocks dX11_trade_24
def zw_X11_rule : List (Nat × Nat) := [(4, 3), (4, 8), (4, 10), (4, 15), (6, 1), (6, 7), (6, 8), (6, 9), (9, 2), (22, 999), (25, 999), (26, 999), (27, 999), (28, 999), (29, 999), (43, 999)]
set_option maxHeartbeats 8000000 in
set_option maxRecDepth 100000 in
theorem c_X11_rule (l : Launch) (X : zq_X) (zk zn : Nat) (I : zq_M) (L : zq_L X) (ct : Nat) (h0 : Nat) (k_h0 : zq_k X h0 = 9) (q_0 : zI X I ct) (q_1 : zS0 X I (zq_r X h0 4)) (q_2 : ct ≤ 600) : Met l yX11_rule (zt_w yX11_rule cX11_rule 2 (some .int)) (zq_rm (27)) (va_Pc [.ref h0] (zq_W X (zk, zn) I)) (va_Qi (fun (r : Int32) I2 => zq_fr (zf X zw_X11_rule (fun _ => True)) I I2 ∧ (zI X I2 (ct + 1)) ∧ (zS0 X I2 (zq_r X h0 4))) (zq_E X (zk, zn)) (zq_A X)) 0 0 (zq_A X) := by
  refine Met.ofW (cc := cX11_rule) (maxL := 2) (ret := (some .int)) (by decide) rfl ?_
  intro p e s m args below meth c s₁ B hml hv
  obtain ⟨hargs, hM, hZ⟩ := hv
  have hown : s.vm.findClass RX11 = some m.cls := findClass_of_methodNamed B.named
  have hts := atoms_spec (ws := zt_w yX11_rule cX11_rule 2 (some .int)) B.pre
  have E : CallFix p m c cX11_rule 2 s args (Cond.code yX11_rule cX11_rule 2 (some .int) :: zt) RX11 := ⟨B.exec, B.bytes, hml, hown, hts⟩
  have hx := B.exec
  have hb := B.bytes
  have hr := B.returns
  have hlocks := B.notSynchronized
  clear B
  have hS : va_S (zq_A X) s.heap s.heap [] := va_S.rf
  have hR : zq_fr (zf X zw_X11_rule (fun _ => True)) I I := zq_fr.rf
  have hl := lv_entry ([.ref h0]) (n := 2) (by exact Nat.le_of_ble_eq_true rfl)
  have hg : entryFrame m args 2 = F0 m 0 ((lg_sl ([.ref h0]) ++ List.replicate (2 - (lg_sl ([.ref h0])).length) Slot.unset).toArray) [] := by rw [hargs]; exact lg_entry_eq m ([.ref h0]) 2
  rw [hg]
  clear hg hargs
  generalize (lg_sl ([.ref h0]) ++ List.replicate (2 - (lg_sl ([.ref h0])).length) Slot.unset).toArray = ls at hl ⊢
  have hl : lv_has ls 2 [(0, .ref h0)] := by exact hl
  obtain ⟨R, hRm⟩ : ∃ R : Room, R = (headSpec (zt_w yX11_rule cX11_rule 2 (some .int)) (zq_rm (27))).room := ⟨_, rfl⟩
  rw [← hRm]
  have hro : ∀ d q : Nat, d + 1 ≤ 27 → q ≤ 45 → zq_rok d q R := fun d q h1 h2 => by rw [hRm]; exact zq_rokI h1 h2
  generalize hQ : MQ below _ args s 0 0 (zq_A X) = Q
  obtain ⟨H, hH⟩ : ∃ H, H = s.heap := ⟨_, rfl⟩
  obtain ⟨locs, hlo⟩ : ∃ x : List Loc, x = [] := ⟨_, rfl⟩
  rw [show W p l e R s m args below meth c s.heap [] 0 0 Q = W p l e R s m args below meth c H locs 0 0 Q by rw [hH, hlo]]
  have hM : zq_hm X (zk, zn) I H := by rw [hH]; exact hM
  have hS : va_S (zq_A X) s.heap H locs := by rw [hH, hlo]; exact hS
  clear hH hlo
  refine lv_aload_n hx hb dX11_rule_0 rfl (lv_at hl 0 rfl) ?_
  refine zq_gn E hM k_h0 (zFX11_101 E hZ) (Or.inl ⟨by decide, by decide, by decide, rfl⟩) dX11_rule_1 (fun x101 ex101 gx101 => ?_)
  replace gx101 : 0 ≤ x101.toInt ∧ x101.toInt ≤ 6 := gx101
  refine lv_aload_n hx hb dX11_rule_4 rfl (lv_at hl 0 rfl) ?_
  refine zq_getr E hM k_h0 (zFX11_18 E hZ) ⟨by decide, by decide, by decide, rfl⟩ dX11_rule_5 ?_
  have k102 : zq_k X (zq_r X h0 1) = 39 := zq_lk L.1 k_h0 rfl (by decide)
  refine zq_alen (n := 6) (t := 4) (v := 6) E hZ hM k102 ⟨by decide, rfl⟩ (by decide) (by decide +kernel) dX11_rule_8 ?_
  refine lv_icmp_lt (tgt := 14) hx hb dX11_rule_9 (by decide) (fun b103 => ?_) (fun b103 => ?_)
  · have b103 := zi_lt b103 (rfl : x101.toInt = x101.toInt) (zl_6 : (6 : Int32).toInt = 6)
    refine lv_aload_n hx hb dX11_rule_14 rfl (lv_at hl 0 rfl) ?_
    refine zq_getr E hM k_h0 (zFX11_10 E hZ) ⟨by decide, by decide, by decide, rfl⟩ dX11_rule_15 ?_
    have k104 : zq_k X (zq_r X h0 0) = 6 := zq_lk L.1 k_h0 rfl (by decide)
    refine lv_aload_n hx hb dX11_rule_18 rfl (lv_at hl 0 rfl) ?_
    refine zq_getr E hM k_h0 (zFX11_18 E hZ) ⟨by decide, by decide, by decide, rfl⟩ dX11_rule_19 ?_
    have k105 : zq_k X (zq_r X h0 1) = 39 := zq_lk L.1 k_h0 rfl (by decide)
    refine lv_aload_n hx hb dX11_rule_22 rfl (lv_at hl 0 rfl) ?_
    refine zq_gk (v := x101) E hM k_h0 (zFX11_101 E hZ) (Or.inl ⟨by decide, by decide, by decide, rfl⟩) ex101 dX11_rule_23 ?_
    refine zq_rald (n := 6) (t := 4) (j := (x101.toNatClampNeg)) E hZ hM k105 ⟨by decide, rfl⟩ ⟨rfl, by decide, by decide⟩ ⟨by omega, by omega⟩ rfl dX11_rule_26 ?_
    have k106 : zq_k X (zq_r X (zq_r X h0 1) (x101.toNatClampNeg)) = 4 := zq_lay_a L.1 k105 (n := 6) (zq_inn (i := x101) (n := 6) ⟨by omega, by omega⟩) (by decide) (by decide)
    refine zq_calli (zq_rS (As := [.ref (zq_r X h0 0), .ref (zq_r X (zq_r X h0 1) (x101.toNatClampNeg))]) (rest := []) E hZ hM (c_X4_reads l X zk (zn) I L (zq_r X h0 0) k104 (zq_r X (zq_r X h0 1) (x101.toNatClampNeg)) k106) zmX11_104 zM_X4_reads (hro (26) 3 (by first | decide | omega) (by decide)) hl.1 rfl rfl (Nat.le_of_ble_eq_true rfl) dX11_rule_27) hS (fun x108 I109 H locs h107 hM hS => ?_)
    obtain ⟨fr110, p111⟩ := h107
    have hR := zq_fr.call hR fr110 (zf_sub (by decide +kernel) (fun _ _ _ => trivial))
    have hI112 := zI.frL q_0 L fr110 rfl rfl
    have hS0113 := zS0.fr q_1 L (zq_lk L.1 k_h0 rfl (by decide)) fr110 rfl
    refine lv_istore_n (lv' := [(1, .int x108), (0, .ref h0)]) hx hb dX11_rule_30 rfl hl (by decide) rfl (fun ls hl => ?_)
    refine W.eq (g2 := F0 m 31 ls []) rfl ?_
    refine lv_aload_n hx hb dX11_rule_31 rfl (lv_at hl 1 rfl) ?_
    refine zq_getr E hM k_h0 (zFX11_10 E hZ) ⟨by decide, by decide, by decide, rfl⟩ dX11_rule_32 ?_
    have k114 : zq_k X (zq_r X h0 0) = 6 := zq_lk L.1 k_h0 rfl (by decide)
    refine lv_iconst (v := 0) hx hb dX11_rule_35 (by decide +kernel) ?_
    refine zq_pn E hM hS k114 (zGX11_71 E hZ) ⟨by decide, by decide, by decide, rfl⟩ (show 0 ≤ (0 : Int32).toInt ∧ (0 : Int32).toInt ≤ 400 by decide +kernel) dX11_rule_36 (fun I115 H locs eI115 hM hS => ?_)
    have hR := zq_fr.putE hR eI115 (zf_i k114 rfl rfl)
    have hI116 := zI.put hI112 L eI115 k114 (Or.inl ⟨by decide, by decide⟩)
    have hS0117 := zS0.put hS0113 L (zq_lk L.1 k_h0 rfl (by decide)) eI115 k114 (Or.inl (by decide))
    refine lv_iload_n hx hb dX11_rule_39 rfl (lv_at hl 0 rfl) ?_
    refine lv_if_ne (tgt := 54) hx hb dX11_rule_40 (by decide) (fun b118 => ?_) (fun b118 => ?_)
    · have b118 := zi_ne b118 (rfl : x108.toInt = x108.toInt) (zl_0 : (0 : Int32).toInt = 0)
      refine lv_aload_n hx hb dX11_rule_54 rfl (lv_at hl 1 rfl) ?_
      refine lv_dup hx hb dX11_rule_55 rfl ?_
      refine zq_gk (v := x101) E hM k_h0 (zFX11_101 E hZ) (Or.inl ⟨by decide, by decide, by decide, rfl⟩) (zq_kp eI115 (Or.inl (zq_kne k_h0 k114 (by decide))) (zq_fr.kp fr110 (zf_n k_h0 rfl) ex101)) dX11_rule_56 ?_
      refine lv_iconst (v := 1) hx hb dX11_rule_59 (by decide +kernel) ?_
      refine lv_iadd hx hb dX11_rule_60 ?_
      refine lv_topi (fun x119 ex119 => ?_)
      have tx119 := zi_add ex119 (rfl : x101.toInt = x101.toInt) (zl_1 : (1 : Int32).toInt = 1) ⟨by omega, by omega⟩
      refine zq_pn E hM hS k_h0 (zGX11_101 E hZ) ⟨by decide, by decide, by decide, rfl⟩ (show 0 ≤ x119.toInt ∧ x119.toInt ≤ 6 from ⟨by omega, by omega⟩) dX11_rule_61 (fun I120 H locs eI120 hM hS => ?_)
      have hR := zq_fr.putE hR eI120 (zf_i k_h0 rfl rfl)
      have hI121 := zI.put hI116 L eI120 k_h0 (Or.inl ⟨by decide, by decide⟩)
      have hS0122 := zS0.put hS0117 L (zq_lk L.1 k_h0 rfl (by decide)) eI120 k_h0 (Or.inl (by decide))
      refine lv_aload_n hx hb dX11_rule_64 rfl (lv_at hl 1 rfl) ?_
      refine zq_gk (v := x119) E hM k_h0 (zFX11_101 E hZ) (Or.inl ⟨by decide, by decide, by decide, rfl⟩) (zq_kv eI120) dX11_rule_65 ?_
      refine lv_iconst (v := 1) hx hb dX11_rule_68 (by decide +kernel) ?_
      refine W.eq (g2 := F0 m 69 ls [.int (1 : Int32), .int x119]) rfl ?_
      refine lv_isub hx hb dX11_rule_69 ?_
      refine lv_topi (fun x123 ex123 => ?_)
      have tx123 := zi_sub ex123 (rfl : x119.toInt = x119.toInt) (zl_1 : (1 : Int32).toInt = 1) ⟨by omega, by omega⟩
      subst hQ
      exact zq_iret E hr hZ hM hS ⟨hR, ((zI.mono hI121 (by omega))), (hS0122)⟩ hlocks dX11_rule_70
    · have b118 := zi_eq b118 (rfl : x108.toInt = x108.toInt) (zl_0 : (0 : Int32).toInt = 0)
      refine lv_bipush (v := (-2)) hx hb dX11_rule_43 (by decide +kernel) ?_
      refine lv_aload_n hx hb dX11_rule_45 rfl (lv_at hl 1 rfl) ?_
      refine zq_getr E hM k_h0 (zFX11_10 E hZ) ⟨by decide, by decide, by decide, rfl⟩ dX11_rule_46 ?_
      have k124 : zq_k X (zq_r X h0 0) = 6 := zq_lk L.1 k_h0 rfl (by decide)
      refine zq_gn E hM k124 (zFX11_85 E hZ) (Or.inl ⟨by decide, by decide, by decide, rfl⟩) dX11_rule_49 (fun x125 ex125 gx125 => ?_)
      clear gx125
      refine lv_isub hx hb dX11_rule_52 ?_
      refine lv_topi (fun x126 ex126 => ?_)
      subst hQ
      exact zq_iret E hr hZ hM hS ⟨hR, ((zI.mono hI116 (by omega))), (hS0117)⟩ hlocks dX11_rule_53
  · have b103 := zi_nlt b103 (rfl : x101.toInt = x101.toInt) (zl_6 : (6 : Int32).toInt = 6)
    refine lv_iconst (v := (-1)) hx hb dX11_rule_12 (by decide +kernel) ?_
    subst hQ
    exact zq_iret E hr hZ hM hS ⟨hR, ((zI.mono q_0 (by omega))), (q_1)⟩ hlocks dX11_rule_13
def zw_X11_force : List (Nat × Nat) := [(1, 2), (3, 3)]
set_option maxHeartbeats 8000000 in
set_option maxRecDepth 100000 in
theorem c_X11_force (l : Launch) (X : zq_X) (zk zn : Nat) (I : zq_M) (L : zq_L X) (ct : Nat) (h0 : Nat) (k_h0 : zq_k X h0 = 9) (p1 : Int32) (q_0 : zI X I ct) (q_1 : zS0 X I (zq_r X h0 4)) (q_2 : ct ≤ 600) : Met l yX11_force (zt_w yX11_force cX11_force 3 (some .int)) (zq_rm (1)) (va_Pc [.ref h0, .int p1] (zq_W X (zk, zn) I)) (va_Qi (fun (r : Int32) I2 => zq_fr (zf X zw_X11_force (fun _ => True)) I I2 ∧ (zI X I2 (ct + 1)) ∧ (zS0 X I2 (zq_r X h0 4))) (zq_E X (zk, zn)) (zq_A X)) 0 0 (zq_A X) := by
  refine Met.ofW (cc := cX11_force) (maxL := 3) (ret := (some .int)) (by decide) rfl ?_
  intro p e s m args below meth c s₁ B hml hv
  obtain ⟨hargs, hM, hZ⟩ := hv
  have hown : s.vm.findClass RX11 = some m.cls := findClass_of_methodNamed B.named
  have hts := atoms_spec (ws := zt_w yX11_force cX11_force 3 (some .int)) B.pre
  have E : CallFix p m c cX11_force 3 s args (Cond.code yX11_force cX11_force 3 (some .int) :: zt) RX11 := ⟨B.exec, B.bytes, hml, hown, hts⟩
  have hx := B.exec
  have hb := B.bytes
  have hr := B.returns
  have hlocks := B.notSynchronized
  clear B
  have hS : va_S (zq_A X) s.heap s.heap [] := va_S.rf
  have hR : zq_fr (zf X zw_X11_force (fun _ => True)) I I := zq_fr.rf
  have hl := lv_entry ([.ref h0, .int p1]) (n := 3) (by exact Nat.le_of_ble_eq_true rfl)
  have hg : entryFrame m args 3 = F0 m 0 ((lg_sl ([.ref h0, .int p1]) ++ List.replicate (3 - (lg_sl ([.ref h0, .int p1])).length) Slot.unset).toArray) [] := by rw [hargs]; exact lg_entry_eq m ([.ref h0, .int p1]) 3
  rw [hg]
  clear hg hargs
  generalize (lg_sl ([.ref h0, .int p1]) ++ List.replicate (3 - (lg_sl ([.ref h0, .int p1])).length) Slot.unset).toArray = ls at hl ⊢
  have hl : lv_has ls 3 [(0, .ref h0), (1, .int p1)] := by exact hl
  obtain ⟨R, hRm⟩ : ∃ R : Room, R = (headSpec (zt_w yX11_force cX11_force 3 (some .int)) (zq_rm (1))).room := ⟨_, rfl⟩
  rw [← hRm]
  have hro : ∀ d q : Nat, d + 1 ≤ 1 → q ≤ 45 → zq_rok d q R := fun d q h1 h2 => by rw [hRm]; exact zq_rokI h1 h2
  generalize hQ : MQ below _ args s 0 0 (zq_A X) = Q
  obtain ⟨H, hH⟩ : ∃ H, H = s.heap := ⟨_, rfl⟩
  obtain ⟨locs, hlo⟩ : ∃ x : List Loc, x = [] := ⟨_, rfl⟩
  rw [show W p l e R s m args below meth c s.heap [] 0 0 Q = W p l e R s m args below meth c H locs 0 0 Q by rw [hH, hlo]]
  have hM : zq_hm X (zk, zn) I H := by rw [hH]; exact hM
  have hS : va_S (zq_A X) s.heap H locs := by rw [hH, hlo]; exact hS
  clear hH hlo
  refine lv_iload_n hx hb dX11_force_0 rfl (lv_at hl 1 rfl) ?_
  refine lv_iconst (v := (-1)) hx hb dX11_force_1 (by decide +kernel) ?_
  refine lv_aload_n hx hb dX11_force_2 rfl (lv_at hl 0 rfl) ?_
  refine zq_gn E hM k_h0 (zFX11_101 E hZ) (Or.inl ⟨by decide, by decide, by decide, rfl⟩) dX11_force_3 (fun x101 ex101 gx101 => ?_)
  replace gx101 : 0 ≤ x101.toInt ∧ x101.toInt ≤ 6 := gx101
  refine lv_iconst (v := 1) hx hb dX11_force_6 (by decide +kernel) ?_
  refine lv_isub hx hb dX11_force_7 ?_
  refine lv_topi (fun x102 ex102 => ?_)
  have tx102 := zi_sub ex102 (rfl : x101.toInt = x101.toInt) (zl_1 : (1 : Int32).toInt = 1) ⟨by omega, by omega⟩
  refine zq_pcalli (zq_rS (As := [.int p1, .int (-1 : Int32), .int x102]) (rest := []) E hZ hM (c_X11_isWithin l X zk (zn) I L p1 (-1 : Int32) x102) zmX11_75 zM_X11_isWithin (hro (0) 3 (by first | decide | omega) (by decide)) hl.1 rfl rfl (Nat.le_of_ble_eq_true rfl) dX11_force_8) hS (fun x104 H locs h103 hM hS => ?_)
  obtain ⟨p105, p106⟩ := h103
  have := zl_m1
  refine lv_if_ne (tgt := 17) hx hb dX11_force_11 (by decide) (fun b107 => ?_) (fun b107 => ?_)
  · have b107 := zi_ne b107 (rfl : x104.toInt = x104.toInt) (zl_0 : (0 : Int32).toInt = 0)
    refine lv_aload_n hx hb dX11_force_17 rfl (lv_at hl 0 rfl) ?_
    refine zq_getr E hM k_h0 (zFX11_26 E hZ) ⟨by decide, by decide, by decide, rfl⟩ dX11_force_18 ?_
    have k108 : zq_k X (zq_r X h0 3) = 1 := zq_lk L.1 k_h0 rfl (by decide)
    refine zq_gn E hM k108 (zFX11_109 E hZ) (Or.inl ⟨by decide, by decide, by decide, rfl⟩) dX11_force_21 (fun x109 ex109 gx109 => ?_)
    clear gx109
    refine lv_istore_n (lv' := [(2, .int x109), (0, .ref h0), (1, .int p1)]) hx hb dX11_force_24 rfl hl (by decide) rfl (fun ls hl => ?_)
    refine lv_aload_n hx hb dX11_force_25 rfl (lv_at hl 1 rfl) ?_
    refine zq_getr E hM k_h0 (zFX11_26 E hZ) ⟨by decide, by decide, by decide, rfl⟩ dX11_force_26 ?_
    have k110 : zq_k X (zq_r X h0 3) = 1 := zq_lk L.1 k_h0 rfl (by decide)
    refine lv_iload_n hx hb dX11_force_29 rfl (lv_at hl 2 rfl) ?_
    refine zq_pn E hM hS k110 (zGX11_109 E hZ) ⟨by decide, by decide, by decide, rfl⟩ (zq_any _) dX11_force_30 (fun I111 H locs eI111 hM hS => ?_)
    have hR := zq_fr.putE hR eI111 (zf_i k110 rfl rfl)
    have hI112 := zI.put q_0 L eI111 k110 (Or.inl ⟨by decide, by decide⟩)
    have hS0113 := zS0.put q_1 L (zq_lk L.1 k_h0 rfl (by decide)) eI111 k110 (Or.inl (by decide))
    refine lv_aload_n hx hb dX11_force_33 rfl (lv_at hl 1 rfl) ?_
    refine W.eq (g2 := F0 m 34 ls [.ref h0]) rfl ?_
    refine zq_getr E hM k_h0 (zFX11_52 E hZ) ⟨by decide, by decide, by decide, rfl⟩ dX11_force_34 ?_
    have k114 : zq_k X (zq_r X h0 10) = 3 := zq_lk L.1 k_h0 rfl (by decide)
    refine zq_callv (zq_rV (As := []) (rest := []) E hZ hM k114 (c_X2_forget l X zk (zn) I111 L (zq_r X h0 10) k114) zmX11_112 zM_X2_forget (hro (0) 1 (by first | decide | omega) (by decide)) ⟨by decide, by decide⟩ rfl hl.1 rfl rfl (Nat.le_of_ble_eq_true rfl) dX11_force_37) hS (fun I117 H locs h115 hM hS => ?_)
    have fr118 := h115
    have hR := zq_fr.call hR fr118 (zf_sub (by decide +kernel) (fun _ _ _ => trivial))
    have hI119 := zI.frL hI112 L fr118 rfl rfl
    have hS0120 := zS0.fr hS0113 L (zq_lk L.1 k_h0 rfl (by decide)) fr118 rfl
    refine lv_iload_n hx hb dX11_force_40 rfl (lv_at hl 0 rfl) ?_
    subst hQ
    exact zq_iret E hr hZ hM hS ⟨hR, ((zI.mono hI119 (by omega))), (hS0120)⟩ hlocks dX11_force_41
  · have b107 := zi_eq b107 (rfl : x104.toInt = x104.toInt) (zl_0 : (0 : Int32).toInt = 0)
    refine lv_bipush (v := (-2)) hx hb dX11_force_14 (by decide +kernel) ?_
    subst hQ
    exact zq_iret E hr hZ hM hS ⟨hR, ((zI.mono q_0 (by omega))), (q_1)⟩ hlocks dX11_force_16
set_option maxHeartbeats 8000000 in
set_option maxRecDepth 100000 in
theorem c_X11_ship (l : Launch) (X : zq_X) (zk zn : Nat) (I : zq_M) (L : zq_L X) (ct : Nat) (h0 : Nat) (k_h0 : zq_k X h0 = 9) (p1 : Int32) (p2 : Int32) (q_0 : zI X I ct) (q_1 : zS0 X I (zq_r X h0 4)) (q_2 : ct ≤ 600) : Met l yX11_ship (zt_w yX11_ship cX11_ship 3 (some .int)) (zq_rm (1)) (va_Pc [.ref h0, .int p1, .int p2] (zq_W X (zk, zn) I)) (va_Qi (fun (r : Int32) I2 => I2 = I ∧ (zI X I2 (ct + 1)) ∧ (zS0 X I2 (zq_r X h0 4))) (zq_E X (zk, zn)) (zq_A X)) 0 0 (zq_A X) := by
  refine Met.ofW (cc := cX11_ship) (maxL := 3) (ret := (some .int)) (by decide) rfl ?_
  intro p e s m args below meth c s₁ B hml hv
  obtain ⟨hargs, hM, hZ⟩ := hv
  have hown : s.vm.findClass RX11 = some m.cls := findClass_of_methodNamed B.named
  have hts := atoms_spec (ws := zt_w yX11_ship cX11_ship 3 (some .int)) B.pre
  have E : CallFix p m c cX11_ship 3 s args (Cond.code yX11_ship cX11_ship 3 (some .int) :: zt) RX11 := ⟨B.exec, B.bytes, hml, hown, hts⟩
  have hx := B.exec
  have hb := B.bytes
  have hr := B.returns
  have hlocks := B.notSynchronized
  clear B
  have hS : va_S (zq_A X) s.heap s.heap [] := va_S.rf
  have hl := lv_entry ([.ref h0, .int p1, .int p2]) (n := 3) (by exact Nat.le_of_ble_eq_true rfl)
  have hg : entryFrame m args 3 = F0 m 0 ((lg_sl ([.ref h0, .int p1, .int p2]) ++ List.replicate (3 - (lg_sl ([.ref h0, .int p1, .int p2])).length) Slot.unset).toArray) [] := by rw [hargs]; exact lg_entry_eq m ([.ref h0, .int p1, .int p2]) 3
  rw [hg]
  clear hg hargs
  generalize (lg_sl ([.ref h0, .int p1, .int p2]) ++ List.replicate (3 - (lg_sl ([.ref h0, .int p1, .int p2])).length) Slot.unset).toArray = ls at hl ⊢
  have hl : lv_has ls 3 [(0, .ref h0), (1, .int p1), (2, .int p2)] := by exact hl
  obtain ⟨R, hRm⟩ : ∃ R : Room, R = (headSpec (zt_w yX11_ship cX11_ship 3 (some .int)) (zq_rm (1))).room := ⟨_, rfl⟩
  rw [← hRm]
  have hro : ∀ d q : Nat, d + 1 ≤ 1 → q ≤ 45 → zq_rok d q R := fun d q h1 h2 => by rw [hRm]; exact zq_rokI h1 h2
  generalize hQ : MQ below _ args s 0 0 (zq_A X) = Q
  obtain ⟨H, hH⟩ : ∃ H, H = s.heap := ⟨_, rfl⟩
  obtain ⟨locs, hlo⟩ : ∃ x : List Loc, x = [] := ⟨_, rfl⟩
  rw [show W p l e R s m args below meth c s.heap [] 0 0 Q = W p l e R s m args below meth c H locs 0 0 Q by rw [hH, hlo]]
  have hM : zq_hm X (zk, zn) I H := by rw [hH]; exact hM
  have hS : va_S (zq_A X) s.heap H locs := by rw [hH, hlo]; exact hS
  clear hH hlo
  refine lv_aload_n hx hb dX11_ship_0 rfl (lv_at hl 0 rfl) ?_
  refine zq_getr E hM k_h0 (zFX11_26 E hZ) ⟨by decide, by decide, by decide, rfl⟩ dX11_ship_1 ?_
  have k101 : zq_k X (zq_r X h0 3) = 1 := zq_lk L.1 k_h0 rfl (by decide)
  refine zq_getr E hM k101 (zFX11_95 E hZ) ⟨by decide, by decide, by decide, rfl⟩ dX11_ship_4 ?_
  have k102 : zq_k X (zq_r X (zq_r X h0 3) 0) = 8 := zq_lk L.1 k101 rfl (by decide)
  refine lv_iload_n hx hb dX11_ship_7 rfl (lv_at hl 1 rfl) ?_
  refine zq_pcalli (zq_rV (As := [.int p1]) (rest := []) E hZ hM k102 (c_X10_hasShip l X zk (zn) I L (zq_r X (zq_r X h0 3) 0) k102 p1) zmX11_115 zM_X10_hasShip (hro (0) 2 (by first | decide | omega) (by decide)) ⟨by decide, by decide⟩ rfl hl.1 rfl rfl (Nat.le_of_ble_eq_true rfl) dX11_ship_8) hS (fun x104 H locs h103 hM hS => ?_)
  obtain ⟨p105, p106⟩ := h103
  refine lv_if_eq (tgt := 33) hx hb dX11_ship_11 (by decide) (fun b107 => ?_) (fun b107 => ?_)
  · have b107 := zi_eq b107 (rfl : x104.toInt = x104.toInt) (zl_0 : (0 : Int32).toInt = 0)
    refine lv_bipush (v := (-2)) hx hb dX11_ship_33 (by decide +kernel) ?_
    subst hQ
    exact zq_iret E hr hZ hM hS ⟨rfl, ((zI.mono q_0 (by omega))), (q_1)⟩ hlocks dX11_ship_35
  · have b107 := zi_ne b107 (rfl : x104.toInt = x104.toInt) (zl_0 : (0 : Int32).toInt = 0)
    refine lv_aload_n hx hb dX11_ship_14 rfl (lv_at hl 0 rfl) ?_
    refine zq_getr E hM k_h0 (zFX11_26 E hZ) ⟨by decide, by decide, by decide, rfl⟩ dX11_ship_15 ?_
    have k108 : zq_k X (zq_r X h0 3) = 1 := zq_lk L.1 k_h0 rfl (by decide)
    refine zq_getr E hM k108 (zFX11_95 E hZ) ⟨by decide, by decide, by decide, rfl⟩ dX11_ship_18 ?_
    have k109 : zq_k X (zq_r X (zq_r X h0 3) 0) = 8 := zq_lk L.1 k108 rfl (by decide)
    refine zq_getr E hM k109 (zFX11_118 E hZ) ⟨by decide, by decide, by decide, rfl⟩ dX11_ship_21 ?_
    have k110 : zq_k X (zq_r X (zq_r X (zq_r X h0 3) 0) 8) = 31 := zq_lk L.1 k109 rfl (by decide)
    refine lv_iload_n hx hb dX11_ship_24 rfl (lv_at hl 1 rfl) ?_
    refine zq_rald (n := 3) (t := 7) (j := (p1.toNatClampNeg)) E hZ hM k110 ⟨by decide, rfl⟩ ⟨rfl, by decide, by decide⟩ ⟨by omega, by omega⟩ rfl dX11_ship_25 ?_
    have k111 : zq_k X (zq_r X (zq_r X (zq_r X (zq_r X h0 3) 0) 8) (p1.toNatClampNeg)) = 5 := zq_lay_a L.1 k110 (n := 3) (zq_inn (i := p1) (n := 3) ⟨by omega, by omega⟩) (by decide) (by decide)
    refine lv_iload_n hx hb dX11_ship_26 rfl (lv_at hl 2 rfl) ?_
    refine zq_pcalli (zq_rV (As := [.int p2]) (rest := []) E hZ hM k111 (c_X5_detail l X zk (zn) I L (zq_r X (zq_r X (zq_r X (zq_r X h0 3) 0) 8) (p1.toNatClampNeg)) k111 p2) zmX11_122 zM_X5_detail (hro (0) 2 (by first | decide | omega) (by decide)) ⟨by decide, by decide⟩ rfl hl.1 rfl rfl (Nat.le_of_ble_eq_true rfl) dX11_ship_27) hS (fun x113 H locs h112 hM hS => ?_)
    clear h112
    refine lv_goto (tgt := 35) hx hb dX11_ship_30 (by decide) ?_
    refine W.eq (g2 := F0 m 35 ls [.int x113]) rfl ?_
    subst hQ
    exact zq_iret E hr hZ hM hS ⟨rfl, ((zI.mono q_0 (by omega))), (q_1)⟩ hlocks dX11_ship_35
set_option maxHeartbeats 8000000 in
set_option maxRecDepth 100000 in
theorem c_X11_town (l : Launch) (X : zq_X) (zk zn : Nat) (I : zq_M) (L : zq_L X) (ct : Nat) (h0 : Nat) (k_h0 : zq_k X h0 = 9) (p1 : Int32) (p2 : Int32) (q_0 : zI X I ct) (q_1 : zS0 X I (zq_r X h0 4)) (q_2 : ct ≤ 600) : Met l yX11_town (zt_w yX11_town cX11_town 3 (some .int)) (zq_rm (1)) (va_Pc [.ref h0, .int p1, .int p2] (zq_W X (zk, zn) I)) (va_Qi (fun (r : Int32) I2 => I2 = I ∧ (zI X I2 (ct + 1)) ∧ (zS0 X I2 (zq_r X h0 4))) (zq_E X (zk, zn)) (zq_A X)) 0 0 (zq_A X) := by
  refine Met.ofW (cc := cX11_town) (maxL := 3) (ret := (some .int)) (by decide) rfl ?_
  intro p e s m args below meth c s₁ B hml hv
  obtain ⟨hargs, hM, hZ⟩ := hv
  have hown : s.vm.findClass RX11 = some m.cls := findClass_of_methodNamed B.named
  have hts := atoms_spec (ws := zt_w yX11_town cX11_town 3 (some .int)) B.pre
  have E : CallFix p m c cX11_town 3 s args (Cond.code yX11_town cX11_town 3 (some .int) :: zt) RX11 := ⟨B.exec, B.bytes, hml, hown, hts⟩
  have hx := B.exec
  have hb := B.bytes
  have hr := B.returns
  have hlocks := B.notSynchronized
  clear B
  have hS : va_S (zq_A X) s.heap s.heap [] := va_S.rf
  have hl := lv_entry ([.ref h0, .int p1, .int p2]) (n := 3) (by exact Nat.le_of_ble_eq_true rfl)
  have hg : entryFrame m args 3 = F0 m 0 ((lg_sl ([.ref h0, .int p1, .int p2]) ++ List.replicate (3 - (lg_sl ([.ref h0, .int p1, .int p2])).length) Slot.unset).toArray) [] := by rw [hargs]; exact lg_entry_eq m ([.ref h0, .int p1, .int p2]) 3
  rw [hg]
  clear hg hargs
  generalize (lg_sl ([.ref h0, .int p1, .int p2]) ++ List.replicate (3 - (lg_sl ([.ref h0, .int p1, .int p2])).length) Slot.unset).toArray = ls at hl ⊢
  have hl : lv_has ls 3 [(0, .ref h0), (1, .int p1), (2, .int p2)] := by exact hl
  obtain ⟨R, hRm⟩ : ∃ R : Room, R = (headSpec (zt_w yX11_town cX11_town 3 (some .int)) (zq_rm (1))).room := ⟨_, rfl⟩
  rw [← hRm]
  have hro : ∀ d q : Nat, d + 1 ≤ 1 → q ≤ 45 → zq_rok d q R := fun d q h1 h2 => by rw [hRm]; exact zq_rokI h1 h2
  generalize hQ : MQ below _ args s 0 0 (zq_A X) = Q
  obtain ⟨H, hH⟩ : ∃ H, H = s.heap := ⟨_, rfl⟩
  obtain ⟨locs, hlo⟩ : ∃ x : List Loc, x = [] := ⟨_, rfl⟩
  rw [show W p l e R s m args below meth c s.heap [] 0 0 Q = W p l e R s m args below meth c H locs 0 0 Q by rw [hH, hlo]]
  have hM : zq_hm X (zk, zn) I H := by rw [hH]; exact hM
  have hS : va_S (zq_A X) s.heap H locs := by rw [hH, hlo]; exact hS
  clear hH hlo
  refine lv_aload_n hx hb dX11_town_0 rfl (lv_at hl 0 rfl) ?_
  refine zq_getr E hM k_h0 (zFX11_26 E hZ) ⟨by decide, by decide, by decide, rfl⟩ dX11_town_1 ?_
  have k101 : zq_k X (zq_r X h0 3) = 1 := zq_lk L.1 k_h0 rfl (by decide)
  refine zq_getr E hM k101 (zFX11_95 E hZ) ⟨by decide, by decide, by decide, rfl⟩ dX11_town_4 ?_
  have k102 : zq_k X (zq_r X (zq_r X h0 3) 0) = 8 := zq_lk L.1 k101 rfl (by decide)
  refine lv_iload_n hx hb dX11_town_7 rfl (lv_at hl 1 rfl) ?_
  refine zq_pcalli (zq_rV (As := [.int p1]) (rest := []) E hZ hM k102 (c_X10_hasTown l X zk (zn) I L (zq_r X (zq_r X h0 3) 0) k102 p1) zmX11_128 zM_X10_hasTown (hro (0) 2 (by first | decide | omega) (by decide)) ⟨by decide, by decide⟩ rfl hl.1 rfl rfl (Nat.le_of_ble_eq_true rfl) dX11_town_8) hS (fun x104 H locs h103 hM hS => ?_)
  obtain ⟨p105, p106, p107⟩ := h103
  refine lv_if_ne (tgt := 16) hx hb dX11_town_11 (by decide) (fun b108 => ?_) (fun b108 => ?_)
  · have b108 := zi_ne b108 (rfl : x104.toInt = x104.toInt) (zl_0 : (0 : Int32).toInt = 0)
    refine lv_iload_n hx hb dX11_town_16 rfl (lv_at hl 2 rfl) ?_
    refine lv_bipush (v := 6) hx hb dX11_town_17 (by decide +kernel) ?_
    refine lv_icmp_ne (tgt := 36) hx hb dX11_town_19 (by decide) (fun b109 => ?_) (fun b109 => ?_)
    · have b109 := zi_ne b109 (rfl : p2.toInt = p2.toInt) (zl_6 : (6 : Int32).toInt = 6)
      refine lv_aload_n hx hb dX11_town_36 rfl (lv_at hl 0 rfl) ?_
      refine zq_getr E hM k_h0 (zFX11_26 E hZ) ⟨by decide, by decide, by decide, rfl⟩ dX11_town_37 ?_
      have k110 : zq_k X (zq_r X h0 3) = 1 := zq_lk L.1 k_h0 rfl (by decide)
      refine zq_getr E hM k110 (zFX11_95 E hZ) ⟨by decide, by decide, by decide, rfl⟩ dX11_town_40 ?_
      have k111 : zq_k X (zq_r X (zq_r X h0 3) 0) = 8 := zq_lk L.1 k110 rfl (by decide)
      refine zq_getr E hM k111 (zFX11_134 E hZ) ⟨by decide, by decide, by decide, rfl⟩ dX11_town_43 ?_
      have k112 : zq_k X (zq_r X (zq_r X (zq_r X h0 3) 0) 9) = 32 := zq_lk L.1 k111 rfl (by decide)
      refine lv_iload_n hx hb dX11_town_46 rfl (lv_at hl 1 rfl) ?_
      refine zq_rald (n := 4) (t := 8) (j := (p1.toNatClampNeg)) E hZ hM k112 ⟨by decide, rfl⟩ ⟨rfl, by decide, by decide⟩ ⟨by omega, by omega⟩ rfl dX11_town_47 ?_
      have k113 : zq_k X (zq_r X (zq_r X (zq_r X (zq_r X h0 3) 0) 9) (p1.toNatClampNeg)) = 7 := zq_lay_a L.1 k112 (n := 4) (zq_inn (i := p1) (n := 4) ⟨by omega, by omega⟩) (by decide) (by decide)
      refine lv_iload_n hx hb dX11_town_48 rfl (lv_at hl 2 rfl) ?_
      refine zq_pcalli (zq_rV (As := [.int p2]) (rest := []) E hZ hM k113 (c_X7_detail l X zk (zn) I L (zq_r X (zq_r X (zq_r X (zq_r X h0 3) 0) 9) (p1.toNatClampNeg)) k113 p2) zmX11_138 zM_X7_detail (hro (0) 2 (by first | decide | omega) (by decide)) ⟨by decide, by decide⟩ rfl hl.1 rfl rfl (Nat.le_of_ble_eq_true rfl) dX11_town_49) hS (fun x115 H locs h114 hM hS => ?_)
      clear h114
      subst hQ
      exact zq_iret E hr hZ hM hS ⟨rfl, ((zI.mono q_0 (by omega))), (q_1)⟩ hlocks dX11_town_52
    · have b109 := zi_eq b109 (rfl : p2.toInt = p2.toInt) (zl_6 : (6 : Int32).toInt = 6)
      refine lv_aload_n hx hb dX11_town_22 rfl (lv_at hl 0 rfl) ?_
      refine zq_getr E hM k_h0 (zFX11_26 E hZ) ⟨by decide, by decide, by decide, rfl⟩ dX11_town_23 ?_
      have k116 : zq_k X (zq_r X h0 3) = 1 := zq_lk L.1 k_h0 rfl (by decide)
      refine zq_getr E hM k116 (zFX11_95 E hZ) ⟨by decide, by decide, by decide, rfl⟩ dX11_town_26 ?_
      have k117 : zq_k X (zq_r X (zq_r X h0 3) 0) = 8 := zq_lk L.1 k116 rfl (by decide)
      refine lv_iload_n hx hb dX11_town_29 rfl (lv_at hl 1 rfl) ?_
      refine zq_pcalli (zq_rV (As := [.int p1]) (rest := []) E hZ hM k117 (c_X10_blocksFor l X zk (zn) I L (zq_r X (zq_r X h0 3) 0) k117 p1) zmX11_131 zM_X10_blocksFor (hro (0) 4 (by first | decide | omega) (by decide)) ⟨by decide, by decide⟩ rfl hl.1 rfl rfl (Nat.le_of_ble_eq_true rfl) dX11_town_30) hS (fun x119 H locs h118 hM hS => ?_)
      clear h118
      refine lv_goto (tgt := 52) hx hb dX11_town_33 (by decide) ?_
      subst hQ
      exact zq_iret E hr hZ hM hS ⟨rfl, ((zI.mono q_0 (by omega))), (q_1)⟩ hlocks dX11_town_52
  · have b108 := zi_eq b108 (rfl : x104.toInt = x104.toInt) (zl_0 : (0 : Int32).toInt = 0)
    refine lv_iconst (v := (-1)) hx hb dX11_town_14 (by decide +kernel) ?_
    subst hQ
    exact zq_iret E hr hZ hM hS ⟨rfl, ((zI.mono q_0 (by omega))), (q_1)⟩ hlocks dX11_town_15
def zw_X11_month : List (Nat × Nat) := [(3, 3), (5, 0), (5, 1), (5, 2), (5, 3), (5, 4), (5, 5), (7, 0), (7, 1), (7, 2), (7, 3), (7, 4), (7, 5), (7, 6), (8, 0), (8, 1), (8, 2), (8, 3), (8, 4), (8, 5), (8, 6), (9, 8), (9, 9), (30, 999)]
set_option maxHeartbeats 8000000 in
set_option maxRecDepth 100000 in
theorem c_X11_month (l : Launch) (X : zq_X) (zk zn : Nat) (I : zq_M) (L : zq_L X) (ct : Nat) (h0 : Nat) (k_h0 : zq_k X h0 = 9) (q_0 : zI X I ct) (q_1 : zS0 X I (zq_r X h0 4)) (q_2 : ct ≤ 600) : Met l yX11_month (zt_w yX11_month cX11_month 1 (some .int)) (zq_rm (5)) (va_Pc [.ref h0] (zq_W X (zk, zn) I)) (va_Qi (fun (r : Int32) I2 => zq_fr (zf X zw_X11_month (fun _ => True)) I I2 ∧ (zI X I2 (ct + 1)) ∧ (zS0 X I2 (zq_r X h0 4))) (zq_E X (zk, zn)) (zq_A X)) 0 0 (zq_A X) := by
  refine Met.ofW (cc := cX11_month) (maxL := 1) (ret := (some .int)) (by decide) rfl ?_
  intro p e s m args below meth c s₁ B hml hv
  obtain ⟨hargs, hM, hZ⟩ := hv
  have hown : s.vm.findClass RX11 = some m.cls := findClass_of_methodNamed B.named
  have hts := atoms_spec (ws := zt_w yX11_month cX11_month 1 (some .int)) B.pre
  have E : CallFix p m c cX11_month 1 s args (Cond.code yX11_month cX11_month 1 (some .int) :: zt) RX11 := ⟨B.exec, B.bytes, hml, hown, hts⟩
  have hx := B.exec
  have hb := B.bytes
  have hr := B.returns
  have hlocks := B.notSynchronized
  clear B
  have hS : va_S (zq_A X) s.heap s.heap [] := va_S.rf
  have hR : zq_fr (zf X zw_X11_month (fun _ => True)) I I := zq_fr.rf
  have hl := lv_entry ([.ref h0]) (n := 1) (by exact Nat.le_of_ble_eq_true rfl)
  have hg : entryFrame m args 1 = F0 m 0 ((lg_sl ([.ref h0]) ++ List.replicate (1 - (lg_sl ([.ref h0])).length) Slot.unset).toArray) [] := by rw [hargs]; exact lg_entry_eq m ([.ref h0]) 1
  rw [hg]
  clear hg hargs
  generalize (lg_sl ([.ref h0]) ++ List.replicate (1 - (lg_sl ([.ref h0])).length) Slot.unset).toArray = ls at hl ⊢
  have hl : lv_has ls 1 [(0, .ref h0)] := by exact hl
  obtain ⟨R, hRm⟩ : ∃ R : Room, R = (headSpec (zt_w yX11_month cX11_month 1 (some .int)) (zq_rm (5))).room := ⟨_, rfl⟩
  rw [← hRm]
  have hro : ∀ d q : Nat, d + 1 ≤ 5 → q ≤ 45 → zq_rok d q R := fun d q h1 h2 => by rw [hRm]; exact zq_rokI h1 h2
  generalize hQ : MQ below _ args s 0 0 (zq_A X) = Q
  obtain ⟨H, hH⟩ : ∃ H, H = s.heap := ⟨_, rfl⟩
  obtain ⟨locs, hlo⟩ : ∃ x : List Loc, x = [] := ⟨_, rfl⟩
  rw [show W p l e R s m args below meth c s.heap [] 0 0 Q = W p l e R s m args below meth c H locs 0 0 Q by rw [hH, hlo]]
  have hM : zq_hm X (zk, zn) I H := by rw [hH]; exact hM
  have hS : va_S (zq_A X) s.heap H locs := by rw [hH, hlo]; exact hS
  clear hH hlo
  refine lv_aload_n hx hb dX11_month_0 rfl (lv_at hl 0 rfl) ?_
  refine zq_getr E hM k_h0 (zFX11_26 E hZ) ⟨by decide, by decide, by decide, rfl⟩ dX11_month_1 ?_
  have k101 : zq_k X (zq_r X h0 3) = 1 := zq_lk L.1 k_h0 rfl (by decide)
  refine zq_getr E hM k101 (zFX11_95 E hZ) ⟨by decide, by decide, by decide, rfl⟩ dX11_month_4 ?_
  have k102 : zq_k X (zq_r X (zq_r X h0 3) 0) = 8 := zq_lk L.1 k101 rfl (by decide)
  refine zq_gn E hM k102 (zFX11_141 E hZ) (Or.inr ⟨by decide, by decide, by decide, rfl⟩) dX11_month_7 (fun x103 ex103 gx103 => ?_)
  replace gx103 : 0 ≤ x103.toInt ∧ x103.toInt ≤ 1 := gx103
  refine lv_if_eq (tgt := 29) hx hb dX11_month_10 (by decide) (fun b104 => ?_) (fun b104 => ?_)
  · have b104 := zi_eq b104 (rfl : x103.toInt = x103.toInt) (zl_0 : (0 : Int32).toInt = 0)
    refine lv_iconst (v := (-1)) hx hb dX11_month_29 (by decide +kernel) ?_
    subst hQ
    exact zq_iret E hr hZ hM hS ⟨hR, ((zI.mono q_0 (by omega))), (q_1)⟩ hlocks dX11_month_30
  · have b104 := zi_ne b104 (rfl : x103.toInt = x103.toInt) (zl_0 : (0 : Int32).toInt = 0)
    refine lv_aload_n hx hb dX11_month_13 rfl (lv_at hl 0 rfl) ?_
    refine zq_getr E hM k_h0 (zFX11_26 E hZ) ⟨by decide, by decide, by decide, rfl⟩ dX11_month_14 ?_
    have k105 : zq_k X (zq_r X h0 3) = 1 := zq_lk L.1 k_h0 rfl (by decide)
    refine zq_getr E hM k105 (zFX11_95 E hZ) ⟨by decide, by decide, by decide, rfl⟩ dX11_month_17 ?_
    have k106 : zq_k X (zq_r X (zq_r X h0 3) 0) = 8 := zq_lk L.1 k105 rfl (by decide)
    refine zq_gn E hM k106 (zFX11_145 E hZ) (Or.inl ⟨by decide, by decide, by decide, rfl⟩) dX11_month_20 (fun x107 ex107 gx107 => ?_)
    clear gx107
    refine lv_sipush (v := 999) hx hb dX11_month_23 (by decide +kernel) ?_
    refine lv_icmp_lt (tgt := 31) hx hb dX11_month_26 (by decide) (fun b108 => ?_) (fun b108 => ?_)
    · have b108 := zi_lt b108 (rfl : x107.toInt = x107.toInt) (zl_999 : (999 : Int32).toInt = 999)
      refine lv_aload_n hx hb dX11_month_31 rfl (lv_at hl 0 rfl) ?_
      refine zq_callv (zq_rV (As := []) (rest := []) E hZ hM k_h0 (c_X11_keepPast l X zk (zn) I L (ct) h0 k_h0 (q_0) (q_1) (by omega)) zmX11_148 zM_X11_keepPast (hro (2) 1 (by first | decide | omega) (by decide)) ⟨by decide, by decide⟩ rfl hl.1 rfl rfl (Nat.le_of_ble_eq_true rfl) dX11_month_32) hS (fun I111 H locs h109 hM hS => ?_)
      obtain ⟨fr112, p113, p114⟩ := h109
      have hR := zq_fr.call hR fr112 (zf_sub (by decide +kernel) (fun _ _ _ => trivial))
      have hS0116 := zS0.frP q_1 L (zq_lk L.1 k_h0 rfl (by decide)) fr112 (fun q hq => (fun hp => by have h1 := (hq.trans (L.2.2.2.1 _ k_h0).2.1); omega))
      refine lv_aload_n hx hb dX11_month_35 rfl (lv_at hl 0 rfl) ?_
      refine zq_getr E hM k_h0 (zFX11_26 E hZ) ⟨by decide, by decide, by decide, rfl⟩ dX11_month_36 ?_
      have k117 : zq_k X (zq_r X h0 3) = 1 := zq_lk L.1 k_h0 rfl (by decide)
      refine zq_getr E hM k117 (zFX11_95 E hZ) ⟨by decide, by decide, by decide, rfl⟩ dX11_month_39 ?_
      have k118 : zq_k X (zq_r X (zq_r X h0 3) 0) = 8 := zq_lk L.1 k117 rfl (by decide)
      refine lv_aload_n hx hb dX11_month_42 rfl (lv_at hl 0 rfl) ?_
      refine zq_call_o (aa := #[]) (zq_rV (As := []) (rest := [.ref (zq_r X (zq_r X h0 3) 0)]) E hZ hM k_h0 (c_X11_ruleInForce l X zk (zn) I111 L h0 k_h0) zmX11_151 zM_X11_ruleInForce (hro (1) 1 (by first | decide | omega) (by decide)) ⟨by decide, by decide⟩ rfl hl.1 rfl rfl (Nat.le_of_ble_eq_true rfl) dX11_month_43) hS (fun y120 I121 H locs h119 hqy120 hM hS => ?_)
      obtain ⟨fr122, p123⟩ := h119
      rw [fr122] at hM
      refine lv_bipush (v := 100) hx hb dX11_month_46 (by decide +kernel) ?_
      refine zq_calli (zq_rV (As := [va_rf y120, .int (100 : Int32)]) (rest := []) E hZ hM k118 (c_X10_passMonth l X zk (zn) I111 L (297 * (((ct : Nat)) : Int)) (zq_r X (zq_r X h0 3) 0) k118 y120 hqy120 (100 : Int32) ((p113 _ k118 (by have h9 := (zq_now L k117 ((L.2.2.2.1 _ k_h0).1)); omega))) (by have := zl_100; omega)) zmX11_155 zM_X10_passMonth (hro (4) 6 (by first | decide | omega) (by decide)) ⟨by decide, by decide⟩ rfl hl.1 rfl rfl (Nat.le_of_ble_eq_true rfl) dX11_month_48) hS (fun x125 I126 H locs h124 hM hS => ?_)
      obtain ⟨fr127, p128⟩ := h124
      have := zl_100
      have hR := zq_fr.call hR fr127 (zf_sub (by decide +kernel) (fun _ _ _ => trivial))
      have hI129 := zI.one (c2 := ct + 1) p113 L k118 fr127 (by omega) (zW.mono p128 (by omega))
      have hS0130 := zS0.frP p114 L (zq_lk L.1 k_h0 rfl (by decide)) fr127 (fun q hq => (fun hp => by have h1 := (hq.trans (L.2.2.2.1 _ k_h0).2.1); have h2 := hp.trans ((zq_now L k117 ((L.2.2.2.1 _ k_h0).1))); omega))
      refine W.eq (g2 := F0 m 51 ls [.int x125]) rfl ?_
      subst hQ
      exact zq_iret E hr hZ hM hS ⟨hR, (hI129), (hS0130)⟩ hlocks dX11_month_51
    · have b108 := zi_nlt b108 (rfl : x107.toInt = x107.toInt) (zl_999 : (999 : Int32).toInt = 999)
      refine lv_iconst (v := (-1)) hx hb dX11_month_29 (by decide +kernel) ?_
      subst hQ
      exact zq_iret E hr hZ hM hS ⟨hR, ((zI.mono q_0 (by omega))), (q_1)⟩ hlocks dX11_month_30
def zw_X11_sail : List (Nat × Nat) := [(3, 3), (5, 0), (5, 1), (5, 2), (5, 3), (5, 4), (5, 5), (7, 0), (7, 1), (7, 2), (7, 3), (7, 4), (7, 5), (7, 6), (8, 0), (8, 1), (8, 2), (8, 3), (8, 4), (8, 5), (8, 6), (9, 8), (9, 9), (30, 999)]
set_option maxHeartbeats 8000000 in
set_option maxRecDepth 100000 in
theorem c_X11_sail (l : Launch) (X : zq_X) (zk zn : Nat) (I : zq_M) (L : zq_L X) (ct : Nat) (h0 : Nat) (k_h0 : zq_k X h0 = 9) (p1 : Int32) (p2 : Int32) (p3 : Int32) (p4 : Int32) (g_p4 : 0 ≤ p4.toInt ∧ p4.toInt ≤ 1) (q_0 : zI X I ct) (q_1 : zS0 X I (zq_r X h0 4)) (q_2 : ct ≤ 600) : Met l yX11_sail (zt_w yX11_sail cX11_sail 5 (some .int)) (zq_rm (3)) (va_Pc [.ref h0, .int p1, .int p2, .int p3, .int p4] (zq_W X (zk, zn) I)) (va_Qi (fun (r : Int32) I2 => zq_fr (zf X zw_X11_sail (fun _ => True)) I I2 ∧ (zI X I2 (ct + 1)) ∧ (zS0 X I2 (zq_r X h0 4))) (zq_E X (zk, zn)) (zq_A X)) 0 0 (zq_A X) := by
  refine Met.ofW (cc := cX11_sail) (maxL := 5) (ret := (some .int)) (by decide) rfl ?_
  intro p e s m args below meth c s₁ B hml hv
  obtain ⟨hargs, hM, hZ⟩ := hv
  have hown : s.vm.findClass RX11 = some m.cls := findClass_of_methodNamed B.named
  have hts := atoms_spec (ws := zt_w yX11_sail cX11_sail 5 (some .int)) B.pre
  have E : CallFix p m c cX11_sail 5 s args (Cond.code yX11_sail cX11_sail 5 (some .int) :: zt) RX11 := ⟨B.exec, B.bytes, hml, hown, hts⟩
  have hx := B.exec
  have hb := B.bytes
  have hr := B.returns
  have hlocks := B.notSynchronized
  clear B
  have hS : va_S (zq_A X) s.heap s.heap [] := va_S.rf
  have hR : zq_fr (zf X zw_X11_sail (fun _ => True)) I I := zq_fr.rf
  have hl := lv_entry ([.ref h0, .int p1, .int p2, .int p3, .int p4]) (n := 5) (by exact Nat.le_of_ble_eq_true rfl)
  have hg : entryFrame m args 5 = F0 m 0 ((lg_sl ([.ref h0, .int p1, .int p2, .int p3, .int p4]) ++ List.replicate (5 - (lg_sl ([.ref h0, .int p1, .int p2, .int p3, .int p4])).length) Slot.unset).toArray) [] := by rw [hargs]; exact lg_entry_eq m ([.ref h0, .int p1, .int p2, .int p3, .int p4]) 5
  rw [hg]
  clear hg hargs
  generalize (lg_sl ([.ref h0, .int p1, .int p2, .int p3, .int p4]) ++ List.replicate (5 - (lg_sl ([.ref h0, .int p1, .int p2, .int p3, .int p4])).length) Slot.unset).toArray = ls at hl ⊢
  have hl : lv_has ls 5 [(0, .ref h0), (1, .int p1), (2, .int p2), (3, .int p3), (4, .int p4)] := by exact hl
  obtain ⟨R, hRm⟩ : ∃ R : Room, R = (headSpec (zt_w yX11_sail cX11_sail 5 (some .int)) (zq_rm (3))).room := ⟨_, rfl⟩
  rw [← hRm]
  have hro : ∀ d q : Nat, d + 1 ≤ 3 → q ≤ 45 → zq_rok d q R := fun d q h1 h2 => by rw [hRm]; exact zq_rokI h1 h2
  generalize hQ : MQ below _ args s 0 0 (zq_A X) = Q
  obtain ⟨H, hH⟩ : ∃ H, H = s.heap := ⟨_, rfl⟩
  obtain ⟨locs, hlo⟩ : ∃ x : List Loc, x = [] := ⟨_, rfl⟩
  rw [show W p l e R s m args below meth c s.heap [] 0 0 Q = W p l e R s m args below meth c H locs 0 0 Q by rw [hH, hlo]]
  have hM : zq_hm X (zk, zn) I H := by rw [hH]; exact hM
  have hS : va_S (zq_A X) s.heap H locs := by rw [hH, hlo]; exact hS
  clear hH hlo
  refine lv_aload_n hx hb dX11_sail_0 rfl (lv_at hl 0 rfl) ?_
  refine zq_getr E hM k_h0 (zFX11_26 E hZ) ⟨by decide, by decide, by decide, rfl⟩ dX11_sail_1 ?_
  have k101 : zq_k X (zq_r X h0 3) = 1 := zq_lk L.1 k_h0 rfl (by decide)
  refine zq_getr E hM k101 (zFX11_95 E hZ) ⟨by decide, by decide, by decide, rfl⟩ dX11_sail_4 ?_
  have k102 : zq_k X (zq_r X (zq_r X h0 3) 0) = 8 := zq_lk L.1 k101 rfl (by decide)
  refine lv_iload_n hx hb dX11_sail_7 rfl (lv_at hl 1 rfl) ?_
  refine lv_iload_n hx hb dX11_sail_8 rfl (lv_at hl 2 rfl) ?_
  refine lv_iload_n hx hb dX11_sail_9 rfl (lv_at hl 3 rfl) ?_
  refine lv_iload hx hb dX11_sail_10 (lv_at hl 4 rfl) ?_
  refine zq_pcalli (zq_rV (As := [.int p1, .int p2, .int p3, .int p4]) (rest := []) E hZ hM k102 (c_X10_canSail l X zk (zn) I L (zq_r X (zq_r X h0 3) 0) k102 p1 p2 p3 p4 ⟨by omega, by omega⟩) zmX11_159 zM_X10_canSail (hro (2) 5 (by first | decide | omega) (by decide)) ⟨by decide, by decide⟩ rfl hl.1 rfl rfl (Nat.le_of_ble_eq_true rfl) dX11_sail_12) hS (fun x104 H locs h103 hM hS => ?_)
  obtain ⟨p105, p106⟩ := h103
  refine lv_if_ne (tgt := 20) hx hb dX11_sail_15 (by decide) (fun b107 => ?_) (fun b107 => ?_)
  · have b107 := zi_ne b107 (rfl : x104.toInt = x104.toInt) (zl_0 : (0 : Int32).toInt = 0)
    refine lv_aload_n hx hb dX11_sail_20 rfl (lv_at hl 0 rfl) ?_
    refine zq_callv (zq_rV (As := []) (rest := []) E hZ hM k_h0 (c_X11_keepPast l X zk (zn) I L (ct) h0 k_h0 (q_0) (q_1) (by omega)) zmX11_148 zM_X11_keepPast (hro (2) 1 (by first | decide | omega) (by decide)) ⟨by decide, by decide⟩ rfl hl.1 rfl rfl (Nat.le_of_ble_eq_true rfl) dX11_sail_21) hS (fun I110 H locs h108 hM hS => ?_)
    obtain ⟨fr111, p112, p113⟩ := h108
    have hR := zq_fr.call hR fr111 (zf_sub (by decide +kernel) (fun _ _ _ => trivial))
    have hS0115 := zS0.frP q_1 L (zq_lk L.1 k_h0 rfl (by decide)) fr111 (fun q hq => (fun hp => by have h1 := (hq.trans (L.2.2.2.1 _ k_h0).2.1); omega))
    refine lv_aload_n hx hb dX11_sail_24 rfl (lv_at hl 0 rfl) ?_
    refine zq_getr E hM k_h0 (zFX11_26 E hZ) ⟨by decide, by decide, by decide, rfl⟩ dX11_sail_25 ?_
    have k116 : zq_k X (zq_r X h0 3) = 1 := zq_lk L.1 k_h0 rfl (by decide)
    refine zq_getr E hM k116 (zFX11_95 E hZ) ⟨by decide, by decide, by decide, rfl⟩ dX11_sail_28 ?_
    have k117 : zq_k X (zq_r X (zq_r X h0 3) 0) = 8 := zq_lk L.1 k116 rfl (by decide)
    refine lv_iload_n hx hb dX11_sail_31 rfl (lv_at hl 1 rfl) ?_
    refine lv_iload_n hx hb dX11_sail_32 rfl (lv_at hl 2 rfl) ?_
    refine lv_iload_n hx hb dX11_sail_33 rfl (lv_at hl 3 rfl) ?_
    refine lv_iload hx hb dX11_sail_34 (lv_at hl 4 rfl) ?_
    refine W.eq (g2 := F0 m 36 ls [.int p4, .int p3, .int p2, .int p1, .ref (zq_r X (zq_r X h0 3) 0)]) rfl ?_
    refine zq_callv (zq_rV (As := [.int p1, .int p2, .int p3, .int p4]) (rest := []) E hZ hM k117 (c_X10_setSail l X zk (zn) I110 L (zq_r X (zq_r X h0 3) 0) k117 p1 p2 p3 p4 ⟨by omega, by omega⟩ ⟨by omega, by omega⟩) zmX11_163 zM_X10_setSail (hro (2) 5 (by first | decide | omega) (by decide)) ⟨by decide, by decide⟩ rfl hl.1 rfl rfl (Nat.le_of_ble_eq_true rfl) dX11_sail_36) hS (fun I120 H locs h118 hM hS => ?_)
    have fr121 := h118
    have hR := zq_fr.call hR fr121 (zf_sub (by decide +kernel) (fun _ _ _ => trivial))
    have hI122 := zI.frL p112 L fr121 rfl rfl
    have hS0123 := zS0.fr p113 L (zq_lk L.1 k_h0 rfl (by decide)) fr121 rfl
    refine lv_aload_n hx hb dX11_sail_39 rfl (lv_at hl 0 rfl) ?_
    refine zq_getr E hM k_h0 (zFX11_26 E hZ) ⟨by decide, by decide, by decide, rfl⟩ dX11_sail_40 ?_
    have k124 : zq_k X (zq_r X h0 3) = 1 := zq_lk L.1 k_h0 rfl (by decide)
    refine zq_getr E hM k124 (zFX11_95 E hZ) ⟨by decide, by decide, by decide, rfl⟩ dX11_sail_43 ?_
    have k125 : zq_k X (zq_r X (zq_r X h0 3) 0) = 8 := zq_lk L.1 k124 rfl (by decide)
    refine zq_gn E hM k125 (zFX11_167 E hZ) (Or.inl ⟨by decide, by decide, by decide, rfl⟩) dX11_sail_46 (fun x126 ex126 gx126 => ?_)
    clear gx126
    subst hQ
    exact zq_iret E hr hZ hM hS ⟨hR, ((zI.mono hI122 (by omega))), (hS0123)⟩ hlocks dX11_sail_49
  · have b107 := zi_eq b107 (rfl : x104.toInt = x104.toInt) (zl_0 : (0 : Int32).toInt = 0)
    refine lv_iconst (v := (-1)) hx hb dX11_sail_18 (by decide +kernel) ?_
    subst hQ
    exact zq_iret E hr hZ hM hS ⟨hR, ((zI.mono q_0 (by omega))), (q_1)⟩ hlocks dX11_sail_19
def zw_X11_teach : List (Nat × Nat) := [(3, 3), (5, 0), (5, 1), (5, 2), (5, 3), (5, 4), (5, 5), (7, 0), (7, 1), (7, 2), (7, 3), (7, 4), (7, 5), (7, 6), (8, 0), (8, 1), (8, 2), (8, 3), (8, 4), (8, 5), (8, 6), (9, 8), (9, 9), (30, 999)]
set_option maxHeartbeats 8000000 in
set_option maxRecDepth 100000 in
theorem c_X11_teach (l : Launch) (X : zq_X) (zk zn : Nat) (I : zq_M) (L : zq_L X) (ct : Nat) (h0 : Nat) (k_h0 : zq_k X h0 = 9) (p1 : Int32) (p2 : Int32) (q_0 : zI X I ct) (q_1 : zS0 X I (zq_r X h0 4)) (q_2 : ct ≤ 600) : Met l yX11_teach (zt_w yX11_teach cX11_teach 3 (some .int)) (zq_rm (3)) (va_Pc [.ref h0, .int p1, .int p2] (zq_W X (zk, zn) I)) (va_Qi (fun (r : Int32) I2 => zq_fr (zf X zw_X11_teach (fun _ => True)) I I2 ∧ (zI X I2 (ct + 1)) ∧ (zS0 X I2 (zq_r X h0 4)) ∧ ((-1) ≤ r.toInt ∧ r.toInt ≤ 99)) (zq_E X (zk, zn)) (zq_A X)) 0 0 (zq_A X) := by
  refine Met.ofW (cc := cX11_teach) (maxL := 3) (ret := (some .int)) (by decide) rfl ?_
  intro p e s m args below meth c s₁ B hml hv
  obtain ⟨hargs, hM, hZ⟩ := hv
  have hown : s.vm.findClass RX11 = some m.cls := findClass_of_methodNamed B.named
  have hts := atoms_spec (ws := zt_w yX11_teach cX11_teach 3 (some .int)) B.pre
  have E : CallFix p m c cX11_teach 3 s args (Cond.code yX11_teach cX11_teach 3 (some .int) :: zt) RX11 := ⟨B.exec, B.bytes, hml, hown, hts⟩
  have hx := B.exec
  have hb := B.bytes
  have hr := B.returns
  have hlocks := B.notSynchronized
  clear B
  have hS : va_S (zq_A X) s.heap s.heap [] := va_S.rf
  have hR : zq_fr (zf X zw_X11_teach (fun _ => True)) I I := zq_fr.rf
  have hl := lv_entry ([.ref h0, .int p1, .int p2]) (n := 3) (by exact Nat.le_of_ble_eq_true rfl)
  have hg : entryFrame m args 3 = F0 m 0 ((lg_sl ([.ref h0, .int p1, .int p2]) ++ List.replicate (3 - (lg_sl ([.ref h0, .int p1, .int p2])).length) Slot.unset).toArray) [] := by rw [hargs]; exact lg_entry_eq m ([.ref h0, .int p1, .int p2]) 3
  rw [hg]
  clear hg hargs
  generalize (lg_sl ([.ref h0, .int p1, .int p2]) ++ List.replicate (3 - (lg_sl ([.ref h0, .int p1, .int p2])).length) Slot.unset).toArray = ls at hl ⊢
  have hl : lv_has ls 3 [(0, .ref h0), (1, .int p1), (2, .int p2)] := by exact hl
  obtain ⟨R, hRm⟩ : ∃ R : Room, R = (headSpec (zt_w yX11_teach cX11_teach 3 (some .int)) (zq_rm (3))).room := ⟨_, rfl⟩
  rw [← hRm]
  have hro : ∀ d q : Nat, d + 1 ≤ 3 → q ≤ 45 → zq_rok d q R := fun d q h1 h2 => by rw [hRm]; exact zq_rokI h1 h2
  generalize hQ : MQ below _ args s 0 0 (zq_A X) = Q
  obtain ⟨H, hH⟩ : ∃ H, H = s.heap := ⟨_, rfl⟩
  obtain ⟨locs, hlo⟩ : ∃ x : List Loc, x = [] := ⟨_, rfl⟩
  rw [show W p l e R s m args below meth c s.heap [] 0 0 Q = W p l e R s m args below meth c H locs 0 0 Q by rw [hH, hlo]]
  have hM : zq_hm X (zk, zn) I H := by rw [hH]; exact hM
  have hS : va_S (zq_A X) s.heap H locs := by rw [hH, hlo]; exact hS
  clear hH hlo
  refine lv_aload_n hx hb dX11_teach_0 rfl (lv_at hl 0 rfl) ?_
  refine zq_getr E hM k_h0 (zFX11_26 E hZ) ⟨by decide, by decide, by decide, rfl⟩ dX11_teach_1 ?_
  have k101 : zq_k X (zq_r X h0 3) = 1 := zq_lk L.1 k_h0 rfl (by decide)
  refine zq_getr E hM k101 (zFX11_95 E hZ) ⟨by decide, by decide, by decide, rfl⟩ dX11_teach_4 ?_
  have k102 : zq_k X (zq_r X (zq_r X h0 3) 0) = 8 := zq_lk L.1 k101 rfl (by decide)
  refine lv_iload_n hx hb dX11_teach_7 rfl (lv_at hl 1 rfl) ?_
  refine zq_pcalli (zq_rV (As := [.int p1]) (rest := []) E hZ hM k102 (c_X10_hasTown l X zk (zn) I L (zq_r X (zq_r X h0 3) 0) k102 p1) zmX11_128 zM_X10_hasTown (hro (0) 2 (by first | decide | omega) (by decide)) ⟨by decide, by decide⟩ rfl hl.1 rfl rfl (Nat.le_of_ble_eq_true rfl) dX11_teach_8) hS (fun x104 H locs h103 hM hS => ?_)
  obtain ⟨p105, p106, p107⟩ := h103
  refine lv_if_eq (tgt := 37) hx hb dX11_teach_11 (by decide) (fun b108 => ?_) (fun b108 => ?_)
  · have b108 := zi_eq b108 (rfl : x104.toInt = x104.toInt) (zl_0 : (0 : Int32).toInt = 0)
    refine lv_iconst (v := (-1)) hx hb dX11_teach_37 (by decide +kernel) ?_
    subst hQ
    exact zq_iret E hr hZ hM hS ⟨hR, ((zI.mono q_0 (by omega))), (q_1), (by have := zl_m1; omega)⟩ hlocks dX11_teach_38
  · have b108 := zi_ne b108 (rfl : x104.toInt = x104.toInt) (zl_0 : (0 : Int32).toInt = 0)
    have hG9 : zT I (297 * (((ct : Nat)) : Int)) (zq_r X (zq_r X (zq_r X (zq_r X h0 3) 0) 9) (p1.toNatClampNeg)) := (q_0 _ (zq_lk L.1 (zq_lk L.1 k_h0 rfl (by decide) : zq_k X (zq_r X h0 3) = 1) rfl (by decide)) (by have h9 := (zq_now L (zq_lk L.1 k_h0 rfl (by decide)) (L.2.2.2.1 _ k_h0).1); omega)) _ (zq_inn (i := p1) (n := 4) ⟨by omega, by omega⟩) (by have := zq_cl (i := p1) (by omega); omega)
    refine lv_iload_n hx hb dX11_teach_14 rfl (lv_at hl 2 rfl) ?_
    refine lv_iconst (v := 1) hx hb dX11_teach_15 (by decide +kernel) ?_
    refine lv_aload_n hx hb dX11_teach_16 rfl (lv_at hl 0 rfl) ?_
    refine zq_getr E hM k_h0 (zFX11_26 E hZ) ⟨by decide, by decide, by decide, rfl⟩ dX11_teach_17 ?_
    have k109 : zq_k X (zq_r X h0 3) = 1 := zq_lk L.1 k_h0 rfl (by decide)
    refine zq_getr E hM k109 (zFX11_95 E hZ) ⟨by decide, by decide, by decide, rfl⟩ dX11_teach_20 ?_
    have k110 : zq_k X (zq_r X (zq_r X h0 3) 0) = 8 := zq_lk L.1 k109 rfl (by decide)
    refine zq_getr E hM k110 (zFX11_134 E hZ) ⟨by decide, by decide, by decide, rfl⟩ dX11_teach_23 ?_
    have k111 : zq_k X (zq_r X (zq_r X (zq_r X h0 3) 0) 9) = 32 := zq_lk L.1 k110 rfl (by decide)
    refine lv_iload_n hx hb dX11_teach_26 rfl (lv_at hl 1 rfl) ?_
    refine zq_rald (n := 4) (t := 8) (j := (p1.toNatClampNeg)) E hZ hM k111 ⟨by decide, rfl⟩ ⟨rfl, by decide, by decide⟩ ⟨by omega, by omega⟩ rfl dX11_teach_27 ?_
    have k112 : zq_k X (zq_r X (zq_r X (zq_r X (zq_r X h0 3) 0) 9) (p1.toNatClampNeg)) = 7 := zq_lay_a L.1 k111 (n := 4) (zq_inn (i := p1) (n := 4) ⟨by omega, by omega⟩) (by decide) (by decide)
    refine zq_gn E hM k112 (zFX11_170 E hZ) (Or.inl ⟨by decide, by decide, by decide, rfl⟩) dX11_teach_28 (fun x113 ex113 gx113 => ?_)
    clear gx113
    have fx113 := zT.r4 hG9 ex113
    refine W.eq (g2 := F0 m 31 ls [.int x113, .int (1 : Int32), .int p2]) rfl ?_
    refine zq_pcalli (zq_rS (As := [.int p2, .int (1 : Int32), .int x113]) (rest := []) E hZ hM (c_X11_isWithin l X zk (zn) I L p2 (1 : Int32) x113) zmX11_75 zM_X11_isWithin (hro (0) 3 (by first | decide | omega) (by decide)) hl.1 rfl rfl (Nat.le_of_ble_eq_true rfl) dX11_teach_31) hS (fun x115 H locs h114 hM hS => ?_)
    obtain ⟨p116, p117⟩ := h114
    have := zl_1
    refine lv_if_ne (tgt := 39) hx hb dX11_teach_34 (by decide) (fun b118 => ?_) (fun b118 => ?_)
    · have b118 := zi_ne b118 (rfl : x115.toInt = x115.toInt) (zl_0 : (0 : Int32).toInt = 0)
      refine lv_aload_n hx hb dX11_teach_39 rfl (lv_at hl 0 rfl) ?_
      refine zq_callv (zq_rV (As := []) (rest := []) E hZ hM k_h0 (c_X11_keepPast l X zk (zn) I L (ct) h0 k_h0 (q_0) (q_1) (by omega)) zmX11_148 zM_X11_keepPast (hro (2) 1 (by first | decide | omega) (by decide)) ⟨by decide, by decide⟩ rfl hl.1 rfl rfl (Nat.le_of_ble_eq_true rfl) dX11_teach_40) hS (fun I121 H locs h119 hM hS => ?_)
      obtain ⟨fr122, p123, p124⟩ := h119
      have hR := zq_fr.call hR fr122 (zf_sub (by decide +kernel) (fun _ _ _ => trivial))
      have hS0126 := zS0.frP q_1 L (zq_lk L.1 k_h0 rfl (by decide)) fr122 (fun q hq => (fun hp => by have h1 := (hq.trans (L.2.2.2.1 _ k_h0).2.1); omega))
      have hT127 := zT.frP hG9 fr122 (zW.kt L (zq_lk L.1 (zq_lk L.1 k_h0 rfl (by decide) : zq_k X (zq_r X h0 3) = 1) rfl (by decide)) (zq_inn (i := p1) (n := 4) ⟨by omega, by omega⟩)) (fun hp => by have h1 := ((zW.ot L (zq_lk L.1 (zq_lk L.1 k_h0 rfl (by decide) : zq_k X (zq_r X h0 3) = 1) rfl (by decide)) (zq_inn (i := p1) (n := 4) ⟨by omega, by omega⟩)).trans (zq_now L (zq_lk L.1 k_h0 rfl (by decide)) (L.2.2.2.1 _ k_h0).1)); omega)
      refine lv_aload_n hx hb dX11_teach_43 rfl (lv_at hl 0 rfl) ?_
      refine zq_getr E hM k_h0 (zFX11_26 E hZ) ⟨by decide, by decide, by decide, rfl⟩ dX11_teach_44 ?_
      have k128 : zq_k X (zq_r X h0 3) = 1 := zq_lk L.1 k_h0 rfl (by decide)
      refine zq_getr E hM k128 (zFX11_95 E hZ) ⟨by decide, by decide, by decide, rfl⟩ dX11_teach_47 ?_
      have k129 : zq_k X (zq_r X (zq_r X h0 3) 0) = 8 := zq_lk L.1 k128 rfl (by decide)
      refine zq_getr E hM k129 (zFX11_134 E hZ) ⟨by decide, by decide, by decide, rfl⟩ dX11_teach_50 ?_
      have k130 : zq_k X (zq_r X (zq_r X (zq_r X h0 3) 0) 9) = 32 := zq_lk L.1 k129 rfl (by decide)
      refine lv_iload_n hx hb dX11_teach_53 rfl (lv_at hl 1 rfl) ?_
      refine zq_rald (n := 4) (t := 8) (j := (p1.toNatClampNeg)) E hZ hM k130 ⟨by decide, rfl⟩ ⟨rfl, by decide, by decide⟩ ⟨by omega, by omega⟩ rfl dX11_teach_54 ?_
      have k131 : zq_k X (zq_r X (zq_r X (zq_r X (zq_r X h0 3) 0) 9) (p1.toNatClampNeg)) = 7 := zq_lay_a L.1 k130 (n := 4) (zq_inn (i := p1) (n := 4) ⟨by omega, by omega⟩) (by decide) (by decide)
      refine lv_iload_n hx hb dX11_teach_55 rfl (lv_at hl 2 rfl) ?_
      refine W.eq (g2 := F0 m 56 ls [.int p2, .ref (zq_r X (zq_r X (zq_r X (zq_r X h0 3) 0) 9) (p1.toNatClampNeg))]) rfl ?_
      refine zq_callv (zq_rV (As := [.int p2]) (rest := []) E hZ hM k131 (c_X7_giveAway l X zk (zn) I121 L (297 * (((ct : Nat)) : Int)) (zq_r X (zq_r X (zq_r X (zq_r X h0 3) 0) 9) (p1.toNatClampNeg)) k131 p2 ⟨by omega, by omega⟩ (hT127) (by rw [(zq_fr.kp fr122 (zf_np k131 rfl (fun hp => by have h1 := ((zq_own_a L.2.1 k130 (n := 4) (zq_inn (i := p1) (n := 4) ⟨by omega, by omega⟩) (by decide)).trans (((L.2.1 _ _ _ k129 (by decide) rfl).trans ((zq_now L k128 ((L.2.2.2.1 _ k_h0).1)))))); omega)) ex113)]; omega) (by omega)) zmX11_173 zM_X7_giveAway (hro (1) 2 (by first | decide | omega) (by decide)) ⟨by decide, by decide⟩ rfl hl.1 rfl rfl (Nat.le_of_ble_eq_true rfl) dX11_teach_56) hS (fun I134 H locs h132 hM hS => ?_)
      obtain ⟨fr135, p136⟩ := h132
      have hR := zq_fr.call hR fr135 (zf_sub (by decide +kernel) (fun _ _ _ => trivial))
      have hI137 := zI.town p123 L k129 (by have h9 := (zq_now L k128 ((L.2.2.2.1 _ k_h0).1)); omega) (zq_inn (i := p1) (n := 4) ⟨by omega, by omega⟩) fr135 p136
      have hS0138 := zS0.frP p124 L (zq_lk L.1 k_h0 rfl (by decide)) fr135 (fun q hq => (fun hp => by have h1 := (hq.trans (L.2.2.2.1 _ k_h0).2.1); have h2 := ((zq_own_a L.2.1 k130 (n := 4) (zq_inn (i := p1) (n := 4) ⟨by omega, by omega⟩) (by decide)).trans (((L.2.1 _ _ _ k129 (by decide) rfl).trans ((zq_now L k128 ((L.2.2.2.1 _ k_h0).1)))))); rw [hp] at h1; omega))
      refine lv_aload_n hx hb dX11_teach_59 rfl (lv_at hl 0 rfl) ?_
      refine zq_getr E hM k_h0 (zFX11_26 E hZ) ⟨by decide, by decide, by decide, rfl⟩ dX11_teach_60 ?_
      have k140 : zq_k X (zq_r X h0 3) = 1 := zq_lk L.1 k_h0 rfl (by decide)
      refine zq_getr E hM k140 (zFX11_95 E hZ) ⟨by decide, by decide, by decide, rfl⟩ dX11_teach_63 ?_
      have k141 : zq_k X (zq_r X (zq_r X h0 3) 0) = 8 := zq_lk L.1 k140 rfl (by decide)
      refine zq_getr E hM k141 (zFX11_134 E hZ) ⟨by decide, by decide, by decide, rfl⟩ dX11_teach_66 ?_
      have k142 : zq_k X (zq_r X (zq_r X (zq_r X h0 3) 0) 9) = 32 := zq_lk L.1 k141 rfl (by decide)
      refine lv_iload_n hx hb dX11_teach_69 rfl (lv_at hl 1 rfl) ?_
      refine zq_rald (n := 4) (t := 8) (j := (p1.toNatClampNeg)) E hZ hM k142 ⟨by decide, rfl⟩ ⟨rfl, by decide, by decide⟩ ⟨by omega, by omega⟩ rfl dX11_teach_70 ?_
      have k143 : zq_k X (zq_r X (zq_r X (zq_r X (zq_r X h0 3) 0) 9) (p1.toNatClampNeg)) = 7 := zq_lay_a L.1 k142 (n := 4) (zq_inn (i := p1) (n := 4) ⟨by omega, by omega⟩) (by decide) (by decide)
      refine zq_gn E hM k143 (zFX11_176 E hZ) (Or.inl ⟨by decide, by decide, by decide, rfl⟩) dX11_teach_71 (fun x144 ex144 gx144 => ?_)
      replace gx144 : (-1) ≤ x144.toInt ∧ x144.toInt ≤ 99 := gx144
      subst hQ
      exact zq_iret E hr hZ hM hS ⟨hR, ((zI.mono hI137 (by omega))), (hS0138), (by omega)⟩ hlocks dX11_teach_74
    · have b118 := zi_eq b118 (rfl : x115.toInt = x115.toInt) (zl_0 : (0 : Int32).toInt = 0)
      refine lv_iconst (v := (-1)) hx hb dX11_teach_37 (by decide +kernel) ?_
      subst hQ
      exact zq_iret E hr hZ hM hS ⟨hR, ((zI.mono q_0 (by omega))), (q_1), (by have := zl_m1; omega)⟩ hlocks dX11_teach_38
def zw_X11_build : List (Nat × Nat) := [(3, 3), (5, 0), (5, 1), (5, 2), (5, 3), (5, 4), (5, 5), (7, 0), (7, 1), (7, 2), (7, 3), (7, 4), (7, 5), (7, 6), (8, 0), (8, 1), (8, 2), (8, 3), (8, 4), (8, 5), (8, 6), (9, 8), (9, 9), (30, 999)]
set_option maxHeartbeats 8000000 in
set_option maxRecDepth 100000 in
theorem c_X11_build (l : Launch) (X : zq_X) (zk zn : Nat) (I : zq_M) (L : zq_L X) (ct : Nat) (h0 : Nat) (k_h0 : zq_k X h0 = 9) (p1 : Int32) (q_0 : zI X I ct) (q_1 : zS0 X I (zq_r X h0 4)) (q_2 : ct ≤ 600) : Met l yX11_build (zt_w yX11_build cX11_build 2 (some .int)) (zq_rm (3)) (va_Pc [.ref h0, .int p1] (zq_W X (zk, zn) I)) (va_Qi (fun (r : Int32) I2 => zq_fr (zf X zw_X11_build (fun _ => True)) I I2 ∧ (zI X I2 (ct + 1)) ∧ (zS0 X I2 (zq_r X h0 4))) (zq_E X (zk, zn)) (zq_A X)) 0 0 (zq_A X) := by
  refine Met.ofW (cc := cX11_build) (maxL := 2) (ret := (some .int)) (by decide) rfl ?_
  intro p e s m args below meth c s₁ B hml hv
  obtain ⟨hargs, hM, hZ⟩ := hv
  have hown : s.vm.findClass RX11 = some m.cls := findClass_of_methodNamed B.named
  have hts := atoms_spec (ws := zt_w yX11_build cX11_build 2 (some .int)) B.pre
  have E : CallFix p m c cX11_build 2 s args (Cond.code yX11_build cX11_build 2 (some .int) :: zt) RX11 := ⟨B.exec, B.bytes, hml, hown, hts⟩
  have hx := B.exec
  have hb := B.bytes
  have hr := B.returns
  have hlocks := B.notSynchronized
  clear B
  have hS : va_S (zq_A X) s.heap s.heap [] := va_S.rf
  have hR : zq_fr (zf X zw_X11_build (fun _ => True)) I I := zq_fr.rf
  have hl := lv_entry ([.ref h0, .int p1]) (n := 2) (by exact Nat.le_of_ble_eq_true rfl)
  have hg : entryFrame m args 2 = F0 m 0 ((lg_sl ([.ref h0, .int p1]) ++ List.replicate (2 - (lg_sl ([.ref h0, .int p1])).length) Slot.unset).toArray) [] := by rw [hargs]; exact lg_entry_eq m ([.ref h0, .int p1]) 2
  rw [hg]
  clear hg hargs
  generalize (lg_sl ([.ref h0, .int p1]) ++ List.replicate (2 - (lg_sl ([.ref h0, .int p1])).length) Slot.unset).toArray = ls at hl ⊢
  have hl : lv_has ls 2 [(0, .ref h0), (1, .int p1)] := by exact hl
  obtain ⟨R, hRm⟩ : ∃ R : Room, R = (headSpec (zt_w yX11_build cX11_build 2 (some .int)) (zq_rm (3))).room := ⟨_, rfl⟩
  rw [← hRm]
  have hro : ∀ d q : Nat, d + 1 ≤ 3 → q ≤ 45 → zq_rok d q R := fun d q h1 h2 => by rw [hRm]; exact zq_rokI h1 h2
  generalize hQ : MQ below _ args s 0 0 (zq_A X) = Q
  obtain ⟨H, hH⟩ : ∃ H, H = s.heap := ⟨_, rfl⟩
  obtain ⟨locs, hlo⟩ : ∃ x : List Loc, x = [] := ⟨_, rfl⟩
  rw [show W p l e R s m args below meth c s.heap [] 0 0 Q = W p l e R s m args below meth c H locs 0 0 Q by rw [hH, hlo]]
  have hM : zq_hm X (zk, zn) I H := by rw [hH]; exact hM
  have hS : va_S (zq_A X) s.heap H locs := by rw [hH, hlo]; exact hS
  clear hH hlo
  refine lv_aload_n hx hb dX11_build_0 rfl (lv_at hl 0 rfl) ?_
  refine zq_getr E hM k_h0 (zFX11_26 E hZ) ⟨by decide, by decide, by decide, rfl⟩ dX11_build_1 ?_
  have k101 : zq_k X (zq_r X h0 3) = 1 := zq_lk L.1 k_h0 rfl (by decide)
  refine zq_getr E hM k101 (zFX11_95 E hZ) ⟨by decide, by decide, by decide, rfl⟩ dX11_build_4 ?_
  have k102 : zq_k X (zq_r X (zq_r X h0 3) 0) = 8 := zq_lk L.1 k101 rfl (by decide)
  refine lv_iload_n hx hb dX11_build_7 rfl (lv_at hl 1 rfl) ?_
  refine zq_pcalli (zq_rV (As := [.int p1]) (rest := []) E hZ hM k102 (c_X10_canBuild l X zk (zn) I L (zq_r X (zq_r X h0 3) 0) k102 p1) zmX11_179 zM_X10_canBuild (hro (1) 2 (by first | decide | omega) (by decide)) ⟨by decide, by decide⟩ rfl hl.1 rfl rfl (Nat.le_of_ble_eq_true rfl) dX11_build_8) hS (fun x104 H locs h103 hM hS => ?_)
  obtain ⟨p105, p106⟩ := h103
  refine lv_if_ne (tgt := 16) hx hb dX11_build_11 (by decide) (fun b107 => ?_) (fun b107 => ?_)
  · have b107 := zi_ne b107 (rfl : x104.toInt = x104.toInt) (zl_0 : (0 : Int32).toInt = 0)
    refine lv_aload_n hx hb dX11_build_16 rfl (lv_at hl 0 rfl) ?_
    refine zq_callv (zq_rV (As := []) (rest := []) E hZ hM k_h0 (c_X11_keepPast l X zk (zn) I L (ct) h0 k_h0 (q_0) (q_1) (by omega)) zmX11_148 zM_X11_keepPast (hro (2) 1 (by first | decide | omega) (by decide)) ⟨by decide, by decide⟩ rfl hl.1 rfl rfl (Nat.le_of_ble_eq_true rfl) dX11_build_17) hS (fun I110 H locs h108 hM hS => ?_)
    obtain ⟨fr111, p112, p113⟩ := h108
    have hR := zq_fr.call hR fr111 (zf_sub (by decide +kernel) (fun _ _ _ => trivial))
    have hS0115 := zS0.frP q_1 L (zq_lk L.1 k_h0 rfl (by decide)) fr111 (fun q hq => (fun hp => by have h1 := (hq.trans (L.2.2.2.1 _ k_h0).2.1); omega))
    refine lv_aload_n hx hb dX11_build_20 rfl (lv_at hl 0 rfl) ?_
    refine zq_getr E hM k_h0 (zFX11_26 E hZ) ⟨by decide, by decide, by decide, rfl⟩ dX11_build_21 ?_
    have k116 : zq_k X (zq_r X h0 3) = 1 := zq_lk L.1 k_h0 rfl (by decide)
    refine zq_getr E hM k116 (zFX11_95 E hZ) ⟨by decide, by decide, by decide, rfl⟩ dX11_build_24 ?_
    have k117 : zq_k X (zq_r X (zq_r X h0 3) 0) = 8 := zq_lk L.1 k116 rfl (by decide)
    refine lv_iload_n hx hb dX11_build_27 rfl (lv_at hl 1 rfl) ?_
    refine zq_callv (zq_rV (As := [.int p1]) (rest := []) E hZ hM k117 (c_X10_putHouse l X zk (zn) I110 L (zq_r X (zq_r X h0 3) 0) k117 p1) zmX11_182 zM_X10_putHouse (hro (1) 2 (by first | decide | omega) (by decide)) ⟨by decide, by decide⟩ rfl hl.1 rfl rfl (Nat.le_of_ble_eq_true rfl) dX11_build_28) hS (fun I120 H locs h118 hM hS => ?_)
    have fr121 := h118
    have hR := zq_fr.call hR fr121 (zf_sub (by decide +kernel) (fun _ _ _ => trivial))
    have hI122 := zI.frL p112 L fr121 rfl rfl
    have hS0123 := zS0.fr p113 L (zq_lk L.1 k_h0 rfl (by decide)) fr121 rfl
    refine lv_aload_n hx hb dX11_build_31 rfl (lv_at hl 0 rfl) ?_
    refine zq_getr E hM k_h0 (zFX11_26 E hZ) ⟨by decide, by decide, by decide, rfl⟩ dX11_build_32 ?_
    have k124 : zq_k X (zq_r X h0 3) = 1 := zq_lk L.1 k_h0 rfl (by decide)
    refine W.eq (g2 := F0 m 35 ls [.ref (zq_r X h0 3)]) rfl ?_
    refine zq_getr E hM k124 (zFX11_95 E hZ) ⟨by decide, by decide, by decide, rfl⟩ dX11_build_35 ?_
    have k125 : zq_k X (zq_r X (zq_r X h0 3) 0) = 8 := zq_lk L.1 k124 rfl (by decide)
    refine zq_gn E hM k125 (zFX11_167 E hZ) (Or.inl ⟨by decide, by decide, by decide, rfl⟩) dX11_build_38 (fun x126 ex126 gx126 => ?_)
    clear gx126
    subst hQ
    exact zq_iret E hr hZ hM hS ⟨hR, ((zI.mono hI122 (by omega))), (hS0123)⟩ hlocks dX11_build_41
  · have b107 := zi_eq b107 (rfl : x104.toInt = x104.toInt) (zl_0 : (0 : Int32).toInt = 0)
    refine lv_iconst (v := (-1)) hx hb dX11_build_14 (by decide +kernel) ?_
    subst hQ
    exact zq_iret E hr hZ hM hS ⟨hR, ((zI.mono q_0 (by omega))), (q_1)⟩ hlocks dX11_build_15
def zw_X11_ask : List (Nat × Nat) := [(3, 3), (5, 0), (5, 1), (5, 2), (5, 3), (5, 4), (5, 5), (7, 0), (7, 1), (7, 2), (7, 3), (7, 4), (7, 5), (7, 6), (8, 0), (8, 1), (8, 2), (8, 3), (8, 4), (8, 5), (8, 6), (9, 8), (9, 9), (30, 999)]
set_option maxHeartbeats 8000000 in
set_option maxRecDepth 100000 in
theorem c_X11_ask (l : Launch) (X : zq_X) (zk zn : Nat) (I : zq_M) (L : zq_L X) (ct : Nat) (h0 : Nat) (k_h0 : zq_k X h0 = 9) (p1 : Int32) (p2 : Int32) (q_0 : zI X I ct) (q_1 : zS0 X I (zq_r X h0 4)) (q_2 : ct ≤ 600) : Met l yX11_ask (zt_w yX11_ask cX11_ask 3 (some .int)) (zq_rm (3)) (va_Pc [.ref h0, .int p1, .int p2] (zq_W X (zk, zn) I)) (va_Qi (fun (r : Int32) I2 => zq_fr (zf X zw_X11_ask (fun _ => True)) I I2 ∧ (zI X I2 (ct + 1)) ∧ (zS0 X I2 (zq_r X h0 4)) ∧ ((-1) ≤ r.toInt ∧ r.toInt ≤ 99)) (zq_E X (zk, zn)) (zq_A X)) 0 0 (zq_A X) := by
  refine Met.ofW (cc := cX11_ask) (maxL := 3) (ret := (some .int)) (by decide) rfl ?_
  intro p e s m args below meth c s₁ B hml hv
  obtain ⟨hargs, hM, hZ⟩ := hv
  have hown : s.vm.findClass RX11 = some m.cls := findClass_of_methodNamed B.named
  have hts := atoms_spec (ws := zt_w yX11_ask cX11_ask 3 (some .int)) B.pre
  have E : CallFix p m c cX11_ask 3 s args (Cond.code yX11_ask cX11_ask 3 (some .int) :: zt) RX11 := ⟨B.exec, B.bytes, hml, hown, hts⟩
  have hx := B.exec
  have hb := B.bytes
  have hr := B.returns
  have hlocks := B.notSynchronized
  clear B
  have hS : va_S (zq_A X) s.heap s.heap [] := va_S.rf
  have hR : zq_fr (zf X zw_X11_ask (fun _ => True)) I I := zq_fr.rf
  have hl := lv_entry ([.ref h0, .int p1, .int p2]) (n := 3) (by exact Nat.le_of_ble_eq_true rfl)
  have hg : entryFrame m args 3 = F0 m 0 ((lg_sl ([.ref h0, .int p1, .int p2]) ++ List.replicate (3 - (lg_sl ([.ref h0, .int p1, .int p2])).length) Slot.unset).toArray) [] := by rw [hargs]; exact lg_entry_eq m ([.ref h0, .int p1, .int p2]) 3
  rw [hg]
  clear hg hargs
  generalize (lg_sl ([.ref h0, .int p1, .int p2]) ++ List.replicate (3 - (lg_sl ([.ref h0, .int p1, .int p2])).length) Slot.unset).toArray = ls at hl ⊢
  have hl : lv_has ls 3 [(0, .ref h0), (1, .int p1), (2, .int p2)] := by exact hl
  obtain ⟨R, hRm⟩ : ∃ R : Room, R = (headSpec (zt_w yX11_ask cX11_ask 3 (some .int)) (zq_rm (3))).room := ⟨_, rfl⟩
  rw [← hRm]
  have hro : ∀ d q : Nat, d + 1 ≤ 3 → q ≤ 45 → zq_rok d q R := fun d q h1 h2 => by rw [hRm]; exact zq_rokI h1 h2
  generalize hQ : MQ below _ args s 0 0 (zq_A X) = Q
  obtain ⟨H, hH⟩ : ∃ H, H = s.heap := ⟨_, rfl⟩
  obtain ⟨locs, hlo⟩ : ∃ x : List Loc, x = [] := ⟨_, rfl⟩
  rw [show W p l e R s m args below meth c s.heap [] 0 0 Q = W p l e R s m args below meth c H locs 0 0 Q by rw [hH, hlo]]
  have hM : zq_hm X (zk, zn) I H := by rw [hH]; exact hM
  have hS : va_S (zq_A X) s.heap H locs := by rw [hH, hlo]; exact hS
  clear hH hlo
  refine lv_aload_n hx hb dX11_ask_0 rfl (lv_at hl 0 rfl) ?_
  refine zq_getr E hM k_h0 (zFX11_26 E hZ) ⟨by decide, by decide, by decide, rfl⟩ dX11_ask_1 ?_
  have k101 : zq_k X (zq_r X h0 3) = 1 := zq_lk L.1 k_h0 rfl (by decide)
  refine zq_getr E hM k101 (zFX11_95 E hZ) ⟨by decide, by decide, by decide, rfl⟩ dX11_ask_4 ?_
  have k102 : zq_k X (zq_r X (zq_r X h0 3) 0) = 8 := zq_lk L.1 k101 rfl (by decide)
  refine lv_iload_n hx hb dX11_ask_7 rfl (lv_at hl 1 rfl) ?_
  refine zq_pcalli (zq_rV (As := [.int p1]) (rest := []) E hZ hM k102 (c_X10_hasTown l X zk (zn) I L (zq_r X (zq_r X h0 3) 0) k102 p1) zmX11_128 zM_X10_hasTown (hro (0) 2 (by first | decide | omega) (by decide)) ⟨by decide, by decide⟩ rfl hl.1 rfl rfl (Nat.le_of_ble_eq_true rfl) dX11_ask_8) hS (fun x104 H locs h103 hM hS => ?_)
  obtain ⟨p105, p106, p107⟩ := h103
  refine lv_if_eq (tgt := 43) hx hb dX11_ask_11 (by decide) (fun b108 => ?_) (fun b108 => ?_)
  · have b108 := zi_eq b108 (rfl : x104.toInt = x104.toInt) (zl_0 : (0 : Int32).toInt = 0)
    refine lv_iconst (v := (-1)) hx hb dX11_ask_43 (by decide +kernel) ?_
    subst hQ
    exact zq_iret E hr hZ hM hS ⟨hR, ((zI.mono q_0 (by omega))), (q_1), (by have := zl_m1; omega)⟩ hlocks dX11_ask_44
  · have b108 := zi_ne b108 (rfl : x104.toInt = x104.toInt) (zl_0 : (0 : Int32).toInt = 0)
    have hG9 : zT I (297 * (((ct : Nat)) : Int)) (zq_r X (zq_r X (zq_r X (zq_r X h0 3) 0) 9) (p1.toNatClampNeg)) := (q_0 _ (zq_lk L.1 (zq_lk L.1 k_h0 rfl (by decide) : zq_k X (zq_r X h0 3) = 1) rfl (by decide)) (by have h9 := (zq_now L (zq_lk L.1 k_h0 rfl (by decide)) (L.2.2.2.1 _ k_h0).1); omega)) _ (zq_inn (i := p1) (n := 4) ⟨by omega, by omega⟩) (by have := zq_cl (i := p1) (by omega); omega)
    refine lv_iload_n hx hb dX11_ask_14 rfl (lv_at hl 2 rfl) ?_
    refine lv_iconst (v := 1) hx hb dX11_ask_15 (by decide +kernel) ?_
    refine lv_bipush (v := 99) hx hb dX11_ask_16 (by decide +kernel) ?_
    refine zq_pcalli (zq_rS (As := [.int p2, .int (1 : Int32), .int (99 : Int32)]) (rest := []) E hZ hM (c_X11_isWithin l X zk (zn) I L p2 (1 : Int32) (99 : Int32)) zmX11_75 zM_X11_isWithin (hro (0) 3 (by first | decide | omega) (by decide)) hl.1 rfl rfl (Nat.le_of_ble_eq_true rfl) dX11_ask_18) hS (fun x110 H locs h109 hM hS => ?_)
    obtain ⟨p111, p112⟩ := h109
    have := zl_1
    have := zl_99
    refine lv_if_eq (tgt := 43) hx hb dX11_ask_21 (by decide) (fun b113 => ?_) (fun b113 => ?_)
    · have b113 := zi_eq b113 (rfl : x110.toInt = x110.toInt) (zl_0 : (0 : Int32).toInt = 0)
      refine lv_iconst (v := (-1)) hx hb dX11_ask_43 (by decide +kernel) ?_
      subst hQ
      exact zq_iret E hr hZ hM hS ⟨hR, ((zI.mono q_0 (by omega))), (q_1), (by have := zl_m1; omega)⟩ hlocks dX11_ask_44
    · have b113 := zi_ne b113 (rfl : x110.toInt = x110.toInt) (zl_0 : (0 : Int32).toInt = 0)
      refine lv_iload_n hx hb dX11_ask_24 rfl (lv_at hl 2 rfl) ?_
      refine lv_aload_n hx hb dX11_ask_25 rfl (lv_at hl 0 rfl) ?_
      refine zq_getr E hM k_h0 (zFX11_26 E hZ) ⟨by decide, by decide, by decide, rfl⟩ dX11_ask_26 ?_
      have k114 : zq_k X (zq_r X h0 3) = 1 := zq_lk L.1 k_h0 rfl (by decide)
      refine zq_getr E hM k114 (zFX11_95 E hZ) ⟨by decide, by decide, by decide, rfl⟩ dX11_ask_29 ?_
      have k115 : zq_k X (zq_r X (zq_r X h0 3) 0) = 8 := zq_lk L.1 k114 rfl (by decide)
      refine zq_getr E hM k115 (zFX11_134 E hZ) ⟨by decide, by decide, by decide, rfl⟩ dX11_ask_32 ?_
      have k116 : zq_k X (zq_r X (zq_r X (zq_r X h0 3) 0) 9) = 32 := zq_lk L.1 k115 rfl (by decide)
      refine lv_iload_n hx hb dX11_ask_35 rfl (lv_at hl 1 rfl) ?_
      refine zq_rald (n := 4) (t := 8) (j := (p1.toNatClampNeg)) E hZ hM k116 ⟨by decide, rfl⟩ ⟨rfl, by decide, by decide⟩ ⟨by omega, by omega⟩ rfl dX11_ask_36 ?_
      have k117 : zq_k X (zq_r X (zq_r X (zq_r X (zq_r X h0 3) 0) 9) (p1.toNatClampNeg)) = 7 := zq_lay_a L.1 k116 (n := 4) (zq_inn (i := p1) (n := 4) ⟨by omega, by omega⟩) (by decide) (by decide)
      refine zq_gn E hM k117 (zFX11_185 E hZ) (Or.inl ⟨by decide, by decide, by decide, rfl⟩) dX11_ask_37 (fun x118 ex118 gx118 => ?_)
      replace gx118 : (-1) ≤ x118.toInt ∧ x118.toInt ≤ 99 := gx118
      have fx118 := zT.r3 hG9 ex118
      refine lv_icmp_ne (tgt := 45) hx hb dX11_ask_40 (by decide) (fun b119 => ?_) (fun b119 => ?_)
      · have b119 := zi_ne b119 (rfl : p2.toInt = p2.toInt) (rfl : x118.toInt = x118.toInt)
        refine lv_aload_n hx hb dX11_ask_45 rfl (lv_at hl 0 rfl) ?_
        refine zq_callv (zq_rV (As := []) (rest := []) E hZ hM k_h0 (c_X11_keepPast l X zk (zn) I L (ct) h0 k_h0 (q_0) (q_1) (by omega)) zmX11_148 zM_X11_keepPast (hro (2) 1 (by first | decide | omega) (by decide)) ⟨by decide, by decide⟩ rfl hl.1 rfl rfl (Nat.le_of_ble_eq_true rfl) dX11_ask_46) hS (fun I122 H locs h120 hM hS => ?_)
        obtain ⟨fr123, p124, p125⟩ := h120
        have hR := zq_fr.call hR fr123 (zf_sub (by decide +kernel) (fun _ _ _ => trivial))
        have hS0127 := zS0.frP q_1 L (zq_lk L.1 k_h0 rfl (by decide)) fr123 (fun q hq => (fun hp => by have h1 := (hq.trans (L.2.2.2.1 _ k_h0).2.1); omega))
        have hT128 := zT.frP hG9 fr123 (zW.kt L (zq_lk L.1 (zq_lk L.1 k_h0 rfl (by decide) : zq_k X (zq_r X h0 3) = 1) rfl (by decide)) (zq_inn (i := p1) (n := 4) ⟨by omega, by omega⟩)) (fun hp => by have h1 := ((zW.ot L (zq_lk L.1 (zq_lk L.1 k_h0 rfl (by decide) : zq_k X (zq_r X h0 3) = 1) rfl (by decide)) (zq_inn (i := p1) (n := 4) ⟨by omega, by omega⟩)).trans (zq_now L (zq_lk L.1 k_h0 rfl (by decide)) (L.2.2.2.1 _ k_h0).1)); omega)
        refine lv_aload_n hx hb dX11_ask_49 rfl (lv_at hl 0 rfl) ?_
        refine zq_getr E hM k_h0 (zFX11_26 E hZ) ⟨by decide, by decide, by decide, rfl⟩ dX11_ask_50 ?_
        have k129 : zq_k X (zq_r X h0 3) = 1 := zq_lk L.1 k_h0 rfl (by decide)
        refine zq_getr E hM k129 (zFX11_95 E hZ) ⟨by decide, by decide, by decide, rfl⟩ dX11_ask_53 ?_
        have k130 : zq_k X (zq_r X (zq_r X h0 3) 0) = 8 := zq_lk L.1 k129 rfl (by decide)
        refine zq_getr E hM k130 (zFX11_134 E hZ) ⟨by decide, by decide, by decide, rfl⟩ dX11_ask_56 ?_
        have k131 : zq_k X (zq_r X (zq_r X (zq_r X h0 3) 0) 9) = 32 := zq_lk L.1 k130 rfl (by decide)
        refine lv_iload_n hx hb dX11_ask_59 rfl (lv_at hl 1 rfl) ?_
        refine zq_rald (n := 4) (t := 8) (j := (p1.toNatClampNeg)) E hZ hM k131 ⟨by decide, rfl⟩ ⟨rfl, by decide, by decide⟩ ⟨by omega, by omega⟩ rfl dX11_ask_60 ?_
        have k132 : zq_k X (zq_r X (zq_r X (zq_r X (zq_r X h0 3) 0) 9) (p1.toNatClampNeg)) = 7 := zq_lay_a L.1 k131 (n := 4) (zq_inn (i := p1) (n := 4) ⟨by omega, by omega⟩) (by decide) (by decide)
        refine lv_iload_n hx hb dX11_ask_61 rfl (lv_at hl 2 rfl) ?_
        refine W.eq (g2 := F0 m 62 ls [.int p2, .ref (zq_r X (zq_r X (zq_r X (zq_r X h0 3) 0) 9) (p1.toNatClampNeg))]) rfl ?_
        refine zq_callv (zq_rV (As := [.int p2]) (rest := []) E hZ hM k132 (c_X7_setPrice l X zk (zn) I122 L (297 * (((ct : Nat)) : Int)) (zq_r X (zq_r X (zq_r X (zq_r X h0 3) 0) 9) (p1.toNatClampNeg)) k132 p2 ⟨by omega, by omega⟩ (hT128) (by omega)) zmX11_188 zM_X7_setPrice (hro (1) 2 (by first | decide | omega) (by decide)) ⟨by decide, by decide⟩ rfl hl.1 rfl rfl (Nat.le_of_ble_eq_true rfl) dX11_ask_62) hS (fun I135 H locs h133 hM hS => ?_)
        obtain ⟨fr136, p137⟩ := h133
        have hR := zq_fr.call hR fr136 (zf_sub (by decide +kernel) (fun _ _ _ => trivial))
        have hI138 := zI.town p124 L k130 (by have h9 := (zq_now L k129 ((L.2.2.2.1 _ k_h0).1)); omega) (zq_inn (i := p1) (n := 4) ⟨by omega, by omega⟩) fr136 p137
        have hS0139 := zS0.fr p125 L (zq_lk L.1 k_h0 rfl (by decide)) fr136 rfl
        refine lv_aload_n hx hb dX11_ask_65 rfl (lv_at hl 0 rfl) ?_
        refine zq_getr E hM k_h0 (zFX11_26 E hZ) ⟨by decide, by decide, by decide, rfl⟩ dX11_ask_66 ?_
        have k141 : zq_k X (zq_r X h0 3) = 1 := zq_lk L.1 k_h0 rfl (by decide)
        refine zq_getr E hM k141 (zFX11_95 E hZ) ⟨by decide, by decide, by decide, rfl⟩ dX11_ask_69 ?_
        have k142 : zq_k X (zq_r X (zq_r X h0 3) 0) = 8 := zq_lk L.1 k141 rfl (by decide)
        refine zq_getr E hM k142 (zFX11_134 E hZ) ⟨by decide, by decide, by decide, rfl⟩ dX11_ask_72 ?_
        have k143 : zq_k X (zq_r X (zq_r X (zq_r X h0 3) 0) 9) = 32 := zq_lk L.1 k142 rfl (by decide)
        refine lv_iload_n hx hb dX11_ask_75 rfl (lv_at hl 1 rfl) ?_
        refine zq_rald (n := 4) (t := 8) (j := (p1.toNatClampNeg)) E hZ hM k143 ⟨by decide, rfl⟩ ⟨rfl, by decide, by decide⟩ ⟨by omega, by omega⟩ rfl dX11_ask_76 ?_
        have k144 : zq_k X (zq_r X (zq_r X (zq_r X (zq_r X h0 3) 0) 9) (p1.toNatClampNeg)) = 7 := zq_lay_a L.1 k143 (n := 4) (zq_inn (i := p1) (n := 4) ⟨by omega, by omega⟩) (by decide) (by decide)
        refine zq_gn E hM k144 (zFX11_176 E hZ) (Or.inl ⟨by decide, by decide, by decide, rfl⟩) dX11_ask_77 (fun x145 ex145 gx145 => ?_)
        replace gx145 : (-1) ≤ x145.toInt ∧ x145.toInt ≤ 99 := gx145
        subst hQ
        exact zq_iret E hr hZ hM hS ⟨hR, ((zI.mono hI138 (by omega))), (hS0139), (by omega)⟩ hlocks dX11_ask_80
      · have b119 := zi_eq b119 (rfl : p2.toInt = p2.toInt) (rfl : x118.toInt = x118.toInt)
        refine lv_iconst (v := (-1)) hx hb dX11_ask_43 (by decide +kernel) ?_
        subst hQ
        exact zq_iret E hr hZ hM hS ⟨hR, ((zI.mono q_0 (by omega))), (q_1), (by have := zl_m1; omega)⟩ hlocks dX11_ask_44
def zw_X11_undo : List (Nat × Nat) := [(3, 3), (5, 0), (5, 1), (5, 2), (5, 3), (5, 4), (5, 5), (7, 0), (7, 1), (7, 2), (7, 3), (7, 4), (7, 5), (7, 6), (8, 0), (8, 1), (8, 2), (8, 3), (8, 4), (8, 5), (8, 6), (9, 8), (9, 9), (30, 999)]
set_option maxHeartbeats 8000000 in
set_option maxRecDepth 100000 in
theorem c_X11_undo (l : Launch) (X : zq_X) (zk zn : Nat) (I : zq_M) (L : zq_L X) (ct : Nat) (h0 : Nat) (k_h0 : zq_k X h0 = 9) (q_0 : zI X I ct) (q_1 : zS0 X I (zq_r X h0 4)) (q_2 : ct ≤ 600) : Met l yX11_undo (zt_w yX11_undo cX11_undo 1 (some .int)) (zq_rm (2)) (va_Pc [.ref h0] (zq_W X (zk, zn) I)) (va_Qi (fun (r : Int32) I2 => zq_fr (zf X zw_X11_undo (fun _ => True)) I I2 ∧ (zI X I2 (ct + 1)) ∧ (zS0 X I2 (zq_r X h0 4))) (zq_E X (zk, zn)) (zq_A X)) 0 0 (zq_A X) := by
  refine Met.ofW (cc := cX11_undo) (maxL := 1) (ret := (some .int)) (by decide) rfl ?_
  intro p e s m args below meth c s₁ B hml hv
  obtain ⟨hargs, hM, hZ⟩ := hv
  have hown : s.vm.findClass RX11 = some m.cls := findClass_of_methodNamed B.named
  have hts := atoms_spec (ws := zt_w yX11_undo cX11_undo 1 (some .int)) B.pre
  have E : CallFix p m c cX11_undo 1 s args (Cond.code yX11_undo cX11_undo 1 (some .int) :: zt) RX11 := ⟨B.exec, B.bytes, hml, hown, hts⟩
  have hx := B.exec
  have hb := B.bytes
  have hr := B.returns
  have hlocks := B.notSynchronized
  clear B
  have hS : va_S (zq_A X) s.heap s.heap [] := va_S.rf
  have hR : zq_fr (zf X zw_X11_undo (fun _ => True)) I I := zq_fr.rf
  have hl := lv_entry ([.ref h0]) (n := 1) (by exact Nat.le_of_ble_eq_true rfl)
  have hg : entryFrame m args 1 = F0 m 0 ((lg_sl ([.ref h0]) ++ List.replicate (1 - (lg_sl ([.ref h0])).length) Slot.unset).toArray) [] := by rw [hargs]; exact lg_entry_eq m ([.ref h0]) 1
  rw [hg]
  clear hg hargs
  generalize (lg_sl ([.ref h0]) ++ List.replicate (1 - (lg_sl ([.ref h0])).length) Slot.unset).toArray = ls at hl ⊢
  have hl : lv_has ls 1 [(0, .ref h0)] := by exact hl
  obtain ⟨R, hRm⟩ : ∃ R : Room, R = (headSpec (zt_w yX11_undo cX11_undo 1 (some .int)) (zq_rm (2))).room := ⟨_, rfl⟩
  rw [← hRm]
  have hro : ∀ d q : Nat, d + 1 ≤ 2 → q ≤ 45 → zq_rok d q R := fun d q h1 h2 => by rw [hRm]; exact zq_rokI h1 h2
  generalize hQ : MQ below _ args s 0 0 (zq_A X) = Q
  obtain ⟨H, hH⟩ : ∃ H, H = s.heap := ⟨_, rfl⟩
  obtain ⟨locs, hlo⟩ : ∃ x : List Loc, x = [] := ⟨_, rfl⟩
  rw [show W p l e R s m args below meth c s.heap [] 0 0 Q = W p l e R s m args below meth c H locs 0 0 Q by rw [hH, hlo]]
  have hM : zq_hm X (zk, zn) I H := by rw [hH]; exact hM
  have hS : va_S (zq_A X) s.heap H locs := by rw [hH, hlo]; exact hS
  clear hH hlo
  refine lv_aload_n hx hb dX11_undo_0 rfl (lv_at hl 0 rfl) ?_
  refine zq_gn E hM k_h0 (zFX11_191 E hZ) (Or.inl ⟨by decide, by decide, by decide, rfl⟩) dX11_undo_1 (fun x101 ex101 gx101 => ?_)
  clear gx101
  refine lv_if_ne (tgt := 9) hx hb dX11_undo_4 (by decide) (fun b102 => ?_) (fun b102 => ?_)
  · have b102 := zi_ne b102 (rfl : x101.toInt = x101.toInt) (zl_0 : (0 : Int32).toInt = 0)
    refine lv_aload_n hx hb dX11_undo_9 rfl (lv_at hl 0 rfl) ?_
    refine lv_dup hx hb dX11_undo_10 rfl ?_
    refine zq_gk (v := x101) E hM k_h0 (zFX11_191 E hZ) (Or.inl ⟨by decide, by decide, by decide, rfl⟩) ex101 dX11_undo_11 ?_
    refine lv_iconst (v := 1) hx hb dX11_undo_14 (by decide +kernel) ?_
    refine lv_isub hx hb dX11_undo_15 ?_
    refine lv_topi (fun x103 ex103 => ?_)
    refine zq_pn E hM hS k_h0 (zGX11_191 E hZ) ⟨by decide, by decide, by decide, rfl⟩ (zq_any _) dX11_undo_16 (fun I104 H locs eI104 hM hS => ?_)
    have hR := zq_fr.putE hR eI104 (zf_i k_h0 rfl rfl)
    have hI105 := zI.put q_0 L eI104 k_h0 (Or.inl ⟨by decide, by decide⟩)
    have hS0106 := zS0.put q_1 L (zq_lk L.1 k_h0 rfl (by decide)) eI104 k_h0 (Or.inl (by decide))
    refine lv_aload_n hx hb dX11_undo_19 rfl (lv_at hl 0 rfl) ?_
    refine lv_aload_n hx hb dX11_undo_20 rfl (lv_at hl 0 rfl) ?_
    refine zq_gn E hM k_h0 (zFX11_194 E hZ) (Or.inl ⟨by decide, by decide, by decide, rfl⟩) dX11_undo_21 (fun x107 ex107 gx107 => ?_)
    replace gx107 : 0 ≤ x107.toInt ∧ x107.toInt ≤ 19 := gx107
    refine W.eq (g2 := F0 m 24 ls [.int x107, .ref h0]) rfl ?_
    refine lv_iconst (v := 1) hx hb dX11_undo_24 (by decide +kernel) ?_
    refine lv_isub hx hb dX11_undo_25 ?_
    refine lv_topi (fun x108 ex108 => ?_)
    have tx108 := zi_sub ex108 (rfl : x107.toInt = x107.toInt) (zl_1 : (1 : Int32).toInt = 1) ⟨by omega, by omega⟩
    refine lv_bipush (v := 20) hx hb dX11_undo_26 (by decide +kernel) ?_
    refine zq_pcalli (zq_rS (As := [.int x108, .int (20 : Int32)]) (rest := [.ref h0]) E hZ hM (c_J9_floorMod_7cf53 l X zk (zn) I104 L x108 (20 : Int32) (by rw [zl_20]; decide)) zmX11_197 zM_J9_floorMod_7cf53 (hro (0) 3 (by first | decide | omega) (by decide)) hl.1 rfl rfl (Nat.le_of_ble_eq_true rfl) dX11_undo_28) hS (fun x110 H locs h109 hM hS => ?_)
    obtain ⟨p111, p112⟩ := h109
    have := zl_20
    refine zq_pn E hM hS k_h0 (zGX11_194 E hZ) ⟨by decide, by decide, by decide, rfl⟩ (show 0 ≤ x110.toInt ∧ x110.toInt ≤ 19 from ⟨by omega, by omega⟩) dX11_undo_31 (fun I113 H locs eI113 hM hS => ?_)
    have hR := zq_fr.putE hR eI113 (zf_i k_h0 rfl rfl)
    have hI114 := zI.put hI105 L eI113 k_h0 (Or.inl ⟨by decide, by decide⟩)
    have hS0115 := zS0.put hS0106 L (zq_lk L.1 k_h0 rfl (by decide)) eI113 k_h0 (Or.inl (by decide))
    refine lv_aload_n hx hb dX11_undo_34 rfl (lv_at hl 0 rfl) ?_
    refine zq_getr E hM k_h0 (zFX11_26 E hZ) ⟨by decide, by decide, by decide, rfl⟩ dX11_undo_35 ?_
    have k116 : zq_k X (zq_r X h0 3) = 1 := zq_lk L.1 k_h0 rfl (by decide)
    refine zq_getr E hM k116 (zFX11_95 E hZ) ⟨by decide, by decide, by decide, rfl⟩ dX11_undo_38 ?_
    have k117 : zq_k X (zq_r X (zq_r X h0 3) 0) = 8 := zq_lk L.1 k116 rfl (by decide)
    refine lv_aload_n hx hb dX11_undo_41 rfl (lv_at hl 0 rfl) ?_
    refine zq_getr E hM k_h0 (zFX11_45 E hZ) ⟨by decide, by decide, by decide, rfl⟩ dX11_undo_42 ?_
    have k118 : zq_k X (zq_r X h0 7) = 42 := zq_lk L.1 k_h0 rfl (by decide)
    refine W.eq (g2 := F0 m 45 ls [.ref (zq_r X h0 7), .ref (zq_r X (zq_r X h0 3) 0)]) rfl ?_
    refine lv_aload_n hx hb dX11_undo_45 rfl (lv_at hl 0 rfl) ?_
    refine zq_gk (v := x110) E hM k_h0 (zFX11_194 E hZ) (Or.inl ⟨by decide, by decide, by decide, rfl⟩) (zq_kv eI113) dX11_undo_46 ?_
    refine zq_rald (n := 20) (t := 5) (j := (x110.toNatClampNeg)) E hZ hM k118 ⟨by decide, rfl⟩ ⟨rfl, by decide, by decide⟩ ⟨by omega, by omega⟩ rfl dX11_undo_49 ?_
    have k119 : zq_k X (zq_r X (zq_r X h0 7) (x110.toNatClampNeg)) = 8 := zq_lay_a L.1 k118 (n := 20) (zq_inn (i := x110) (n := 20) ⟨by omega, by omega⟩) (by decide) (by decide)
    have := (zq_inn (i := x110) (n := 20) ⟨by omega, by omega⟩)
    refine zq_callv (zq_rV (As := [.ref (zq_r X (zq_r X h0 7) (x110.toNatClampNeg))]) (rest := []) E hZ hM k117 (c_X10_copyFrom l X zk (zn) I113 L (zq_r X (zq_r X h0 3) 0) k117 (zq_r X (zq_r X h0 7) (x110.toNatClampNeg)) k119 (fun hq => by have h1 := (zq_now L k116 ((L.2.2.2.1 _ k_h0).1)); have h2 := ((L.2.2.2.1 _ k_h0).2.2.2 _ (zq_inn (i := x110) (n := 20) ⟨by omega, by omega⟩)); omega)) zmX11_203 zM_X10_copyFrom (hro (1) 3 (by first | decide | omega) (by decide)) ⟨by decide, by decide⟩ rfl hl.1 rfl rfl (Nat.le_of_ble_eq_true rfl) dX11_undo_50) hS (fun I122 H locs h120 hM hS => ?_)
    obtain ⟨fr123, p124⟩ := h120
    have hR := zq_fr.call hR fr123 (zf_sub (by decide +kernel) (fun _ _ _ => trivial))
    have hI125 := zI.one (c2 := ct) hI114 L k117 fr123 (Nat.le_refl _) (zW.copy (hI114 _ k119 (by have h9 := ((L.2.2.2.1 _ k_h0).2.2.2 _ (zq_inn (i := x110) (n := 20) ⟨by omega, by omega⟩)); omega)) p124)
    have hS0126 := zS0.frP hS0115 L (zq_lk L.1 k_h0 rfl (by decide)) fr123 (fun q hq => (fun hp => by have h1 := (hq.trans (L.2.2.2.1 _ k_h0).2.1); have h2 := hp.trans ((zq_now L k116 ((L.2.2.2.1 _ k_h0).1))); omega))
    refine lv_aload_n hx hb dX11_undo_53 rfl (lv_at hl 0 rfl) ?_
    refine zq_getr E hM k_h0 (zFX11_52 E hZ) ⟨by decide, by decide, by decide, rfl⟩ dX11_undo_54 ?_
    have k127 : zq_k X (zq_r X h0 10) = 3 := zq_lk L.1 k_h0 rfl (by decide)
    refine zq_callv (zq_rV (As := []) (rest := []) E hZ hM k127 (c_X2_forget l X zk (zn) I122 L (zq_r X h0 10) k127) zmX11_112 zM_X2_forget (hro (0) 1 (by first | decide | omega) (by decide)) ⟨by decide, by decide⟩ rfl hl.1 rfl rfl (Nat.le_of_ble_eq_true rfl) dX11_undo_57) hS (fun I130 H locs h128 hM hS => ?_)
    have fr131 := h128
    have hR := zq_fr.call hR fr131 (zf_sub (by decide +kernel) (fun _ _ _ => trivial))
    have hI132 := zI.frL hI125 L fr131 rfl rfl
    have hS0133 := zS0.fr hS0126 L (zq_lk L.1 k_h0 rfl (by decide)) fr131 rfl
    refine lv_aload_n hx hb dX11_undo_60 rfl (lv_at hl 0 rfl) ?_
    refine zq_gk (v := x103) E hM k_h0 (zFX11_191 E hZ) (Or.inl ⟨by decide, by decide, by decide, rfl⟩) (zq_fr.kp fr131 (zf_n k_h0 rfl) (zq_fr.kp fr123 (zf_n k_h0 rfl) (zq_kp eI113 (Or.inr (by decide)) (zq_kv eI104)))) dX11_undo_61 ?_
    subst hQ
    exact zq_iret E hr hZ hM hS ⟨hR, ((zI.mono hI132 (by omega))), (hS0133)⟩ hlocks dX11_undo_64
  · have b102 := zi_eq b102 (rfl : x101.toInt = x101.toInt) (zl_0 : (0 : Int32).toInt = 0)
    refine lv_iconst (v := (-1)) hx hb dX11_undo_7 (by decide +kernel) ?_
    subst hQ
    exact zq_iret E hr hZ hM hS ⟨hR, ((zI.mono q_0 (by omega))), (q_1)⟩ hlocks dX11_undo_8
def zw_X11_ahead : List (Nat × Nat) := [(5, 0), (5, 1), (5, 2), (5, 3), (5, 4), (5, 5), (7, 0), (7, 1), (7, 2), (7, 3), (7, 4), (7, 5), (7, 6), (8, 0), (8, 1), (8, 2), (8, 3), (8, 4), (8, 5), (8, 6), (30, 999)]
set_option maxHeartbeats 8000000 in
set_option maxRecDepth 100000 in
theorem c_X11_ahead (l : Launch) (X : zq_X) (zk zn : Nat) (I : zq_M) (L : zq_L X) (ct : Nat) (h0 : Nat) (k_h0 : zq_k X h0 = 9) (p1 : Int32) (p2 : Int32) (p3 : Int32) (q_0 : zI X I ct) (q_1 : zS0 X I (zq_r X h0 4)) (q_2 : ct ≤ 600) : Met l yX11_ahead (zt_w yX11_ahead cX11_ahead 5 (some .int)) (zq_rm (6)) (va_Pc [.ref h0, .int p1, .int p2, .int p3] (zq_W X (zk, zn) I)) (va_Qi (fun (r : Int32) I2 => zq_fr (zf X zw_X11_ahead (fun _ => True)) I I2 ∧ (zI X I2 (ct + 1)) ∧ (zS0 X I2 (zq_r X h0 4))) (zq_E X (zk, zn)) (zq_A X)) 0 0 (zq_A X) := by
  refine Met.ofW (cc := cX11_ahead) (maxL := 5) (ret := (some .int)) (by decide) rfl ?_
  intro p e s m args below meth c s₁ B hml hv
  obtain ⟨hargs, hM, hZ⟩ := hv
  have hown : s.vm.findClass RX11 = some m.cls := findClass_of_methodNamed B.named
  have hts := atoms_spec (ws := zt_w yX11_ahead cX11_ahead 5 (some .int)) B.pre
  have E : CallFix p m c cX11_ahead 5 s args (Cond.code yX11_ahead cX11_ahead 5 (some .int) :: zt) RX11 := ⟨B.exec, B.bytes, hml, hown, hts⟩
  have hx := B.exec
  have hb := B.bytes
  have hr := B.returns
  have hlocks := B.notSynchronized
  clear B
  have hS : va_S (zq_A X) s.heap s.heap [] := va_S.rf
  have hR : zq_fr (zf X zw_X11_ahead (fun _ => True)) I I := zq_fr.rf
  have hl := lv_entry ([.ref h0, .int p1, .int p2, .int p3]) (n := 5) (by exact Nat.le_of_ble_eq_true rfl)
  have hg : entryFrame m args 5 = F0 m 0 ((lg_sl ([.ref h0, .int p1, .int p2, .int p3]) ++ List.replicate (5 - (lg_sl ([.ref h0, .int p1, .int p2, .int p3])).length) Slot.unset).toArray) [] := by rw [hargs]; exact lg_entry_eq m ([.ref h0, .int p1, .int p2, .int p3]) 5
  rw [hg]
  clear hg hargs
  generalize (lg_sl ([.ref h0, .int p1, .int p2, .int p3]) ++ List.replicate (5 - (lg_sl ([.ref h0, .int p1, .int p2, .int p3])).length) Slot.unset).toArray = ls at hl ⊢
  have hl : lv_has ls 5 [(0, .ref h0), (1, .int p1), (2, .int p2), (3, .int p3)] := by exact hl
  obtain ⟨R, hRm⟩ : ∃ R : Room, R = (headSpec (zt_w yX11_ahead cX11_ahead 5 (some .int)) (zq_rm (6))).room := ⟨_, rfl⟩
  rw [← hRm]
  have hro : ∀ d q : Nat, d + 1 ≤ 6 → q ≤ 45 → zq_rok d q R := fun d q h1 h2 => by rw [hRm]; exact zq_rokI h1 h2
  generalize hQ : MQ below _ args s 0 0 (zq_A X) = Q
  obtain ⟨H, hH⟩ : ∃ H, H = s.heap := ⟨_, rfl⟩
  obtain ⟨locs, hlo⟩ : ∃ x : List Loc, x = [] := ⟨_, rfl⟩
  rw [show W p l e R s m args below meth c s.heap [] 0 0 Q = W p l e R s m args below meth c H locs 0 0 Q by rw [hH, hlo]]
  have hM : zq_hm X (zk, zn) I H := by rw [hH]; exact hM
  have hS : va_S (zq_A X) s.heap H locs := by rw [hH, hlo]; exact hS
  clear hH hlo
  refine lv_aload_n hx hb dX11_ahead_0 rfl (lv_at hl 0 rfl) ?_
  refine zq_getr E hM k_h0 (zFX11_26 E hZ) ⟨by decide, by decide, by decide, rfl⟩ dX11_ahead_1 ?_
  have k101 : zq_k X (zq_r X h0 3) = 1 := zq_lk L.1 k_h0 rfl (by decide)
  refine zq_getr E hM k101 (zFX11_95 E hZ) ⟨by decide, by decide, by decide, rfl⟩ dX11_ahead_4 ?_
  have k102 : zq_k X (zq_r X (zq_r X h0 3) 0) = 8 := zq_lk L.1 k101 rfl (by decide)
  refine zq_gn E hM k102 (zFX11_141 E hZ) (Or.inr ⟨by decide, by decide, by decide, rfl⟩) dX11_ahead_7 (fun x103 ex103 gx103 => ?_)
  replace gx103 : 0 ≤ x103.toInt ∧ x103.toInt ≤ 1 := gx103
  refine lv_if_eq (tgt := 51) hx hb dX11_ahead_10 (by decide) (fun b104 => ?_) (fun b104 => ?_)
  · have b104 := zi_eq b104 (rfl : x103.toInt = x103.toInt) (zl_0 : (0 : Int32).toInt = 0)
    refine lv_iconst (v := (-1)) hx hb dX11_ahead_51 (by decide +kernel) ?_
    subst hQ
    exact zq_iret E hr hZ hM hS ⟨hR, ((zI.mono q_0 (by omega))), (q_1)⟩ hlocks dX11_ahead_52
  · have b104 := zi_ne b104 (rfl : x103.toInt = x103.toInt) (zl_0 : (0 : Int32).toInt = 0)
    refine lv_iload_n hx hb dX11_ahead_13 rfl (lv_at hl 2 rfl) ?_
    refine lv_iconst (v := 0) hx hb dX11_ahead_14 (by decide +kernel) ?_
    refine lv_bipush (v := 60) hx hb dX11_ahead_15 (by decide +kernel) ?_
    refine zq_pcalli (zq_rS (As := [.int p2, .int (0 : Int32), .int (60 : Int32)]) (rest := []) E hZ hM (c_X11_isWithin l X zk (zn) I L p2 (0 : Int32) (60 : Int32)) zmX11_75 zM_X11_isWithin (hro (0) 3 (by first | decide | omega) (by decide)) hl.1 rfl rfl (Nat.le_of_ble_eq_true rfl) dX11_ahead_17) hS (fun x106 H locs h105 hM hS => ?_)
    obtain ⟨p107, p108⟩ := h105
    have := zl_0
    have := zl_60
    refine lv_if_eq (tgt := 51) hx hb dX11_ahead_20 (by decide) (fun b109 => ?_) (fun b109 => ?_)
    · have b109 := zi_eq b109 (rfl : x106.toInt = x106.toInt) (zl_0 : (0 : Int32).toInt = 0)
      refine lv_iconst (v := (-1)) hx hb dX11_ahead_51 (by decide +kernel) ?_
      subst hQ
      exact zq_iret E hr hZ hM hS ⟨hR, ((zI.mono q_0 (by omega))), (q_1)⟩ hlocks dX11_ahead_52
    · have b109 := zi_ne b109 (rfl : x106.toInt = x106.toInt) (zl_0 : (0 : Int32).toInt = 0)
      refine lv_iload_n hx hb dX11_ahead_23 rfl (lv_at hl 3 rfl) ?_
      refine lv_iconst (v := 0) hx hb dX11_ahead_24 (by decide +kernel) ?_
      refine lv_iconst (v := 3) hx hb dX11_ahead_25 (by decide +kernel) ?_
      refine zq_pcalli (zq_rS (As := [.int p3, .int (0 : Int32), .int (3 : Int32)]) (rest := []) E hZ hM (c_X11_isWithin l X zk (zn) I L p3 (0 : Int32) (3 : Int32)) zmX11_75 zM_X11_isWithin (hro (0) 3 (by first | decide | omega) (by decide)) hl.1 rfl rfl (Nat.le_of_ble_eq_true rfl) dX11_ahead_26) hS (fun x111 H locs h110 hM hS => ?_)
      obtain ⟨p112, p113⟩ := h110
      have := zl_0
      have := zl_3
      refine lv_if_eq (tgt := 51) hx hb dX11_ahead_29 (by decide) (fun b114 => ?_) (fun b114 => ?_)
      · have b114 := zi_eq b114 (rfl : x111.toInt = x111.toInt) (zl_0 : (0 : Int32).toInt = 0)
        refine lv_iconst (v := (-1)) hx hb dX11_ahead_51 (by decide +kernel) ?_
        subst hQ
        exact zq_iret E hr hZ hM hS ⟨hR, ((zI.mono q_0 (by omega))), (q_1)⟩ hlocks dX11_ahead_52
      · have b114 := zi_ne b114 (rfl : x111.toInt = x111.toInt) (zl_0 : (0 : Int32).toInt = 0)
        refine lv_iload_n hx hb dX11_ahead_32 rfl (lv_at hl 3 rfl) ?_
        refine lv_iconst (v := 2) hx hb dX11_ahead_33 (by decide +kernel) ?_
        have J53 : ∀ (H : Heap) (locs : List Loc) (ls : Array Slot), (zq_hm X (zk, zn) I H) → (va_S (zq_A X) s.heap H locs) → (p3.toInt < 2 ∨ (0 ≤ p1.toInt ∧ p1.toInt ≤ 3)) → (lv_has ls 5 [(0, .ref h0), (1, .int p1), (2, .int p2), (3, .int p3)]) → W p l e R s m args below meth c H locs 0 0 Q (F0 m 53 ls []) := by
          intro H locs ls hM hS hA9 hl
          refine lv_aload_n hx hb dX11_ahead_53 rfl (lv_at hl 0 rfl) ?_
          refine zq_getr E hM k_h0 (zFX11_52 E hZ) ⟨by decide, by decide, by decide, rfl⟩ dX11_ahead_54 ?_
          have k144 : zq_k X (zq_r X h0 10) = 3 := zq_lk L.1 k_h0 rfl (by decide)
          refine lv_aload_n hx hb dX11_ahead_57 rfl (lv_at hl 0 rfl) ?_
          refine zq_getr E hM k_h0 (zFX11_26 E hZ) ⟨by decide, by decide, by decide, rfl⟩ dX11_ahead_58 ?_
          have k145 : zq_k X (zq_r X h0 3) = 1 := zq_lk L.1 k_h0 rfl (by decide)
          refine zq_getr E hM k145 (zFX11_95 E hZ) ⟨by decide, by decide, by decide, rfl⟩ dX11_ahead_61 ?_
          have k146 : zq_k X (zq_r X (zq_r X h0 3) 0) = 8 := zq_lk L.1 k145 rfl (by decide)
          refine lv_aload_n hx hb dX11_ahead_64 rfl (lv_at hl 0 rfl) ?_
          refine zq_call_o (aa := #[]) (zq_rV (As := []) (rest := [.ref (zq_r X (zq_r X h0 3) 0), .ref (zq_r X h0 10)]) E hZ hM k_h0 (c_X11_ruleInForce l X zk (zn) I L h0 k_h0) zmX11_151 zM_X11_ruleInForce (hro (1) 1 (by first | decide | omega) (by decide)) ⟨by decide, by decide⟩ rfl hl.1 rfl rfl (Nat.le_of_ble_eq_true rfl) dX11_ahead_65) hS (fun y148 I149 H locs h147 hqy148 hM hS => ?_)
          obtain ⟨fr150, p151⟩ := h147
          rw [fr150] at hM
          refine lv_iload_n hx hb dX11_ahead_68 rfl (lv_at hl 2 rfl) ?_
          refine zq_callr (zq_rV (As := [.ref (zq_r X (zq_r X h0 3) 0), va_rf y148, .int p2]) (rest := []) E hZ hM k144 (c_X2_worldAfter l X zk (zn) I L (297 * (((ct : Nat)) : Int)) (zq_r X h0 10) k144 (zq_r X (zq_r X h0 3) 0) k146 y148 hqy148 p2 ⟨by omega, by omega⟩ ((q_0 _ k146 (by have h9 := (zq_now L k145 ((L.2.2.2.1 _ k_h0).1)); omega))) ((zq_now L k145 ((L.2.2.2.1 _ k_h0).1))) (by omega)) zmX11_206 zM_X2_worldAfter (hro (5) 5 (by first | decide | omega) (by decide)) ⟨by decide, by decide⟩ rfl hl.1 rfl rfl (Nat.le_of_ble_eq_true rfl) dX11_ahead_69) hS (fun y153 I154 H locs h152 ky153 hM hS => ?_)
          have fr155 := h152
          have hR := zq_fr.call hR fr155 (zf_sub (by decide +kernel) (fun _ _ _ => trivial))
          have hI156 := zI.frP q_0 L fr155 (fun q hp => by omega)
          have hS0157 := zS0.frP q_1 L (zq_lk L.1 k_h0 rfl (by decide)) fr155 (fun q hq => (fun hp => by have h1 := (hq.trans (L.2.2.2.1 _ k_h0).2.1); omega))
          refine W.eq (g2 := F0 m 72 ls [.ref y153]) rfl ?_
          refine lv_astore (lv' := [(4, .ref y153), (0, .ref h0), (1, .int p1), (2, .int p2), (3, .int p3)]) hx hb dX11_ahead_72 hl (by decide) rfl (fun ls hl => ?_)
          refine lv_iload_n hx hb dX11_ahead_74 rfl (lv_at hl 4 rfl) ?_
          by_cases c158 : p3.toInt < 0 ∨ 2 < p3.toInt
          · refine lv_tableOut (tgt := 123) hx hb dX11_ahead_75 c158 (by decide) ?_
            refine lv_aload hx hb dX11_ahead_123 (lv_at hl 0 rfl) ?_
            refine zq_getr E hM ky153 (zFX11_134 E hZ) ⟨by decide, by decide, by decide, rfl⟩ dX11_ahead_125 ?_
            have k159 : zq_k X (zq_r X y153 9) = 32 := zq_lk L.1 ky153 rfl (by decide)
            refine lv_iload_n hx hb dX11_ahead_128 rfl (lv_at hl 2 rfl) ?_
            refine zq_rald (n := 4) (t := 8) (j := (p1.toNatClampNeg)) E hZ hM k159 ⟨by decide, rfl⟩ ⟨rfl, by decide, by decide⟩ ⟨by omega, by omega⟩ rfl dX11_ahead_129 ?_
            have k160 : zq_k X (zq_r X (zq_r X y153 9) (p1.toNatClampNeg)) = 7 := zq_lay_a L.1 k159 (n := 4) (zq_inn (i := p1) (n := 4) ⟨by omega, by omega⟩) (by decide) (by decide)
            refine zq_gn E hM k160 (zFX11_176 E hZ) (Or.inl ⟨by decide, by decide, by decide, rfl⟩) dX11_ahead_130 (fun x161 ex161 gx161 => ?_)
            replace gx161 : (-1) ≤ x161.toInt ∧ x161.toInt ≤ 99 := gx161
            subst hQ
            exact zq_iret E hr hZ hM hS ⟨hR, ((zI.mono hI156 (by omega))), (hS0157)⟩ hlocks dX11_ahead_133
          · have c158 : p3.toInt = 0 ∨ p3.toInt = 1 ∨ p3.toInt = 2 := by omega
            rcases c158 with c158 | c158 | c158
            · refine lv_tableIn (tgt := 100) hx hb dX11_ahead_75 (by omega) (by omega) (by rw [c158]; rfl) (by decide) ?_
              refine lv_aload hx hb dX11_ahead_100 (lv_at hl 0 rfl) ?_
              refine zq_gn E hM ky153 (zFX11_167 E hZ) (Or.inl ⟨by decide, by decide, by decide, rfl⟩) dX11_ahead_102 (fun x162 ex162 gx162 => ?_)
              clear gx162
              subst hQ
              exact zq_iret E hr hZ hM hS ⟨hR, ((zI.mono hI156 (by omega))), (hS0157)⟩ hlocks dX11_ahead_105
            · refine lv_tableIn (tgt := 106) hx hb dX11_ahead_75 (by omega) (by omega) (by rw [c158]; rfl) (by decide) ?_
              refine lv_aload hx hb dX11_ahead_106 (lv_at hl 0 rfl) ?_
              refine zq_gn E hM ky153 (zFX11_210 E hZ) (Or.inl ⟨by decide, by decide, by decide, rfl⟩) dX11_ahead_108 (fun x163 ex163 gx163 => ?_)
              clear gx163
              subst hQ
              exact zq_iret E hr hZ hM hS ⟨hR, ((zI.mono hI156 (by omega))), (hS0157)⟩ hlocks dX11_ahead_111
            · refine lv_tableIn (tgt := 112) hx hb dX11_ahead_75 (by omega) (by omega) (by rw [c158]; rfl) (by decide) ?_
              refine lv_aload hx hb dX11_ahead_112 (lv_at hl 0 rfl) ?_
              refine zq_getr E hM ky153 (zFX11_134 E hZ) ⟨by decide, by decide, by decide, rfl⟩ dX11_ahead_114 ?_
              have k164 : zq_k X (zq_r X y153 9) = 32 := zq_lk L.1 ky153 rfl (by decide)
              refine lv_iload_n hx hb dX11_ahead_117 rfl (lv_at hl 2 rfl) ?_
              refine zq_rald (n := 4) (t := 8) (j := (p1.toNatClampNeg)) E hZ hM k164 ⟨by decide, rfl⟩ ⟨rfl, by decide, by decide⟩ ⟨by omega, by omega⟩ rfl dX11_ahead_118 ?_
              have k165 : zq_k X (zq_r X (zq_r X y153 9) (p1.toNatClampNeg)) = 7 := zq_lay_a L.1 k164 (n := 4) (zq_inn (i := p1) (n := 4) ⟨by omega, by omega⟩) (by decide) (by decide)
              refine zq_gn E hM k165 (zFX11_170 E hZ) (Or.inl ⟨by decide, by decide, by decide, rfl⟩) dX11_ahead_119 (fun x166 ex166 gx166 => ?_)
              clear gx166
              subst hQ
              exact zq_iret E hr hZ hM hS ⟨hR, ((zI.mono hI156 (by omega))), (hS0157)⟩ hlocks dX11_ahead_122
        refine lv_icmp_lt (tgt := 53) hx hb dX11_ahead_34 (by decide) (fun b167 => ?_) (fun b167 => ?_)
        · have b167 := zi_lt b167 (rfl : p3.toInt = p3.toInt) (zl_2 : (2 : Int32).toInt = 2)
          exact J53 H locs ls hM hS (by omega) (lv_sub hl [0, 1, 2, 3] rfl)
        · have b167 := zi_nlt b167 (rfl : p3.toInt = p3.toInt) (zl_2 : (2 : Int32).toInt = 2)
          refine lv_aload_n hx hb dX11_ahead_37 rfl (lv_at hl 0 rfl) ?_
          refine zq_getr E hM k_h0 (zFX11_26 E hZ) ⟨by decide, by decide, by decide, rfl⟩ dX11_ahead_38 ?_
          have k168 : zq_k X (zq_r X h0 3) = 1 := zq_lk L.1 k_h0 rfl (by decide)
          refine zq_getr E hM k168 (zFX11_95 E hZ) ⟨by decide, by decide, by decide, rfl⟩ dX11_ahead_41 ?_
          have k169 : zq_k X (zq_r X (zq_r X h0 3) 0) = 8 := zq_lk L.1 k168 rfl (by decide)
          refine lv_iload_n hx hb dX11_ahead_44 rfl (lv_at hl 1 rfl) ?_
          refine zq_pcalli (zq_rV (As := [.int p1]) (rest := []) E hZ hM k169 (c_X10_hasTown l X zk (zn) I L (zq_r X (zq_r X h0 3) 0) k169 p1) zmX11_128 zM_X10_hasTown (hro (0) 2 (by first | decide | omega) (by decide)) ⟨by decide, by decide⟩ rfl hl.1 rfl rfl (Nat.le_of_ble_eq_true rfl) dX11_ahead_45) hS (fun x171 H locs h170 hM hS => ?_)
          obtain ⟨p172, p173, p174⟩ := h170
          refine lv_if_ne (tgt := 53) hx hb dX11_ahead_48 (by decide) (fun b175 => ?_) (fun b175 => ?_)
          · have b175 := zi_ne b175 (rfl : x171.toInt = x171.toInt) (zl_0 : (0 : Int32).toInt = 0)
            exact J53 H locs ls hM hS (by omega) (lv_sub hl [0, 1, 2, 3] rfl)
          · have b175 := zi_eq b175 (rfl : x171.toInt = x171.toInt) (zl_0 : (0 : Int32).toInt = 0)
            refine lv_iconst (v := (-1)) hx hb dX11_ahead_51 (by decide +kernel) ?_
            subst hQ
            exact zq_iret E hr hZ hM hS ⟨hR, ((zI.mono q_0 (by omega))), (q_1)⟩ hlocks dX11_ahead_52
set_option maxHeartbeats 8000000 in
set_option maxRecDepth 100000 in
theorem c_X11_comes (l : Launch) (X : zq_X) (zk zn : Nat) (I : zq_M) (L : zq_L X) (ct : Nat) (h0 : Nat) (k_h0 : zq_k X h0 = 9) (p1 : Int32) (p2 : Int32) (p3 : Int32) (g_p3 : 0 ≤ p3.toInt ∧ p3.toInt ≤ 1) (q_0 : zI X I ct) (q_1 : zS0 X I (zq_r X h0 4)) (q_2 : ct ≤ 600) : Met l yX11_comes (zt_w yX11_comes cX11_comes 4 (some .int)) (zq_rm (2)) (va_Pc [.ref h0, .int p1, .int p2, .int p3] (zq_W X (zk, zn) I)) (va_Qi (fun (r : Int32) I2 => I2 = I ∧ (zI X I2 (ct + 1)) ∧ (zS0 X I2 (zq_r X h0 4))) (zq_E X (zk, zn)) (zq_A X)) 0 0 (zq_A X) := by
  refine Met.ofW (cc := cX11_comes) (maxL := 4) (ret := (some .int)) (by decide) rfl ?_
  intro p e s m args below meth c s₁ B hml hv
  obtain ⟨hargs, hM, hZ⟩ := hv
  have hown : s.vm.findClass RX11 = some m.cls := findClass_of_methodNamed B.named
  have hts := atoms_spec (ws := zt_w yX11_comes cX11_comes 4 (some .int)) B.pre
  have E : CallFix p m c cX11_comes 4 s args (Cond.code yX11_comes cX11_comes 4 (some .int) :: zt) RX11 := ⟨B.exec, B.bytes, hml, hown, hts⟩
  have hx := B.exec
  have hb := B.bytes
  have hr := B.returns
  have hlocks := B.notSynchronized
  clear B
  have hS : va_S (zq_A X) s.heap s.heap [] := va_S.rf
  have hl := lv_entry ([.ref h0, .int p1, .int p2, .int p3]) (n := 4) (by exact Nat.le_of_ble_eq_true rfl)
  have hg : entryFrame m args 4 = F0 m 0 ((lg_sl ([.ref h0, .int p1, .int p2, .int p3]) ++ List.replicate (4 - (lg_sl ([.ref h0, .int p1, .int p2, .int p3])).length) Slot.unset).toArray) [] := by rw [hargs]; exact lg_entry_eq m ([.ref h0, .int p1, .int p2, .int p3]) 4
  rw [hg]
  clear hg hargs
  generalize (lg_sl ([.ref h0, .int p1, .int p2, .int p3]) ++ List.replicate (4 - (lg_sl ([.ref h0, .int p1, .int p2, .int p3])).length) Slot.unset).toArray = ls at hl ⊢
  have hl : lv_has ls 4 [(0, .ref h0), (1, .int p1), (2, .int p2), (3, .int p3)] := by exact hl
  obtain ⟨R, hRm⟩ : ∃ R : Room, R = (headSpec (zt_w yX11_comes cX11_comes 4 (some .int)) (zq_rm (2))).room := ⟨_, rfl⟩
  rw [← hRm]
  have hro : ∀ d q : Nat, d + 1 ≤ 2 → q ≤ 45 → zq_rok d q R := fun d q h1 h2 => by rw [hRm]; exact zq_rokI h1 h2
  generalize hQ : MQ below _ args s 0 0 (zq_A X) = Q
  obtain ⟨H, hH⟩ : ∃ H, H = s.heap := ⟨_, rfl⟩
  obtain ⟨locs, hlo⟩ : ∃ x : List Loc, x = [] := ⟨_, rfl⟩
  rw [show W p l e R s m args below meth c s.heap [] 0 0 Q = W p l e R s m args below meth c H locs 0 0 Q by rw [hH, hlo]]
  have hM : zq_hm X (zk, zn) I H := by rw [hH]; exact hM
  have hS : va_S (zq_A X) s.heap H locs := by rw [hH, hlo]; exact hS
  clear hH hlo
  refine lv_aload_n hx hb dX11_comes_0 rfl (lv_at hl 0 rfl) ?_
  refine zq_getr E hM k_h0 (zFX11_26 E hZ) ⟨by decide, by decide, by decide, rfl⟩ dX11_comes_1 ?_
  have k101 : zq_k X (zq_r X h0 3) = 1 := zq_lk L.1 k_h0 rfl (by decide)
  refine zq_getr E hM k101 (zFX11_95 E hZ) ⟨by decide, by decide, by decide, rfl⟩ dX11_comes_4 ?_
  have k102 : zq_k X (zq_r X (zq_r X h0 3) 0) = 8 := zq_lk L.1 k101 rfl (by decide)
  refine lv_iload_n hx hb dX11_comes_7 rfl (lv_at hl 1 rfl) ?_
  refine zq_pcalli (zq_rV (As := [.int p1]) (rest := []) E hZ hM k102 (c_X10_hasTown l X zk (zn) I L (zq_r X (zq_r X h0 3) 0) k102 p1) zmX11_128 zM_X10_hasTown (hro (0) 2 (by first | decide | omega) (by decide)) ⟨by decide, by decide⟩ rfl hl.1 rfl rfl (Nat.le_of_ble_eq_true rfl) dX11_comes_8) hS (fun x104 H locs h103 hM hS => ?_)
  obtain ⟨p105, p106, p107⟩ := h103
  refine lv_if_eq (tgt := 25) hx hb dX11_comes_11 (by decide) (fun b108 => ?_) (fun b108 => ?_)
  · have b108 := zi_eq b108 (rfl : x104.toInt = x104.toInt) (zl_0 : (0 : Int32).toInt = 0)
    refine lv_iconst (v := (-1)) hx hb dX11_comes_25 (by decide +kernel) ?_
    subst hQ
    exact zq_iret E hr hZ hM hS ⟨rfl, ((zI.mono q_0 (by omega))), (q_1)⟩ hlocks dX11_comes_26
  · have b108 := zi_ne b108 (rfl : x104.toInt = x104.toInt) (zl_0 : (0 : Int32).toInt = 0)
    refine lv_iload_n hx hb dX11_comes_14 rfl (lv_at hl 2 rfl) ?_
    refine lv_iconst (v := 0) hx hb dX11_comes_15 (by decide +kernel) ?_
    refine lv_sipush (v := 999) hx hb dX11_comes_16 (by decide +kernel) ?_
    refine zq_pcalli (zq_rS (As := [.int p2, .int (0 : Int32), .int (999 : Int32)]) (rest := []) E hZ hM (c_X11_isWithin l X zk (zn) I L p2 (0 : Int32) (999 : Int32)) zmX11_75 zM_X11_isWithin (hro (0) 3 (by first | decide | omega) (by decide)) hl.1 rfl rfl (Nat.le_of_ble_eq_true rfl) dX11_comes_19) hS (fun x110 H locs h109 hM hS => ?_)
    obtain ⟨p111, p112⟩ := h109
    have := zl_0
    have := zl_999
    refine lv_if_ne (tgt := 27) hx hb dX11_comes_22 (by decide) (fun b113 => ?_) (fun b113 => ?_)
    · have b113 := zi_ne b113 (rfl : x110.toInt = x110.toInt) (zl_0 : (0 : Int32).toInt = 0)
      refine lv_aload_n hx hb dX11_comes_27 rfl (lv_at hl 0 rfl) ?_
      refine zq_getr E hM k_h0 (zFX11_26 E hZ) ⟨by decide, by decide, by decide, rfl⟩ dX11_comes_28 ?_
      have k114 : zq_k X (zq_r X h0 3) = 1 := zq_lk L.1 k_h0 rfl (by decide)
      refine zq_getr E hM k114 (zFX11_95 E hZ) ⟨by decide, by decide, by decide, rfl⟩ dX11_comes_31 ?_
      have k115 : zq_k X (zq_r X (zq_r X h0 3) 0) = 8 := zq_lk L.1 k114 rfl (by decide)
      refine zq_getr E hM k115 (zFX11_134 E hZ) ⟨by decide, by decide, by decide, rfl⟩ dX11_comes_34 ?_
      have k116 : zq_k X (zq_r X (zq_r X (zq_r X h0 3) 0) 9) = 32 := zq_lk L.1 k115 rfl (by decide)
      refine lv_iload_n hx hb dX11_comes_37 rfl (lv_at hl 1 rfl) ?_
      refine zq_rald (n := 4) (t := 8) (j := (p1.toNatClampNeg)) E hZ hM k116 ⟨by decide, rfl⟩ ⟨rfl, by decide, by decide⟩ ⟨by omega, by omega⟩ rfl dX11_comes_38 ?_
      have k117 : zq_k X (zq_r X (zq_r X (zq_r X (zq_r X h0 3) 0) 9) (p1.toNatClampNeg)) = 7 := zq_lay_a L.1 k116 (n := 4) (zq_inn (i := p1) (n := 4) ⟨by omega, by omega⟩) (by decide) (by decide)
      refine lv_iload_n hx hb dX11_comes_39 rfl (lv_at hl 2 rfl) ?_
      refine lv_iload_n hx hb dX11_comes_40 rfl (lv_at hl 3 rfl) ?_
      refine zq_pcalli (zq_rV (As := [.int p2, .int p3]) (rest := []) E hZ hM k117 (c_X7_arriving l X zk (zn) I L (zq_r X (zq_r X (zq_r X (zq_r X h0 3) 0) 9) (p1.toNatClampNeg)) k117 p2 p3 ⟨by omega, by omega⟩) zmX11_213 zM_X7_arriving (hro (1) 6 (by first | decide | omega) (by decide)) ⟨by decide, by decide⟩ rfl hl.1 rfl rfl (Nat.le_of_ble_eq_true rfl) dX11_comes_41) hS (fun x119 H locs h118 hM hS => ?_)
      clear h118
      refine W.eq (g2 := F0 m 44 ls [.int x119]) rfl ?_
      subst hQ
      exact zq_iret E hr hZ hM hS ⟨rfl, ((zI.mono q_0 (by omega))), (q_1)⟩ hlocks dX11_comes_44
    · have b113 := zi_eq b113 (rfl : x110.toInt = x110.toInt) (zl_0 : (0 : Int32).toInt = 0)
      refine lv_iconst (v := (-1)) hx hb dX11_comes_25 (by decide +kernel) ?_
      subst hQ
      exact zq_iret E hr hZ hM hS ⟨rfl, ((zI.mono q_0 (by omega))), (q_1)⟩ hlocks dX11_comes_26
set_option maxHeartbeats 8000000 in
set_option maxRecDepth 100000 in
theorem c_X11_load (l : Launch) (X : zq_X) (zk zn : Nat) (I : zq_M) (L : zq_L X) (ct : Nat) (h0 : Nat) (k_h0 : zq_k X h0 = 9) (p1 : Int32) (p2 : Int32) (p3 : Int32) (g_p3 : 0 ≤ p3.toInt ∧ p3.toInt ≤ 1) (q_0 : zI X I ct) (q_1 : zS0 X I (zq_r X h0 4)) (q_2 : ct ≤ 600) : Met l yX11_load (zt_w yX11_load cX11_load 4 (some .int)) (zq_rm (3)) (va_Pc [.ref h0, .int p1, .int p2, .int p3] (zq_W X (zk, zn) I)) (va_Qi (fun (r : Int32) I2 => I2 = I ∧ (zI X I2 (ct + 1)) ∧ (zS0 X I2 (zq_r X h0 4)) ∧ ((-2) ≤ r.toInt ∧ r.toInt ≤ 999)) (zq_E X (zk, zn)) (zq_A X)) 0 0 (zq_A X) := by
  refine Met.ofW (cc := cX11_load) (maxL := 4) (ret := (some .int)) (by decide) rfl ?_
  intro p e s m args below meth c s₁ B hml hv
  obtain ⟨hargs, hM, hZ⟩ := hv
  have hown : s.vm.findClass RX11 = some m.cls := findClass_of_methodNamed B.named
  have hts := atoms_spec (ws := zt_w yX11_load cX11_load 4 (some .int)) B.pre
  have E : CallFix p m c cX11_load 4 s args (Cond.code yX11_load cX11_load 4 (some .int) :: zt) RX11 := ⟨B.exec, B.bytes, hml, hown, hts⟩
  have hx := B.exec
  have hb := B.bytes
  have hr := B.returns
  have hlocks := B.notSynchronized
  clear B
  have hS : va_S (zq_A X) s.heap s.heap [] := va_S.rf
  have hl := lv_entry ([.ref h0, .int p1, .int p2, .int p3]) (n := 4) (by exact Nat.le_of_ble_eq_true rfl)
  have hg : entryFrame m args 4 = F0 m 0 ((lg_sl ([.ref h0, .int p1, .int p2, .int p3]) ++ List.replicate (4 - (lg_sl ([.ref h0, .int p1, .int p2, .int p3])).length) Slot.unset).toArray) [] := by rw [hargs]; exact lg_entry_eq m ([.ref h0, .int p1, .int p2, .int p3]) 4
  rw [hg]
  clear hg hargs
  generalize (lg_sl ([.ref h0, .int p1, .int p2, .int p3]) ++ List.replicate (4 - (lg_sl ([.ref h0, .int p1, .int p2, .int p3])).length) Slot.unset).toArray = ls at hl ⊢
  have hl : lv_has ls 4 [(0, .ref h0), (1, .int p1), (2, .int p2), (3, .int p3)] := by exact hl
  obtain ⟨R, hRm⟩ : ∃ R : Room, R = (headSpec (zt_w yX11_load cX11_load 4 (some .int)) (zq_rm (3))).room := ⟨_, rfl⟩
  rw [← hRm]
  have hro : ∀ d q : Nat, d + 1 ≤ 3 → q ≤ 45 → zq_rok d q R := fun d q h1 h2 => by rw [hRm]; exact zq_rokI h1 h2
  generalize hQ : MQ below _ args s 0 0 (zq_A X) = Q
  obtain ⟨H, hH⟩ : ∃ H, H = s.heap := ⟨_, rfl⟩
  obtain ⟨locs, hlo⟩ : ∃ x : List Loc, x = [] := ⟨_, rfl⟩
  rw [show W p l e R s m args below meth c s.heap [] 0 0 Q = W p l e R s m args below meth c H locs 0 0 Q by rw [hH, hlo]]
  have hM : zq_hm X (zk, zn) I H := by rw [hH]; exact hM
  have hS : va_S (zq_A X) s.heap H locs := by rw [hH, hlo]; exact hS
  clear hH hlo
  refine lv_aload_n hx hb dX11_load_0 rfl (lv_at hl 0 rfl) ?_
  refine zq_getr E hM k_h0 (zFX11_26 E hZ) ⟨by decide, by decide, by decide, rfl⟩ dX11_load_1 ?_
  have k101 : zq_k X (zq_r X h0 3) = 1 := zq_lk L.1 k_h0 rfl (by decide)
  refine zq_getr E hM k101 (zFX11_95 E hZ) ⟨by decide, by decide, by decide, rfl⟩ dX11_load_4 ?_
  have k102 : zq_k X (zq_r X (zq_r X h0 3) 0) = 8 := zq_lk L.1 k101 rfl (by decide)
  refine lv_iload_n hx hb dX11_load_7 rfl (lv_at hl 1 rfl) ?_
  refine zq_pcalli (zq_rV (As := [.int p1]) (rest := []) E hZ hM k102 (c_X10_hasTown l X zk (zn) I L (zq_r X (zq_r X h0 3) 0) k102 p1) zmX11_128 zM_X10_hasTown (hro (0) 2 (by first | decide | omega) (by decide)) ⟨by decide, by decide⟩ rfl hl.1 rfl rfl (Nat.le_of_ble_eq_true rfl) dX11_load_8) hS (fun x104 H locs h103 hM hS => ?_)
  obtain ⟨p105, p106, p107⟩ := h103
  refine lv_if_eq (tgt := 24) hx hb dX11_load_11 (by decide) (fun b108 => ?_) (fun b108 => ?_)
  · have b108 := zi_eq b108 (rfl : x104.toInt = x104.toInt) (zl_0 : (0 : Int32).toInt = 0)
    refine lv_iconst (v := (-1)) hx hb dX11_load_24 (by decide +kernel) ?_
    subst hQ
    exact zq_iret E hr hZ hM hS ⟨rfl, ((zI.mono q_0 (by omega))), (q_1), (by have := zl_m1; omega)⟩ hlocks dX11_load_25
  · have b108 := zi_ne b108 (rfl : x104.toInt = x104.toInt) (zl_0 : (0 : Int32).toInt = 0)
    refine lv_iload_n hx hb dX11_load_14 rfl (lv_at hl 2 rfl) ?_
    refine lv_iconst (v := 1) hx hb dX11_load_15 (by decide +kernel) ?_
    refine lv_bipush (v := 99) hx hb dX11_load_16 (by decide +kernel) ?_
    refine zq_pcalli (zq_rS (As := [.int p2, .int (1 : Int32), .int (99 : Int32)]) (rest := []) E hZ hM (c_X11_isWithin l X zk (zn) I L p2 (1 : Int32) (99 : Int32)) zmX11_75 zM_X11_isWithin (hro (0) 3 (by first | decide | omega) (by decide)) hl.1 rfl rfl (Nat.le_of_ble_eq_true rfl) dX11_load_18) hS (fun x110 H locs h109 hM hS => ?_)
    obtain ⟨p111, p112⟩ := h109
    have := zl_1
    have := zl_99
    refine lv_if_ne (tgt := 26) hx hb dX11_load_21 (by decide) (fun b113 => ?_) (fun b113 => ?_)
    · have b113 := zi_ne b113 (rfl : x110.toInt = x110.toInt) (zl_0 : (0 : Int32).toInt = 0)
      refine lv_aload_n hx hb dX11_load_26 rfl (lv_at hl 0 rfl) ?_
      refine zq_getr E hM k_h0 (zFX11_26 E hZ) ⟨by decide, by decide, by decide, rfl⟩ dX11_load_27 ?_
      have k114 : zq_k X (zq_r X h0 3) = 1 := zq_lk L.1 k_h0 rfl (by decide)
      refine zq_getr E hM k114 (zFX11_95 E hZ) ⟨by decide, by decide, by decide, rfl⟩ dX11_load_30 ?_
      have k115 : zq_k X (zq_r X (zq_r X h0 3) 0) = 8 := zq_lk L.1 k114 rfl (by decide)
      refine zq_getr E hM k115 (zFX11_134 E hZ) ⟨by decide, by decide, by decide, rfl⟩ dX11_load_33 ?_
      have k116 : zq_k X (zq_r X (zq_r X (zq_r X h0 3) 0) 9) = 32 := zq_lk L.1 k115 rfl (by decide)
      refine lv_iload_n hx hb dX11_load_36 rfl (lv_at hl 1 rfl) ?_
      refine zq_rald (n := 4) (t := 8) (j := (p1.toNatClampNeg)) E hZ hM k116 ⟨by decide, rfl⟩ ⟨rfl, by decide, by decide⟩ ⟨by omega, by omega⟩ rfl dX11_load_37 ?_
      have k117 : zq_k X (zq_r X (zq_r X (zq_r X (zq_r X h0 3) 0) 9) (p1.toNatClampNeg)) = 7 := zq_lay_a L.1 k116 (n := 4) (zq_inn (i := p1) (n := 4) ⟨by omega, by omega⟩) (by decide) (by decide)
      refine lv_iload_n hx hb dX11_load_38 rfl (lv_at hl 2 rfl) ?_
      refine lv_iload_n hx hb dX11_load_39 rfl (lv_at hl 3 rfl) ?_
      refine zq_pcalli (zq_rV (As := [.int p2, .int p3]) (rest := []) E hZ hM k117 (c_X7_firstLoad l X zk (zn) I L (zq_r X (zq_r X (zq_r X (zq_r X h0 3) 0) 9) (p1.toNatClampNeg)) k117 p2 p3 ⟨by omega, by omega⟩) zmX11_217 zM_X7_firstLoad (hro (2) 4 (by first | decide | omega) (by decide)) ⟨by decide, by decide⟩ rfl hl.1 rfl rfl (Nat.le_of_ble_eq_true rfl) dX11_load_40) hS (fun x119 H locs h118 hM hS => ?_)
      have p120 := h118
      refine W.eq (g2 := F0 m 43 ls [.int x119]) rfl ?_
      subst hQ
      exact zq_iret E hr hZ hM hS ⟨rfl, ((zI.mono q_0 (by omega))), (q_1), (by omega)⟩ hlocks dX11_load_43
    · have b113 := zi_eq b113 (rfl : x110.toInt = x110.toInt) (zl_0 : (0 : Int32).toInt = 0)
      refine lv_iconst (v := (-1)) hx hb dX11_load_24 (by decide +kernel) ?_
      subst hQ
      exact zq_iret E hr hZ hM hS ⟨rfl, ((zI.mono q_0 (by omega))), (q_1), (by have := zl_m1; omega)⟩ hlocks dX11_load_25
def zw_X11_send : List (Nat × Nat) := [(3, 3), (3, 4), (3, 5), (5, 0), (5, 1), (5, 2), (5, 3), (5, 4), (5, 5), (7, 0), (7, 1), (7, 2), (7, 3), (7, 4), (7, 5), (7, 6), (8, 0), (8, 1), (8, 2), (8, 3), (8, 4), (8, 5), (8, 6), (30, 999), (34, 999)]
set_option maxHeartbeats 8000000 in
set_option maxRecDepth 100000 in
theorem c_X11_send (l : Launch) (X : zq_X) (zk zn : Nat) (I : zq_M) (L : zq_L X) (ct : Nat) (h0 : Nat) (k_h0 : zq_k X h0 = 9) (p1 : Int32) (p2 : Int32) (p3 : Int32) (q_0 : zI X I ct) (q_1 : zS0 X I (zq_r X h0 4)) (q_2 : ct ≤ 600) : Met l yX11_send (zt_w yX11_send cX11_send 4 (some .int)) (zq_rm (7)) (va_Pc [.ref h0, .int p1, .int p2, .int p3] (zq_W X (zk, zn) I)) (va_Qi (fun (r : Int32) I2 => zq_fr (zf X zw_X11_send (fun _ => True)) I I2 ∧ (zI X I2 (ct + 1)) ∧ (zS0 X I2 (zq_r X h0 4))) (zq_E X (zk, zn)) (zq_A X)) 0 0 (zq_A X) := by
  refine Met.ofW (cc := cX11_send) (maxL := 4) (ret := (some .int)) (by decide) rfl ?_
  intro p e s m args below meth c s₁ B hml hv
  obtain ⟨hargs, hM, hZ⟩ := hv
  have hown : s.vm.findClass RX11 = some m.cls := findClass_of_methodNamed B.named
  have hts := atoms_spec (ws := zt_w yX11_send cX11_send 4 (some .int)) B.pre
  have E : CallFix p m c cX11_send 4 s args (Cond.code yX11_send cX11_send 4 (some .int) :: zt) RX11 := ⟨B.exec, B.bytes, hml, hown, hts⟩
  have hx := B.exec
  have hb := B.bytes
  have hr := B.returns
  have hlocks := B.notSynchronized
  clear B
  have hS : va_S (zq_A X) s.heap s.heap [] := va_S.rf
  have hR : zq_fr (zf X zw_X11_send (fun _ => True)) I I := zq_fr.rf
  have hl := lv_entry ([.ref h0, .int p1, .int p2, .int p3]) (n := 4) (by exact Nat.le_of_ble_eq_true rfl)
  have hg : entryFrame m args 4 = F0 m 0 ((lg_sl ([.ref h0, .int p1, .int p2, .int p3]) ++ List.replicate (4 - (lg_sl ([.ref h0, .int p1, .int p2, .int p3])).length) Slot.unset).toArray) [] := by rw [hargs]; exact lg_entry_eq m ([.ref h0, .int p1, .int p2, .int p3]) 4
  rw [hg]
  clear hg hargs
  generalize (lg_sl ([.ref h0, .int p1, .int p2, .int p3]) ++ List.replicate (4 - (lg_sl ([.ref h0, .int p1, .int p2, .int p3])).length) Slot.unset).toArray = ls at hl ⊢
  have hl : lv_has ls 4 [(0, .ref h0), (1, .int p1), (2, .int p2), (3, .int p3)] := by exact hl
  obtain ⟨R, hRm⟩ : ∃ R : Room, R = (headSpec (zt_w yX11_send cX11_send 4 (some .int)) (zq_rm (7))).room := ⟨_, rfl⟩
  rw [← hRm]
  have hro : ∀ d q : Nat, d + 1 ≤ 7 → q ≤ 45 → zq_rok d q R := fun d q h1 h2 => by rw [hRm]; exact zq_rokI h1 h2
  generalize hQ : MQ below _ args s 0 0 (zq_A X) = Q
  obtain ⟨H, hH⟩ : ∃ H, H = s.heap := ⟨_, rfl⟩
  obtain ⟨locs, hlo⟩ : ∃ x : List Loc, x = [] := ⟨_, rfl⟩
  rw [show W p l e R s m args below meth c s.heap [] 0 0 Q = W p l e R s m args below meth c H locs 0 0 Q by rw [hH, hlo]]
  have hM : zq_hm X (zk, zn) I H := by rw [hH]; exact hM
  have hS : va_S (zq_A X) s.heap H locs := by rw [hH, hlo]; exact hS
  clear hH hlo
  refine lv_aload_n hx hb dX11_send_0 rfl (lv_at hl 0 rfl) ?_
  refine zq_getr E hM k_h0 (zFX11_26 E hZ) ⟨by decide, by decide, by decide, rfl⟩ dX11_send_1 ?_
  have k101 : zq_k X (zq_r X h0 3) = 1 := zq_lk L.1 k_h0 rfl (by decide)
  refine zq_getr E hM k101 (zFX11_95 E hZ) ⟨by decide, by decide, by decide, rfl⟩ dX11_send_4 ?_
  have k102 : zq_k X (zq_r X (zq_r X h0 3) 0) = 8 := zq_lk L.1 k101 rfl (by decide)
  refine lv_iload_n hx hb dX11_send_7 rfl (lv_at hl 1 rfl) ?_
  refine zq_pcalli (zq_rV (As := [.int p1]) (rest := []) E hZ hM k102 (c_X10_isAtHome l X zk (zn) I L (zq_r X (zq_r X h0 3) 0) k102 p1) zmX11_220 zM_X10_isAtHome (hro (1) 2 (by first | decide | omega) (by decide)) ⟨by decide, by decide⟩ rfl hl.1 rfl rfl (Nat.le_of_ble_eq_true rfl) dX11_send_8) hS (fun x104 H locs h103 hM hS => ?_)
  obtain ⟨p105, p106⟩ := h103
  refine lv_if_eq (tgt := 30) hx hb dX11_send_11 (by decide) (fun b107 => ?_) (fun b107 => ?_)
  · have b107 := zi_eq b107 (rfl : x104.toInt = x104.toInt) (zl_0 : (0 : Int32).toInt = 0)
    refine lv_bipush (v := (-2)) hx hb dX11_send_30 (by decide +kernel) ?_
    subst hQ
    exact zq_iret E hr hZ hM hS ⟨hR, ((zI.mono q_0 (by omega))), (q_1)⟩ hlocks dX11_send_32
  · have b107 := zi_ne b107 (rfl : x104.toInt = x104.toInt) (zl_0 : (0 : Int32).toInt = 0)
    refine lv_iload_n hx hb dX11_send_14 rfl (lv_at hl 2 rfl) ?_
    refine zq_pcalli (zq_rS (As := [.int p2]) (rest := []) E hZ hM (c_X2_isSpan l X zk (zn) I L p2) zmX11_223 zM_X2_isSpan (hro (1) 1 (by first | decide | omega) (by decide)) hl.1 rfl rfl (Nat.le_of_ble_eq_true rfl) dX11_send_15) hS (fun x109 H locs h108 hM hS => ?_)
    obtain ⟨p110, p111⟩ := h108
    refine lv_if_eq (tgt := 30) hx hb dX11_send_18 (by decide) (fun b112 => ?_) (fun b112 => ?_)
    · have b112 := zi_eq b112 (rfl : x109.toInt = x109.toInt) (zl_0 : (0 : Int32).toInt = 0)
      refine lv_bipush (v := (-2)) hx hb dX11_send_30 (by decide +kernel) ?_
      subst hQ
      exact zq_iret E hr hZ hM hS ⟨hR, ((zI.mono q_0 (by omega))), (q_1)⟩ hlocks dX11_send_32
    · have b112 := zi_ne b112 (rfl : x109.toInt = x109.toInt) (zl_0 : (0 : Int32).toInt = 0)
      refine lv_iload_n hx hb dX11_send_21 rfl (lv_at hl 3 rfl) ?_
      refine lv_iconst (v := 0) hx hb dX11_send_22 (by decide +kernel) ?_
      refine lv_iconst (v := 3) hx hb dX11_send_23 (by decide +kernel) ?_
      refine zq_pcalli (zq_rS (As := [.int p3, .int (0 : Int32), .int (3 : Int32)]) (rest := []) E hZ hM (c_X11_isWithin l X zk (zn) I L p3 (0 : Int32) (3 : Int32)) zmX11_75 zM_X11_isWithin (hro (0) 3 (by first | decide | omega) (by decide)) hl.1 rfl rfl (Nat.le_of_ble_eq_true rfl) dX11_send_24) hS (fun x114 H locs h113 hM hS => ?_)
      obtain ⟨p115, p116⟩ := h113
      have := zl_0
      have := zl_3
      refine lv_if_ne (tgt := 33) hx hb dX11_send_27 (by decide) (fun b117 => ?_) (fun b117 => ?_)
      · have b117 := zi_ne b117 (rfl : x114.toInt = x114.toInt) (zl_0 : (0 : Int32).toInt = 0)
        refine lv_aload_n hx hb dX11_send_33 rfl (lv_at hl 0 rfl) ?_
        refine zq_getr E hM k_h0 (zFX11_52 E hZ) ⟨by decide, by decide, by decide, rfl⟩ dX11_send_34 ?_
        have k118 : zq_k X (zq_r X h0 10) = 3 := zq_lk L.1 k_h0 rfl (by decide)
        refine lv_iconst (v := 1) hx hb dX11_send_37 (by decide +kernel) ?_
        refine lv_iload_n hx hb dX11_send_38 rfl (lv_at hl 1 rfl) ?_
        refine lv_iload_n hx hb dX11_send_39 rfl (lv_at hl 2 rfl) ?_
        refine zq_calli (zq_rV (As := [.int (1 : Int32), .int p1, .int p2]) (rest := []) E hZ hM k118 (c_X2_knows l X zk (zn) I L (zq_r X h0 10) k118 (1 : Int32) p1 p2 ⟨by omega, by omega⟩) zmX11_226 zM_X2_knows (hro (0) 5 (by first | decide | omega) (by decide)) ⟨by decide, by decide⟩ rfl hl.1 rfl rfl (Nat.le_of_ble_eq_true rfl) dX11_send_40) hS (fun x120 I121 H locs h119 hM hS => ?_)
        obtain ⟨fr122, p123⟩ := h119
        have := zl_1
        have hR := zq_fr.call hR fr122 (zf_sub (by decide +kernel) (fun _ _ _ => trivial))
        have hI124 := zI.frL q_0 L fr122 rfl rfl
        have hS0125 := zS0.fr q_1 L (zq_lk L.1 k_h0 rfl (by decide)) fr122 rfl
        have J65 : ∀ (I140 : zq_M) (H : Heap) (locs : List Loc) (ls : Array Slot), (zq_hm X (zk, zn) I140 H) → (va_S (zq_A X) s.heap H locs) → (zq_fr (zf X zw_X11_send (fun _ => True)) I I140) → (zI X I140 (ct)) → (zS0 X I140 (zq_r X h0 4)) → (lv_has ls 4 [(0, .ref h0), (1, .int p1), (2, .int p2), (3, .int p3)]) → W p l e R s m args below meth c H locs 0 0 Q (F0 m 65 ls []) := by
          intro I140 H locs ls hM hS hR F141 F142 hl
          refine lv_aload_n hx hb dX11_send_65 rfl (lv_at hl 0 rfl) ?_
          refine zq_getr E hM k_h0 (zFX11_52 E hZ) ⟨by decide, by decide, by decide, rfl⟩ dX11_send_66 ?_
          have k146 : zq_k X (zq_r X h0 10) = 3 := zq_lk L.1 k_h0 rfl (by decide)
          refine zq_getr E hM k146 (zFX11_233 E hZ) ⟨by decide, by decide, by decide, rfl⟩ dX11_send_69 ?_
          have k147 : zq_k X (zq_r X (zq_r X h0 10) 1) = 34 := zq_lk L.1 k146 rfl (by decide)
          refine lv_iload_n hx hb dX11_send_72 rfl (lv_at hl 3 rfl) ?_
          refine zq_ian (n := 4) (j := (p3.toNatClampNeg)) E hZ hM k147 ⟨by decide, rfl⟩ ⟨by omega, by omega⟩ rfl dX11_send_73 (fun x148 ex148 gx148 => ?_)
          clear gx148
          subst hQ
          exact zq_iret E hr hZ hM hS ⟨hR, ((zI.mono F141 (by omega))), (F142)⟩ hlocks dX11_send_74
        refine lv_if_ne (tgt := 65) hx hb dX11_send_43 (by decide) (fun b149 => ?_) (fun b149 => ?_)
        · have b149 := zi_ne b149 (rfl : x120.toInt = x120.toInt) (zl_0 : (0 : Int32).toInt = 0)
          exact J65 I121 H locs ls hM hS hR hI124 hS0125 (lv_sub hl [0, 1, 2, 3] rfl)
        · have b149 := zi_eq b149 (rfl : x120.toInt = x120.toInt) (zl_0 : (0 : Int32).toInt = 0)
          refine lv_aload_n hx hb dX11_send_46 rfl (lv_at hl 0 rfl) ?_
          refine zq_getr E hM k_h0 (zFX11_52 E hZ) ⟨by decide, by decide, by decide, rfl⟩ dX11_send_47 ?_
          have k150 : zq_k X (zq_r X h0 10) = 3 := zq_lk L.1 k_h0 rfl (by decide)
          refine lv_aload_n hx hb dX11_send_50 rfl (lv_at hl 0 rfl) ?_
          refine zq_getr E hM k_h0 (zFX11_26 E hZ) ⟨by decide, by decide, by decide, rfl⟩ dX11_send_51 ?_
          have k151 : zq_k X (zq_r X h0 3) = 1 := zq_lk L.1 k_h0 rfl (by decide)
          refine zq_getr E hM k151 (zFX11_95 E hZ) ⟨by decide, by decide, by decide, rfl⟩ dX11_send_54 ?_
          have k152 : zq_k X (zq_r X (zq_r X h0 3) 0) = 8 := zq_lk L.1 k151 rfl (by decide)
          refine lv_aload_n hx hb dX11_send_57 rfl (lv_at hl 0 rfl) ?_
          refine zq_call_o (aa := #[]) (zq_rV (As := []) (rest := [.ref (zq_r X (zq_r X h0 3) 0), .ref (zq_r X h0 10)]) E hZ hM k_h0 (c_X11_ruleInForce l X zk (zn) I121 L h0 k_h0) zmX11_151 zM_X11_ruleInForce (hro (1) 1 (by first | decide | omega) (by decide)) ⟨by decide, by decide⟩ rfl hl.1 rfl rfl (Nat.le_of_ble_eq_true rfl) dX11_send_58) hS (fun y154 I155 H locs h153 hqy154 hM hS => ?_)
          obtain ⟨fr156, p157⟩ := h153
          rw [fr156] at hM
          refine lv_iload_n hx hb dX11_send_61 rfl (lv_at hl 1 rfl) ?_
          refine zq_callv (zq_rV (As := [.ref (zq_r X (zq_r X h0 3) 0), va_rf y154, .int p1]) (rest := []) E hZ hM k150 (c_X2_findSend l X zk (zn) I121 L (297 * (((ct : Nat)) : Int)) (zq_r X h0 10) k150 (zq_r X (zq_r X h0 3) 0) k152 y154 hqy154 p1 ((hI124 _ k152 (by have h9 := (zq_now L k151 ((L.2.2.2.1 _ k_h0).1)); omega))) ((zq_now L k151 ((L.2.2.2.1 _ k_h0).1))) (by omega)) zmX11_229 zM_X2_findSend (hro (6) 8 (by first | decide | omega) (by decide)) ⟨by decide, by decide⟩ rfl hl.1 rfl rfl (Nat.le_of_ble_eq_true rfl) dX11_send_62) hS (fun I160 H locs h158 hM hS => ?_)
          have fr161 := h158
          have hR := zq_fr.call hR fr161 (zf_sub (by decide +kernel) (fun _ _ _ => trivial))
          have hI162 := zI.frP hI124 L fr161 (fun q hp => by omega)
          have hS0163 := zS0.frP hS0125 L (zq_lk L.1 k_h0 rfl (by decide)) fr161 (fun q hq => (fun hp => by have h1 := (hq.trans (L.2.2.2.1 _ k_h0).2.1); omega))
          exact J65 I160 H locs ls hM hS hR hI162 hS0163 (lv_sub hl [0, 1, 2, 3] rfl)
      · have b117 := zi_eq b117 (rfl : x114.toInt = x114.toInt) (zl_0 : (0 : Int32).toInt = 0)
        refine lv_bipush (v := (-2)) hx hb dX11_send_30 (by decide +kernel) ?_
        subst hQ
        exact zq_iret E hr hZ hM hS ⟨hR, ((zI.mono q_0 (by omega))), (q_1)⟩ hlocks dX11_send_32
def zw_X11_fleet : List (Nat × Nat) := [(3, 3), (3, 4), (3, 5), (5, 0), (5, 1), (5, 2), (5, 3), (5, 4), (5, 5), (7, 0), (7, 1), (7, 2), (7, 3), (7, 4), (7, 5), (7, 6), (8, 0), (8, 1), (8, 2), (8, 3), (8, 4), (8, 5), (8, 6), (30, 999), (34, 999), (35, 999)]
set_option maxHeartbeats 8000000 in
set_option maxRecDepth 100000 in
theorem c_X11_fleet (l : Launch) (X : zq_X) (zk zn : Nat) (I : zq_M) (L : zq_L X) (ct : Nat) (h0 : Nat) (k_h0 : zq_k X h0 = 9) (p1 : Int32) (p2 : Int32) (q_0 : zI X I ct) (q_1 : zS0 X I (zq_r X h0 4)) (q_2 : ct ≤ 600) : Met l yX11_fleet (zt_w yX11_fleet cX11_fleet 3 (some .int)) (zq_rm (7)) (va_Pc [.ref h0, .int p1, .int p2] (zq_W X (zk, zn) I)) (va_Qi (fun (r : Int32) I2 => zq_fr (zf X zw_X11_fleet (fun _ => True)) I I2 ∧ (zI X I2 (ct + 1)) ∧ (zS0 X I2 (zq_r X h0 4))) (zq_E X (zk, zn)) (zq_A X)) 0 0 (zq_A X) := by
  refine Met.ofW (cc := cX11_fleet) (maxL := 3) (ret := (some .int)) (by decide) rfl ?_
  intro p e s m args below meth c s₁ B hml hv
  obtain ⟨hargs, hM, hZ⟩ := hv
  have hown : s.vm.findClass RX11 = some m.cls := findClass_of_methodNamed B.named
  have hts := atoms_spec (ws := zt_w yX11_fleet cX11_fleet 3 (some .int)) B.pre
  have E : CallFix p m c cX11_fleet 3 s args (Cond.code yX11_fleet cX11_fleet 3 (some .int) :: zt) RX11 := ⟨B.exec, B.bytes, hml, hown, hts⟩
  have hx := B.exec
  have hb := B.bytes
  have hr := B.returns
  have hlocks := B.notSynchronized
  clear B
  have hS : va_S (zq_A X) s.heap s.heap [] := va_S.rf
  have hR : zq_fr (zf X zw_X11_fleet (fun _ => True)) I I := zq_fr.rf
  have hl := lv_entry ([.ref h0, .int p1, .int p2]) (n := 3) (by exact Nat.le_of_ble_eq_true rfl)
  have hg : entryFrame m args 3 = F0 m 0 ((lg_sl ([.ref h0, .int p1, .int p2]) ++ List.replicate (3 - (lg_sl ([.ref h0, .int p1, .int p2])).length) Slot.unset).toArray) [] := by rw [hargs]; exact lg_entry_eq m ([.ref h0, .int p1, .int p2]) 3
  rw [hg]
  clear hg hargs
  generalize (lg_sl ([.ref h0, .int p1, .int p2]) ++ List.replicate (3 - (lg_sl ([.ref h0, .int p1, .int p2])).length) Slot.unset).toArray = ls at hl ⊢
  have hl : lv_has ls 3 [(0, .ref h0), (1, .int p1), (2, .int p2)] := by exact hl
  obtain ⟨R, hRm⟩ : ∃ R : Room, R = (headSpec (zt_w yX11_fleet cX11_fleet 3 (some .int)) (zq_rm (7))).room := ⟨_, rfl⟩
  rw [← hRm]
  have hro : ∀ d q : Nat, d + 1 ≤ 7 → q ≤ 45 → zq_rok d q R := fun d q h1 h2 => by rw [hRm]; exact zq_rokI h1 h2
  generalize hQ : MQ below _ args s 0 0 (zq_A X) = Q
  obtain ⟨H, hH⟩ : ∃ H, H = s.heap := ⟨_, rfl⟩
  obtain ⟨locs, hlo⟩ : ∃ x : List Loc, x = [] := ⟨_, rfl⟩
  rw [show W p l e R s m args below meth c s.heap [] 0 0 Q = W p l e R s m args below meth c H locs 0 0 Q by rw [hH, hlo]]
  have hM : zq_hm X (zk, zn) I H := by rw [hH]; exact hM
  have hS : va_S (zq_A X) s.heap H locs := by rw [hH, hlo]; exact hS
  clear hH hlo
  refine lv_aload_n hx hb dX11_fleet_0 rfl (lv_at hl 0 rfl) ?_
  refine zq_getr E hM k_h0 (zFX11_26 E hZ) ⟨by decide, by decide, by decide, rfl⟩ dX11_fleet_1 ?_
  have k101 : zq_k X (zq_r X h0 3) = 1 := zq_lk L.1 k_h0 rfl (by decide)
  refine zq_getr E hM k101 (zFX11_95 E hZ) ⟨by decide, by decide, by decide, rfl⟩ dX11_fleet_4 ?_
  have k102 : zq_k X (zq_r X (zq_r X h0 3) 0) = 8 := zq_lk L.1 k101 rfl (by decide)
  refine zq_gn E hM k102 (zFX11_141 E hZ) (Or.inr ⟨by decide, by decide, by decide, rfl⟩) dX11_fleet_7 (fun x103 ex103 gx103 => ?_)
  replace gx103 : 0 ≤ x103.toInt ∧ x103.toInt ≤ 1 := gx103
  refine lv_if_eq (tgt := 29) hx hb dX11_fleet_10 (by decide) (fun b104 => ?_) (fun b104 => ?_)
  · have b104 := zi_eq b104 (rfl : x103.toInt = x103.toInt) (zl_0 : (0 : Int32).toInt = 0)
    refine lv_bipush (v := (-3)) hx hb dX11_fleet_29 (by decide +kernel) ?_
    subst hQ
    exact zq_iret E hr hZ hM hS ⟨hR, ((zI.mono q_0 (by omega))), (q_1)⟩ hlocks dX11_fleet_31
  · have b104 := zi_ne b104 (rfl : x103.toInt = x103.toInt) (zl_0 : (0 : Int32).toInt = 0)
    refine lv_iload_n hx hb dX11_fleet_13 rfl (lv_at hl 1 rfl) ?_
    refine zq_pcalli (zq_rS (As := [.int p1]) (rest := []) E hZ hM (c_X2_isSpan l X zk (zn) I L p1) zmX11_223 zM_X2_isSpan (hro (1) 1 (by first | decide | omega) (by decide)) hl.1 rfl rfl (Nat.le_of_ble_eq_true rfl) dX11_fleet_14) hS (fun x106 H locs h105 hM hS => ?_)
    obtain ⟨p107, p108⟩ := h105
    refine lv_if_eq (tgt := 29) hx hb dX11_fleet_17 (by decide) (fun b109 => ?_) (fun b109 => ?_)
    · have b109 := zi_eq b109 (rfl : x106.toInt = x106.toInt) (zl_0 : (0 : Int32).toInt = 0)
      refine lv_bipush (v := (-3)) hx hb dX11_fleet_29 (by decide +kernel) ?_
      subst hQ
      exact zq_iret E hr hZ hM hS ⟨hR, ((zI.mono q_0 (by omega))), (q_1)⟩ hlocks dX11_fleet_31
    · have b109 := zi_ne b109 (rfl : x106.toInt = x106.toInt) (zl_0 : (0 : Int32).toInt = 0)
      refine lv_iload_n hx hb dX11_fleet_20 rfl (lv_at hl 2 rfl) ?_
      refine lv_iconst (v := 0) hx hb dX11_fleet_21 (by decide +kernel) ?_
      refine lv_iconst (v := 3) hx hb dX11_fleet_22 (by decide +kernel) ?_
      refine zq_pcalli (zq_rS (As := [.int p2, .int (0 : Int32), .int (3 : Int32)]) (rest := []) E hZ hM (c_X11_isWithin l X zk (zn) I L p2 (0 : Int32) (3 : Int32)) zmX11_75 zM_X11_isWithin (hro (0) 3 (by first | decide | omega) (by decide)) hl.1 rfl rfl (Nat.le_of_ble_eq_true rfl) dX11_fleet_23) hS (fun x111 H locs h110 hM hS => ?_)
      obtain ⟨p112, p113⟩ := h110
      have := zl_0
      have := zl_3
      refine lv_if_ne (tgt := 32) hx hb dX11_fleet_26 (by decide) (fun b114 => ?_) (fun b114 => ?_)
      · have b114 := zi_ne b114 (rfl : x111.toInt = x111.toInt) (zl_0 : (0 : Int32).toInt = 0)
        refine lv_iload_n hx hb dX11_fleet_32 rfl (lv_at hl 2 rfl) ?_
        have J55 : ∀ (H : Heap) (locs : List Loc) (ls : Array Slot), (zq_hm X (zk, zn) I H) → (va_S (zq_A X) s.heap H locs) → (lv_has ls 3 [(0, .ref h0), (1, .int p1), (2, .int p2)]) → W p l e R s m args below meth c H locs 0 0 Q (F0 m 55 ls []) := by
          intro H locs ls hM hS hl
          refine lv_aload_n hx hb dX11_fleet_55 rfl (lv_at hl 0 rfl) ?_
          refine zq_getr E hM k_h0 (zFX11_52 E hZ) ⟨by decide, by decide, by decide, rfl⟩ dX11_fleet_56 ?_
          have k150 : zq_k X (zq_r X h0 10) = 3 := zq_lk L.1 k_h0 rfl (by decide)
          refine lv_iconst (v := 2) hx hb dX11_fleet_59 (by decide +kernel) ?_
          refine lv_iconst (v := (-1)) hx hb dX11_fleet_60 (by decide +kernel) ?_
          refine lv_iload_n hx hb dX11_fleet_61 rfl (lv_at hl 1 rfl) ?_
          refine zq_calli (zq_rV (As := [.int (2 : Int32), .int (-1 : Int32), .int p1]) (rest := []) E hZ hM k150 (c_X2_knows l X zk (zn) I L (zq_r X h0 10) k150 (2 : Int32) (-1 : Int32) p1 ⟨by omega, by omega⟩) zmX11_226 zM_X2_knows (hro (0) 5 (by first | decide | omega) (by decide)) ⟨by decide, by decide⟩ rfl hl.1 rfl rfl (Nat.le_of_ble_eq_true rfl) dX11_fleet_62) hS (fun x152 I153 H locs h151 hM hS => ?_)
          obtain ⟨fr154, p155⟩ := h151
          have := zl_m1
          have := zl_2
          have hR := zq_fr.call hR fr154 (zf_sub (by decide +kernel) (fun _ _ _ => trivial))
          have hI156 := zI.frL q_0 L fr154 rfl rfl
          have hS0157 := zS0.fr q_1 L (zq_lk L.1 k_h0 rfl (by decide)) fr154 rfl
          have J86 : ∀ (I172 : zq_M) (H : Heap) (locs : List Loc) (ls : Array Slot), (zq_hm X (zk, zn) I172 H) → (va_S (zq_A X) s.heap H locs) → (zq_fr (zf X zw_X11_fleet (fun _ => True)) I I172) → (zI X I172 (ct)) → (zS0 X I172 (zq_r X h0 4)) → (lv_has ls 3 [(0, .ref h0), (1, .int p1), (2, .int p2)]) → W p l e R s m args below meth c H locs 0 0 Q (F0 m 86 ls []) := by
            intro I172 H locs ls hM hS hR F173 F174 hl
            refine lv_aload_n hx hb dX11_fleet_86 rfl (lv_at hl 0 rfl) ?_
            refine zq_getr E hM k_h0 (zFX11_52 E hZ) ⟨by decide, by decide, by decide, rfl⟩ dX11_fleet_87 ?_
            have k178 : zq_k X (zq_r X h0 10) = 3 := zq_lk L.1 k_h0 rfl (by decide)
            refine zq_getr E hM k178 (zFX11_233 E hZ) ⟨by decide, by decide, by decide, rfl⟩ dX11_fleet_90 ?_
            have k179 : zq_k X (zq_r X (zq_r X h0 10) 1) = 34 := zq_lk L.1 k178 rfl (by decide)
            refine lv_iload_n hx hb dX11_fleet_93 rfl (lv_at hl 2 rfl) ?_
            refine zq_ian (n := 4) (j := (p2.toNatClampNeg)) E hZ hM k179 ⟨by decide, rfl⟩ ⟨by omega, by omega⟩ rfl dX11_fleet_94 (fun x180 ex180 gx180 => ?_)
            clear gx180
            subst hQ
            exact zq_iret E hr hZ hM hS ⟨hR, ((zI.mono F173 (by omega))), (F174)⟩ hlocks dX11_fleet_95
          refine lv_if_ne (tgt := 86) hx hb dX11_fleet_65 (by decide) (fun b181 => ?_) (fun b181 => ?_)
          · have b181 := zi_ne b181 (rfl : x152.toInt = x152.toInt) (zl_0 : (0 : Int32).toInt = 0)
            exact J86 I153 H locs ls hM hS hR hI156 hS0157 (lv_sub hl [0, 1, 2] rfl)
          · have b181 := zi_eq b181 (rfl : x152.toInt = x152.toInt) (zl_0 : (0 : Int32).toInt = 0)
            refine lv_aload_n hx hb dX11_fleet_68 rfl (lv_at hl 0 rfl) ?_
            refine zq_getr E hM k_h0 (zFX11_52 E hZ) ⟨by decide, by decide, by decide, rfl⟩ dX11_fleet_69 ?_
            have k182 : zq_k X (zq_r X h0 10) = 3 := zq_lk L.1 k_h0 rfl (by decide)
            refine lv_aload_n hx hb dX11_fleet_72 rfl (lv_at hl 0 rfl) ?_
            refine zq_getr E hM k_h0 (zFX11_26 E hZ) ⟨by decide, by decide, by decide, rfl⟩ dX11_fleet_73 ?_
            have k183 : zq_k X (zq_r X h0 3) = 1 := zq_lk L.1 k_h0 rfl (by decide)
            refine zq_getr E hM k183 (zFX11_95 E hZ) ⟨by decide, by decide, by decide, rfl⟩ dX11_fleet_76 ?_
            have k184 : zq_k X (zq_r X (zq_r X h0 3) 0) = 8 := zq_lk L.1 k183 rfl (by decide)
            refine lv_aload_n hx hb dX11_fleet_79 rfl (lv_at hl 0 rfl) ?_
            refine zq_call_o (aa := #[]) (zq_rV (As := []) (rest := [.ref (zq_r X (zq_r X h0 3) 0), .ref (zq_r X h0 10)]) E hZ hM k_h0 (c_X11_ruleInForce l X zk (zn) I153 L h0 k_h0) zmX11_151 zM_X11_ruleInForce (hro (1) 1 (by first | decide | omega) (by decide)) ⟨by decide, by decide⟩ rfl hl.1 rfl rfl (Nat.le_of_ble_eq_true rfl) dX11_fleet_80) hS (fun y186 I187 H locs h185 hqy186 hM hS => ?_)
            obtain ⟨fr188, p189⟩ := h185
            rw [fr188] at hM
            refine zq_callv (zq_rV (As := [.ref (zq_r X (zq_r X h0 3) 0), va_rf y186]) (rest := []) E hZ hM k182 (c_X2_findFleet l X zk (zn) I153 L (297 * (((ct : Nat)) : Int)) (zq_r X h0 10) k182 (zq_r X (zq_r X h0 3) 0) k184 y186 hqy186 ((hI156 _ k184 (by have h9 := (zq_now L k183 ((L.2.2.2.1 _ k_h0).1)); omega))) ((zq_now L k183 ((L.2.2.2.1 _ k_h0).1))) (by omega)) zmX11_237 zM_X2_findFleet (hro (6) 6 (by first | decide | omega) (by decide)) ⟨by decide, by decide⟩ rfl hl.1 rfl rfl (Nat.le_of_ble_eq_true rfl) dX11_fleet_83) hS (fun I192 H locs h190 hM hS => ?_)
            have fr193 := h190
            have hR := zq_fr.call hR fr193 (zf_sub (by decide +kernel) (fun _ _ _ => trivial))
            have hI194 := zI.frP hI156 L fr193 (fun q hp => by omega)
            have hS0195 := zS0.frP hS0157 L (zq_lk L.1 k_h0 rfl (by decide)) fr193 (fun q hq => (fun hp => by have h1 := (hq.trans (L.2.2.2.1 _ k_h0).2.1); omega))
            exact J86 I192 H locs ls hM hS hR hI194 hS0195 (lv_sub hl [0, 1, 2] rfl)
        refine lv_if_le (tgt := 55) hx hb dX11_fleet_33 (by decide) (fun b196 => ?_) (fun b196 => ?_)
        · have b196 := zi_le b196 (rfl : p2.toInt = p2.toInt) (zl_0 : (0 : Int32).toInt = 0)
          exact J55 H locs ls hM hS (lv_sub hl [0, 1, 2] rfl)
        · have b196 := zi_nle b196 (rfl : p2.toInt = p2.toInt) (zl_0 : (0 : Int32).toInt = 0)
          refine lv_aload_n hx hb dX11_fleet_36 rfl (lv_at hl 0 rfl) ?_
          refine zq_getr E hM k_h0 (zFX11_26 E hZ) ⟨by decide, by decide, by decide, rfl⟩ dX11_fleet_37 ?_
          have k197 : zq_k X (zq_r X h0 3) = 1 := zq_lk L.1 k_h0 rfl (by decide)
          refine zq_getr E hM k197 (zFX11_95 E hZ) ⟨by decide, by decide, by decide, rfl⟩ dX11_fleet_40 ?_
          have k198 : zq_k X (zq_r X (zq_r X h0 3) 0) = 8 := zq_lk L.1 k197 rfl (by decide)
          refine lv_iload_n hx hb dX11_fleet_43 rfl (lv_at hl 2 rfl) ?_
          refine lv_iconst (v := 1) hx hb dX11_fleet_44 (by decide +kernel) ?_
          refine lv_isub hx hb dX11_fleet_45 ?_
          refine lv_topi (fun x199 ex199 => ?_)
          have tx199 := zi_sub ex199 (rfl : p2.toInt = p2.toInt) (zl_1 : (1 : Int32).toInt = 1) ⟨by omega, by omega⟩
          refine zq_pcalli (zq_rV (As := [.int x199]) (rest := []) E hZ hM k198 (c_X10_isAtHome l X zk (zn) I L (zq_r X (zq_r X h0 3) 0) k198 x199) zmX11_220 zM_X10_isAtHome (hro (1) 2 (by first | decide | omega) (by decide)) ⟨by decide, by decide⟩ rfl hl.1 rfl rfl (Nat.le_of_ble_eq_true rfl) dX11_fleet_46) hS (fun x201 H locs h200 hM hS => ?_)
          obtain ⟨p202, p203⟩ := h200
          refine lv_if_ne (tgt := 55) hx hb dX11_fleet_49 (by decide) (fun b204 => ?_) (fun b204 => ?_)
          · have b204 := zi_ne b204 (rfl : x201.toInt = x201.toInt) (zl_0 : (0 : Int32).toInt = 0)
            exact J55 H locs ls hM hS (lv_sub hl [0, 1, 2] rfl)
          · have b204 := zi_eq b204 (rfl : x201.toInt = x201.toInt) (zl_0 : (0 : Int32).toInt = 0)
            refine lv_bipush (v := (-2)) hx hb dX11_fleet_52 (by decide +kernel) ?_
            subst hQ
            exact zq_iret E hr hZ hM hS ⟨hR, ((zI.mono q_0 (by omega))), (q_1)⟩ hlocks dX11_fleet_54
      · have b114 := zi_eq b114 (rfl : x111.toInt = x111.toInt) (zl_0 : (0 : Int32).toInt = 0)
        refine lv_bipush (v := (-3)) hx hb dX11_fleet_29 (by decide +kernel) ?_
        subst hQ
        exact zq_iret E hr hZ hM hS ⟨hR, ((zI.mono q_0 (by omega))), (q_1)⟩ hlocks dX11_fleet_31
def zw_X11_give : List (Nat × Nat) := [(3, 3), (3, 4), (3, 5), (5, 0), (5, 1), (5, 2), (5, 3), (5, 4), (5, 5), (7, 0), (7, 1), (7, 2), (7, 3), (7, 4), (7, 5), (7, 6), (8, 0), (8, 1), (8, 2), (8, 3), (8, 4), (8, 5), (8, 6), (30, 999), (34, 999)]
set_option maxHeartbeats 8000000 in
set_option maxRecDepth 100000 in
theorem c_X11_give (l : Launch) (X : zq_X) (zk zn : Nat) (I : zq_M) (L : zq_L X) (ct : Nat) (h0 : Nat) (k_h0 : zq_k X h0 = 9) (p1 : Int32) (p2 : Int32) (p3 : Int32) (q_0 : zI X I ct) (q_1 : zS0 X I (zq_r X h0 4)) (q_2 : ct ≤ 600) : Met l yX11_give (zt_w yX11_give cX11_give 4 (some .int)) (zq_rm (7)) (va_Pc [.ref h0, .int p1, .int p2, .int p3] (zq_W X (zk, zn) I)) (va_Qi (fun (r : Int32) I2 => zq_fr (zf X zw_X11_give (fun _ => True)) I I2 ∧ (zI X I2 (ct + 1)) ∧ (zS0 X I2 (zq_r X h0 4))) (zq_E X (zk, zn)) (zq_A X)) 0 0 (zq_A X) := by
  refine Met.ofW (cc := cX11_give) (maxL := 4) (ret := (some .int)) (by decide) rfl ?_
  intro p e s m args below meth c s₁ B hml hv
  obtain ⟨hargs, hM, hZ⟩ := hv
  have hown : s.vm.findClass RX11 = some m.cls := findClass_of_methodNamed B.named
  have hts := atoms_spec (ws := zt_w yX11_give cX11_give 4 (some .int)) B.pre
  have E : CallFix p m c cX11_give 4 s args (Cond.code yX11_give cX11_give 4 (some .int) :: zt) RX11 := ⟨B.exec, B.bytes, hml, hown, hts⟩
  have hx := B.exec
  have hb := B.bytes
  have hr := B.returns
  have hlocks := B.notSynchronized
  clear B
  have hS : va_S (zq_A X) s.heap s.heap [] := va_S.rf
  have hR : zq_fr (zf X zw_X11_give (fun _ => True)) I I := zq_fr.rf
  have hl := lv_entry ([.ref h0, .int p1, .int p2, .int p3]) (n := 4) (by exact Nat.le_of_ble_eq_true rfl)
  have hg : entryFrame m args 4 = F0 m 0 ((lg_sl ([.ref h0, .int p1, .int p2, .int p3]) ++ List.replicate (4 - (lg_sl ([.ref h0, .int p1, .int p2, .int p3])).length) Slot.unset).toArray) [] := by rw [hargs]; exact lg_entry_eq m ([.ref h0, .int p1, .int p2, .int p3]) 4
  rw [hg]
  clear hg hargs
  generalize (lg_sl ([.ref h0, .int p1, .int p2, .int p3]) ++ List.replicate (4 - (lg_sl ([.ref h0, .int p1, .int p2, .int p3])).length) Slot.unset).toArray = ls at hl ⊢
  have hl : lv_has ls 4 [(0, .ref h0), (1, .int p1), (2, .int p2), (3, .int p3)] := by exact hl
  obtain ⟨R, hRm⟩ : ∃ R : Room, R = (headSpec (zt_w yX11_give cX11_give 4 (some .int)) (zq_rm (7))).room := ⟨_, rfl⟩
  rw [← hRm]
  have hro : ∀ d q : Nat, d + 1 ≤ 7 → q ≤ 45 → zq_rok d q R := fun d q h1 h2 => by rw [hRm]; exact zq_rokI h1 h2
  generalize hQ : MQ below _ args s 0 0 (zq_A X) = Q
  obtain ⟨H, hH⟩ : ∃ H, H = s.heap := ⟨_, rfl⟩
  obtain ⟨locs, hlo⟩ : ∃ x : List Loc, x = [] := ⟨_, rfl⟩
  rw [show W p l e R s m args below meth c s.heap [] 0 0 Q = W p l e R s m args below meth c H locs 0 0 Q by rw [hH, hlo]]
  have hM : zq_hm X (zk, zn) I H := by rw [hH]; exact hM
  have hS : va_S (zq_A X) s.heap H locs := by rw [hH, hlo]; exact hS
  clear hH hlo
  refine lv_aload_n hx hb dX11_give_0 rfl (lv_at hl 0 rfl) ?_
  refine zq_getr E hM k_h0 (zFX11_26 E hZ) ⟨by decide, by decide, by decide, rfl⟩ dX11_give_1 ?_
  have k101 : zq_k X (zq_r X h0 3) = 1 := zq_lk L.1 k_h0 rfl (by decide)
  refine zq_getr E hM k101 (zFX11_95 E hZ) ⟨by decide, by decide, by decide, rfl⟩ dX11_give_4 ?_
  have k102 : zq_k X (zq_r X (zq_r X h0 3) 0) = 8 := zq_lk L.1 k101 rfl (by decide)
  refine lv_iload_n hx hb dX11_give_7 rfl (lv_at hl 1 rfl) ?_
  refine zq_pcalli (zq_rV (As := [.int p1]) (rest := []) E hZ hM k102 (c_X10_hasTown l X zk (zn) I L (zq_r X (zq_r X h0 3) 0) k102 p1) zmX11_128 zM_X10_hasTown (hro (0) 2 (by first | decide | omega) (by decide)) ⟨by decide, by decide⟩ rfl hl.1 rfl rfl (Nat.le_of_ble_eq_true rfl) dX11_give_8) hS (fun x104 H locs h103 hM hS => ?_)
  obtain ⟨p105, p106, p107⟩ := h103
  refine lv_if_eq (tgt := 30) hx hb dX11_give_11 (by decide) (fun b108 => ?_) (fun b108 => ?_)
  · have b108 := zi_eq b108 (rfl : x104.toInt = x104.toInt) (zl_0 : (0 : Int32).toInt = 0)
    refine lv_iconst (v := (-1)) hx hb dX11_give_30 (by decide +kernel) ?_
    subst hQ
    exact zq_iret E hr hZ hM hS ⟨hR, ((zI.mono q_0 (by omega))), (q_1)⟩ hlocks dX11_give_31
  · have b108 := zi_ne b108 (rfl : x104.toInt = x104.toInt) (zl_0 : (0 : Int32).toInt = 0)
    refine lv_iload_n hx hb dX11_give_14 rfl (lv_at hl 2 rfl) ?_
    refine zq_pcalli (zq_rS (As := [.int p2]) (rest := []) E hZ hM (c_X2_isSpan l X zk (zn) I L p2) zmX11_223 zM_X2_isSpan (hro (1) 1 (by first | decide | omega) (by decide)) hl.1 rfl rfl (Nat.le_of_ble_eq_true rfl) dX11_give_15) hS (fun x110 H locs h109 hM hS => ?_)
    obtain ⟨p111, p112⟩ := h109
    refine lv_if_eq (tgt := 30) hx hb dX11_give_18 (by decide) (fun b113 => ?_) (fun b113 => ?_)
    · have b113 := zi_eq b113 (rfl : x110.toInt = x110.toInt) (zl_0 : (0 : Int32).toInt = 0)
      refine lv_iconst (v := (-1)) hx hb dX11_give_30 (by decide +kernel) ?_
      subst hQ
      exact zq_iret E hr hZ hM hS ⟨hR, ((zI.mono q_0 (by omega))), (q_1)⟩ hlocks dX11_give_31
    · have b113 := zi_ne b113 (rfl : x110.toInt = x110.toInt) (zl_0 : (0 : Int32).toInt = 0)
      refine lv_iload_n hx hb dX11_give_21 rfl (lv_at hl 3 rfl) ?_
      refine lv_iconst (v := 0) hx hb dX11_give_22 (by decide +kernel) ?_
      refine lv_iconst (v := 1) hx hb dX11_give_23 (by decide +kernel) ?_
      refine zq_pcalli (zq_rS (As := [.int p3, .int (0 : Int32), .int (1 : Int32)]) (rest := []) E hZ hM (c_X11_isWithin l X zk (zn) I L p3 (0 : Int32) (1 : Int32)) zmX11_75 zM_X11_isWithin (hro (0) 3 (by first | decide | omega) (by decide)) hl.1 rfl rfl (Nat.le_of_ble_eq_true rfl) dX11_give_24) hS (fun x115 H locs h114 hM hS => ?_)
      obtain ⟨p116, p117⟩ := h114
      have := zl_0
      have := zl_1
      refine lv_if_ne (tgt := 32) hx hb dX11_give_27 (by decide) (fun b118 => ?_) (fun b118 => ?_)
      · have b118 := zi_ne b118 (rfl : x115.toInt = x115.toInt) (zl_0 : (0 : Int32).toInt = 0)
        refine lv_aload_n hx hb dX11_give_32 rfl (lv_at hl 0 rfl) ?_
        refine zq_getr E hM k_h0 (zFX11_52 E hZ) ⟨by decide, by decide, by decide, rfl⟩ dX11_give_33 ?_
        have k119 : zq_k X (zq_r X h0 10) = 3 := zq_lk L.1 k_h0 rfl (by decide)
        refine lv_iconst (v := 3) hx hb dX11_give_36 (by decide +kernel) ?_
        refine lv_iload_n hx hb dX11_give_37 rfl (lv_at hl 1 rfl) ?_
        refine lv_iload_n hx hb dX11_give_38 rfl (lv_at hl 2 rfl) ?_
        refine zq_calli (zq_rV (As := [.int (3 : Int32), .int p1, .int p2]) (rest := []) E hZ hM k119 (c_X2_knows l X zk (zn) I L (zq_r X h0 10) k119 (3 : Int32) p1 p2 ⟨by omega, by omega⟩) zmX11_226 zM_X2_knows (hro (0) 5 (by first | decide | omega) (by decide)) ⟨by decide, by decide⟩ rfl hl.1 rfl rfl (Nat.le_of_ble_eq_true rfl) dX11_give_39) hS (fun x121 I122 H locs h120 hM hS => ?_)
        obtain ⟨fr123, p124⟩ := h120
        have := zl_3
        have hR := zq_fr.call hR fr123 (zf_sub (by decide +kernel) (fun _ _ _ => trivial))
        have hI125 := zI.frL q_0 L fr123 rfl rfl
        have hS0126 := zS0.fr q_1 L (zq_lk L.1 k_h0 rfl (by decide)) fr123 rfl
        have J64 : ∀ (I141 : zq_M) (H : Heap) (locs : List Loc) (ls : Array Slot), (zq_hm X (zk, zn) I141 H) → (va_S (zq_A X) s.heap H locs) → (zq_fr (zf X zw_X11_give (fun _ => True)) I I141) → (zI X I141 (ct)) → (zS0 X I141 (zq_r X h0 4)) → (lv_has ls 4 [(0, .ref h0), (1, .int p1), (2, .int p2), (3, .int p3)]) → W p l e R s m args below meth c H locs 0 0 Q (F0 m 64 ls []) := by
          intro I141 H locs ls hM hS hR F142 F143 hl
          refine lv_aload_n hx hb dX11_give_64 rfl (lv_at hl 0 rfl) ?_
          refine zq_getr E hM k_h0 (zFX11_52 E hZ) ⟨by decide, by decide, by decide, rfl⟩ dX11_give_65 ?_
          have k147 : zq_k X (zq_r X h0 10) = 3 := zq_lk L.1 k_h0 rfl (by decide)
          refine zq_getr E hM k147 (zFX11_233 E hZ) ⟨by decide, by decide, by decide, rfl⟩ dX11_give_68 ?_
          have k148 : zq_k X (zq_r X (zq_r X h0 10) 1) = 34 := zq_lk L.1 k147 rfl (by decide)
          refine lv_iload_n hx hb dX11_give_71 rfl (lv_at hl 3 rfl) ?_
          refine zq_ian (n := 4) (j := (p3.toNatClampNeg)) E hZ hM k148 ⟨by decide, rfl⟩ ⟨by omega, by omega⟩ rfl dX11_give_72 (fun x149 ex149 gx149 => ?_)
          clear gx149
          subst hQ
          exact zq_iret E hr hZ hM hS ⟨hR, ((zI.mono F142 (by omega))), (F143)⟩ hlocks dX11_give_73
        refine lv_if_ne (tgt := 64) hx hb dX11_give_42 (by decide) (fun b150 => ?_) (fun b150 => ?_)
        · have b150 := zi_ne b150 (rfl : x121.toInt = x121.toInt) (zl_0 : (0 : Int32).toInt = 0)
          exact J64 I122 H locs ls hM hS hR hI125 hS0126 (lv_sub hl [0, 1, 2, 3] rfl)
        · have b150 := zi_eq b150 (rfl : x121.toInt = x121.toInt) (zl_0 : (0 : Int32).toInt = 0)
          refine lv_aload_n hx hb dX11_give_45 rfl (lv_at hl 0 rfl) ?_
          refine zq_getr E hM k_h0 (zFX11_52 E hZ) ⟨by decide, by decide, by decide, rfl⟩ dX11_give_46 ?_
          have k151 : zq_k X (zq_r X h0 10) = 3 := zq_lk L.1 k_h0 rfl (by decide)
          refine lv_aload_n hx hb dX11_give_49 rfl (lv_at hl 0 rfl) ?_
          refine zq_getr E hM k_h0 (zFX11_26 E hZ) ⟨by decide, by decide, by decide, rfl⟩ dX11_give_50 ?_
          have k152 : zq_k X (zq_r X h0 3) = 1 := zq_lk L.1 k_h0 rfl (by decide)
          refine zq_getr E hM k152 (zFX11_95 E hZ) ⟨by decide, by decide, by decide, rfl⟩ dX11_give_53 ?_
          have k153 : zq_k X (zq_r X (zq_r X h0 3) 0) = 8 := zq_lk L.1 k152 rfl (by decide)
          refine lv_aload_n hx hb dX11_give_56 rfl (lv_at hl 0 rfl) ?_
          refine zq_call_o (aa := #[]) (zq_rV (As := []) (rest := [.ref (zq_r X (zq_r X h0 3) 0), .ref (zq_r X h0 10)]) E hZ hM k_h0 (c_X11_ruleInForce l X zk (zn) I122 L h0 k_h0) zmX11_151 zM_X11_ruleInForce (hro (1) 1 (by first | decide | omega) (by decide)) ⟨by decide, by decide⟩ rfl hl.1 rfl rfl (Nat.le_of_ble_eq_true rfl) dX11_give_57) hS (fun y155 I156 H locs h154 hqy155 hM hS => ?_)
          obtain ⟨fr157, p158⟩ := h154
          rw [fr157] at hM
          refine lv_iload_n hx hb dX11_give_60 rfl (lv_at hl 1 rfl) ?_
          refine zq_callv (zq_rV (As := [.ref (zq_r X (zq_r X h0 3) 0), va_rf y155, .int p1]) (rest := []) E hZ hM k151 (c_X2_findGift l X zk (zn) I122 L (297 * (((ct : Nat)) : Int)) (zq_r X h0 10) k151 (zq_r X (zq_r X h0 3) 0) k153 y155 hqy155 p1 ((hI125 _ k153 (by have h9 := (zq_now L k152 ((L.2.2.2.1 _ k_h0).1)); omega))) ((zq_now L k152 ((L.2.2.2.1 _ k_h0).1))) (by omega)) zmX11_241 zM_X2_findGift (hro (6) 5 (by first | decide | omega) (by decide)) ⟨by decide, by decide⟩ rfl hl.1 rfl rfl (Nat.le_of_ble_eq_true rfl) dX11_give_61) hS (fun I161 H locs h159 hM hS => ?_)
          have fr162 := h159
          have hR := zq_fr.call hR fr162 (zf_sub (by decide +kernel) (fun _ _ _ => trivial))
          have hI163 := zI.frP hI125 L fr162 (fun q hp => by omega)
          have hS0164 := zS0.frP hS0126 L (zq_lk L.1 k_h0 rfl (by decide)) fr162 (fun q hq => (fun hp => by have h1 := (hq.trans (L.2.2.2.1 _ k_h0).2.1); omega))
          exact J64 I161 H locs ls hM hS hR hI163 hS0164 (lv_sub hl [0, 1, 2, 3] rfl)
      · have b118 := zi_eq b118 (rfl : x115.toInt = x115.toInt) (zl_0 : (0 : Int32).toInt = 0)
        refine lv_iconst (v := (-1)) hx hb dX11_give_30 (by decide +kernel) ?_
        subst hQ
        exact zq_iret E hr hZ hM hS ⟨hR, ((zI.mono q_0 (by omega))), (q_1)⟩ hlocks dX11_give_31
def zw_X11_site : List (Nat × Nat) := [(3, 3), (3, 4), (3, 5), (5, 0), (5, 1), (5, 2), (5, 3), (5, 4), (5, 5), (7, 0), (7, 1), (7, 2), (7, 3), (7, 4), (7, 5), (7, 6), (8, 0), (8, 1), (8, 2), (8, 3), (8, 4), (8, 5), (8, 6), (30, 999), (34, 999)]
set_option maxHeartbeats 8000000 in
set_option maxRecDepth 100000 in
theorem c_X11_site (l : Launch) (X : zq_X) (zk zn : Nat) (I : zq_M) (L : zq_L X) (ct : Nat) (h0 : Nat) (k_h0 : zq_k X h0 = 9) (p1 : Int32) (p2 : Int32) (q_0 : zI X I ct) (q_1 : zS0 X I (zq_r X h0 4)) (q_2 : ct ≤ 600) : Met l yX11_site (zt_w yX11_site cX11_site 3 (some .int)) (zq_rm (7)) (va_Pc [.ref h0, .int p1, .int p2] (zq_W X (zk, zn) I)) (va_Qi (fun (r : Int32) I2 => zq_fr (zf X zw_X11_site (fun _ => True)) I I2 ∧ (zI X I2 (ct + 1)) ∧ (zS0 X I2 (zq_r X h0 4))) (zq_E X (zk, zn)) (zq_A X)) 0 0 (zq_A X) := by
  refine Met.ofW (cc := cX11_site) (maxL := 3) (ret := (some .int)) (by decide) rfl ?_
  intro p e s m args below meth c s₁ B hml hv
  obtain ⟨hargs, hM, hZ⟩ := hv
  have hown : s.vm.findClass RX11 = some m.cls := findClass_of_methodNamed B.named
  have hts := atoms_spec (ws := zt_w yX11_site cX11_site 3 (some .int)) B.pre
  have E : CallFix p m c cX11_site 3 s args (Cond.code yX11_site cX11_site 3 (some .int) :: zt) RX11 := ⟨B.exec, B.bytes, hml, hown, hts⟩
  have hx := B.exec
  have hb := B.bytes
  have hr := B.returns
  have hlocks := B.notSynchronized
  clear B
  have hS : va_S (zq_A X) s.heap s.heap [] := va_S.rf
  have hR : zq_fr (zf X zw_X11_site (fun _ => True)) I I := zq_fr.rf
  have hl := lv_entry ([.ref h0, .int p1, .int p2]) (n := 3) (by exact Nat.le_of_ble_eq_true rfl)
  have hg : entryFrame m args 3 = F0 m 0 ((lg_sl ([.ref h0, .int p1, .int p2]) ++ List.replicate (3 - (lg_sl ([.ref h0, .int p1, .int p2])).length) Slot.unset).toArray) [] := by rw [hargs]; exact lg_entry_eq m ([.ref h0, .int p1, .int p2]) 3
  rw [hg]
  clear hg hargs
  generalize (lg_sl ([.ref h0, .int p1, .int p2]) ++ List.replicate (3 - (lg_sl ([.ref h0, .int p1, .int p2])).length) Slot.unset).toArray = ls at hl ⊢
  have hl : lv_has ls 3 [(0, .ref h0), (1, .int p1), (2, .int p2)] := by exact hl
  obtain ⟨R, hRm⟩ : ∃ R : Room, R = (headSpec (zt_w yX11_site cX11_site 3 (some .int)) (zq_rm (7))).room := ⟨_, rfl⟩
  rw [← hRm]
  have hro : ∀ d q : Nat, d + 1 ≤ 7 → q ≤ 45 → zq_rok d q R := fun d q h1 h2 => by rw [hRm]; exact zq_rokI h1 h2
  generalize hQ : MQ below _ args s 0 0 (zq_A X) = Q
  obtain ⟨H, hH⟩ : ∃ H, H = s.heap := ⟨_, rfl⟩
  obtain ⟨locs, hlo⟩ : ∃ x : List Loc, x = [] := ⟨_, rfl⟩
  rw [show W p l e R s m args below meth c s.heap [] 0 0 Q = W p l e R s m args below meth c H locs 0 0 Q by rw [hH, hlo]]
  have hM : zq_hm X (zk, zn) I H := by rw [hH]; exact hM
  have hS : va_S (zq_A X) s.heap H locs := by rw [hH, hlo]; exact hS
  clear hH hlo
  refine lv_aload_n hx hb dX11_site_0 rfl (lv_at hl 0 rfl) ?_
  refine zq_getr E hM k_h0 (zFX11_26 E hZ) ⟨by decide, by decide, by decide, rfl⟩ dX11_site_1 ?_
  have k101 : zq_k X (zq_r X h0 3) = 1 := zq_lk L.1 k_h0 rfl (by decide)
  refine zq_getr E hM k101 (zFX11_95 E hZ) ⟨by decide, by decide, by decide, rfl⟩ dX11_site_4 ?_
  have k102 : zq_k X (zq_r X (zq_r X h0 3) 0) = 8 := zq_lk L.1 k101 rfl (by decide)
  refine zq_gn E hM k102 (zFX11_141 E hZ) (Or.inr ⟨by decide, by decide, by decide, rfl⟩) dX11_site_7 (fun x103 ex103 gx103 => ?_)
  replace gx103 : 0 ≤ x103.toInt ∧ x103.toInt ≤ 1 := gx103
  refine lv_if_eq (tgt := 29) hx hb dX11_site_10 (by decide) (fun b104 => ?_) (fun b104 => ?_)
  · have b104 := zi_eq b104 (rfl : x103.toInt = x103.toInt) (zl_0 : (0 : Int32).toInt = 0)
    refine lv_bipush (v := (-2)) hx hb dX11_site_29 (by decide +kernel) ?_
    subst hQ
    exact zq_iret E hr hZ hM hS ⟨hR, ((zI.mono q_0 (by omega))), (q_1)⟩ hlocks dX11_site_31
  · have b104 := zi_ne b104 (rfl : x103.toInt = x103.toInt) (zl_0 : (0 : Int32).toInt = 0)
    refine lv_iload_n hx hb dX11_site_13 rfl (lv_at hl 1 rfl) ?_
    refine zq_pcalli (zq_rS (As := [.int p1]) (rest := []) E hZ hM (c_X2_isSpan l X zk (zn) I L p1) zmX11_223 zM_X2_isSpan (hro (1) 1 (by first | decide | omega) (by decide)) hl.1 rfl rfl (Nat.le_of_ble_eq_true rfl) dX11_site_14) hS (fun x106 H locs h105 hM hS => ?_)
    obtain ⟨p107, p108⟩ := h105
    refine lv_if_eq (tgt := 29) hx hb dX11_site_17 (by decide) (fun b109 => ?_) (fun b109 => ?_)
    · have b109 := zi_eq b109 (rfl : x106.toInt = x106.toInt) (zl_0 : (0 : Int32).toInt = 0)
      refine lv_bipush (v := (-2)) hx hb dX11_site_29 (by decide +kernel) ?_
      subst hQ
      exact zq_iret E hr hZ hM hS ⟨hR, ((zI.mono q_0 (by omega))), (q_1)⟩ hlocks dX11_site_31
    · have b109 := zi_ne b109 (rfl : x106.toInt = x106.toInt) (zl_0 : (0 : Int32).toInt = 0)
      refine lv_iload_n hx hb dX11_site_20 rfl (lv_at hl 2 rfl) ?_
      refine lv_iconst (v := 0) hx hb dX11_site_21 (by decide +kernel) ?_
      refine lv_iconst (v := 1) hx hb dX11_site_22 (by decide +kernel) ?_
      refine zq_pcalli (zq_rS (As := [.int p2, .int (0 : Int32), .int (1 : Int32)]) (rest := []) E hZ hM (c_X11_isWithin l X zk (zn) I L p2 (0 : Int32) (1 : Int32)) zmX11_75 zM_X11_isWithin (hro (0) 3 (by first | decide | omega) (by decide)) hl.1 rfl rfl (Nat.le_of_ble_eq_true rfl) dX11_site_23) hS (fun x111 H locs h110 hM hS => ?_)
      obtain ⟨p112, p113⟩ := h110
      have := zl_0
      have := zl_1
      refine lv_if_ne (tgt := 32) hx hb dX11_site_26 (by decide) (fun b114 => ?_) (fun b114 => ?_)
      · have b114 := zi_ne b114 (rfl : x111.toInt = x111.toInt) (zl_0 : (0 : Int32).toInt = 0)
        refine lv_aload_n hx hb dX11_site_32 rfl (lv_at hl 0 rfl) ?_
        refine zq_getr E hM k_h0 (zFX11_52 E hZ) ⟨by decide, by decide, by decide, rfl⟩ dX11_site_33 ?_
        have k115 : zq_k X (zq_r X h0 10) = 3 := zq_lk L.1 k_h0 rfl (by decide)
        refine lv_iconst (v := 4) hx hb dX11_site_36 (by decide +kernel) ?_
        refine lv_iconst (v := (-1)) hx hb dX11_site_37 (by decide +kernel) ?_
        refine lv_iload_n hx hb dX11_site_38 rfl (lv_at hl 1 rfl) ?_
        refine zq_calli (zq_rV (As := [.int (4 : Int32), .int (-1 : Int32), .int p1]) (rest := []) E hZ hM k115 (c_X2_knows l X zk (zn) I L (zq_r X h0 10) k115 (4 : Int32) (-1 : Int32) p1 ⟨by omega, by omega⟩) zmX11_226 zM_X2_knows (hro (0) 5 (by first | decide | omega) (by decide)) ⟨by decide, by decide⟩ rfl hl.1 rfl rfl (Nat.le_of_ble_eq_true rfl) dX11_site_39) hS (fun x117 I118 H locs h116 hM hS => ?_)
        obtain ⟨fr119, p120⟩ := h116
        have := zl_m1
        have := zl_4
        have hR := zq_fr.call hR fr119 (zf_sub (by decide +kernel) (fun _ _ _ => trivial))
        have hI121 := zI.frL q_0 L fr119 rfl rfl
        have hS0122 := zS0.fr q_1 L (zq_lk L.1 k_h0 rfl (by decide)) fr119 rfl
        have J63 : ∀ (I137 : zq_M) (H : Heap) (locs : List Loc) (ls : Array Slot), (zq_hm X (zk, zn) I137 H) → (va_S (zq_A X) s.heap H locs) → (zq_fr (zf X zw_X11_site (fun _ => True)) I I137) → (zI X I137 (ct)) → (zS0 X I137 (zq_r X h0 4)) → (lv_has ls 3 [(0, .ref h0), (1, .int p1), (2, .int p2)]) → W p l e R s m args below meth c H locs 0 0 Q (F0 m 63 ls []) := by
          intro I137 H locs ls hM hS hR F138 F139 hl
          refine lv_aload_n hx hb dX11_site_63 rfl (lv_at hl 0 rfl) ?_
          refine zq_getr E hM k_h0 (zFX11_52 E hZ) ⟨by decide, by decide, by decide, rfl⟩ dX11_site_64 ?_
          have k143 : zq_k X (zq_r X h0 10) = 3 := zq_lk L.1 k_h0 rfl (by decide)
          refine zq_getr E hM k143 (zFX11_233 E hZ) ⟨by decide, by decide, by decide, rfl⟩ dX11_site_67 ?_
          have k144 : zq_k X (zq_r X (zq_r X h0 10) 1) = 34 := zq_lk L.1 k143 rfl (by decide)
          refine lv_iload_n hx hb dX11_site_70 rfl (lv_at hl 2 rfl) ?_
          refine zq_ian (n := 4) (j := (p2.toNatClampNeg)) E hZ hM k144 ⟨by decide, rfl⟩ ⟨by omega, by omega⟩ rfl dX11_site_71 (fun x145 ex145 gx145 => ?_)
          clear gx145
          subst hQ
          exact zq_iret E hr hZ hM hS ⟨hR, ((zI.mono F138 (by omega))), (F139)⟩ hlocks dX11_site_72
        refine lv_if_ne (tgt := 63) hx hb dX11_site_42 (by decide) (fun b146 => ?_) (fun b146 => ?_)
        · have b146 := zi_ne b146 (rfl : x117.toInt = x117.toInt) (zl_0 : (0 : Int32).toInt = 0)
          exact J63 I118 H locs ls hM hS hR hI121 hS0122 (lv_sub hl [0, 1, 2] rfl)
        · have b146 := zi_eq b146 (rfl : x117.toInt = x117.toInt) (zl_0 : (0 : Int32).toInt = 0)
          refine lv_aload_n hx hb dX11_site_45 rfl (lv_at hl 0 rfl) ?_
          refine zq_getr E hM k_h0 (zFX11_52 E hZ) ⟨by decide, by decide, by decide, rfl⟩ dX11_site_46 ?_
          have k147 : zq_k X (zq_r X h0 10) = 3 := zq_lk L.1 k_h0 rfl (by decide)
          refine lv_aload_n hx hb dX11_site_49 rfl (lv_at hl 0 rfl) ?_
          refine zq_getr E hM k_h0 (zFX11_26 E hZ) ⟨by decide, by decide, by decide, rfl⟩ dX11_site_50 ?_
          have k148 : zq_k X (zq_r X h0 3) = 1 := zq_lk L.1 k_h0 rfl (by decide)
          refine zq_getr E hM k148 (zFX11_95 E hZ) ⟨by decide, by decide, by decide, rfl⟩ dX11_site_53 ?_
          have k149 : zq_k X (zq_r X (zq_r X h0 3) 0) = 8 := zq_lk L.1 k148 rfl (by decide)
          refine lv_aload_n hx hb dX11_site_56 rfl (lv_at hl 0 rfl) ?_
          refine zq_call_o (aa := #[]) (zq_rV (As := []) (rest := [.ref (zq_r X (zq_r X h0 3) 0), .ref (zq_r X h0 10)]) E hZ hM k_h0 (c_X11_ruleInForce l X zk (zn) I118 L h0 k_h0) zmX11_151 zM_X11_ruleInForce (hro (1) 1 (by first | decide | omega) (by decide)) ⟨by decide, by decide⟩ rfl hl.1 rfl rfl (Nat.le_of_ble_eq_true rfl) dX11_site_57) hS (fun y151 I152 H locs h150 hqy151 hM hS => ?_)
          obtain ⟨fr153, p154⟩ := h150
          rw [fr153] at hM
          refine zq_callv (zq_rV (As := [.ref (zq_r X (zq_r X h0 3) 0), va_rf y151]) (rest := []) E hZ hM k147 (c_X2_findSite l X zk (zn) I118 L (297 * (((ct : Nat)) : Int)) (zq_r X h0 10) k147 (zq_r X (zq_r X h0 3) 0) k149 y151 hqy151 ((hI121 _ k149 (by have h9 := (zq_now L k148 ((L.2.2.2.1 _ k_h0).1)); omega))) ((zq_now L k148 ((L.2.2.2.1 _ k_h0).1))) (by omega)) zmX11_244 zM_X2_findSite (hro (6) 4 (by first | decide | omega) (by decide)) ⟨by decide, by decide⟩ rfl hl.1 rfl rfl (Nat.le_of_ble_eq_true rfl) dX11_site_60) hS (fun I157 H locs h155 hM hS => ?_)
          have fr158 := h155
          have hR := zq_fr.call hR fr158 (zf_sub (by decide +kernel) (fun _ _ _ => trivial))
          have hI159 := zI.frP hI121 L fr158 (fun q hp => by omega)
          have hS0160 := zS0.frP hS0122 L (zq_lk L.1 k_h0 rfl (by decide)) fr158 (fun q hq => (fun hp => by have h1 := (hq.trans (L.2.2.2.1 _ k_h0).2.1); omega))
          exact J63 I157 H locs ls hM hS hR hI159 hS0160 (lv_sub hl [0, 1, 2] rfl)
      · have b114 := zi_eq b114 (rfl : x111.toInt = x111.toInt) (zl_0 : (0 : Int32).toInt = 0)
        refine lv_bipush (v := (-2)) hx hb dX11_site_29 (by decide +kernel) ?_
        subst hQ
        exact zq_iret E hr hZ hM hS ⟨hR, ((zI.mono q_0 (by omega))), (q_1)⟩ hlocks dX11_site_31
def zw_X11_pricing : List (Nat × Nat) := [(3, 3), (3, 4), (3, 5), (5, 0), (5, 1), (5, 2), (5, 3), (5, 4), (5, 5), (7, 0), (7, 1), (7, 2), (7, 3), (7, 4), (7, 5), (7, 6), (8, 0), (8, 1), (8, 2), (8, 3), (8, 4), (8, 5), (8, 6), (30, 999), (34, 999)]
set_option maxHeartbeats 8000000 in
set_option maxRecDepth 100000 in
theorem c_X11_pricing (l : Launch) (X : zq_X) (zk zn : Nat) (I : zq_M) (L : zq_L X) (ct : Nat) (h0 : Nat) (k_h0 : zq_k X h0 = 9) (p1 : Int32) (p2 : Int32) (p3 : Int32) (q_0 : zI X I ct) (q_1 : zS0 X I (zq_r X h0 4)) (q_2 : ct ≤ 600) : Met l yX11_pricing (zt_w yX11_pricing cX11_pricing 4 (some .int)) (zq_rm (7)) (va_Pc [.ref h0, .int p1, .int p2, .int p3] (zq_W X (zk, zn) I)) (va_Qi (fun (r : Int32) I2 => zq_fr (zf X zw_X11_pricing (fun _ => True)) I I2 ∧ (zI X I2 (ct + 1)) ∧ (zS0 X I2 (zq_r X h0 4))) (zq_E X (zk, zn)) (zq_A X)) 0 0 (zq_A X) := by
  refine Met.ofW (cc := cX11_pricing) (maxL := 4) (ret := (some .int)) (by decide) rfl ?_
  intro p e s m args below meth c s₁ B hml hv
  obtain ⟨hargs, hM, hZ⟩ := hv
  have hown : s.vm.findClass RX11 = some m.cls := findClass_of_methodNamed B.named
  have hts := atoms_spec (ws := zt_w yX11_pricing cX11_pricing 4 (some .int)) B.pre
  have E : CallFix p m c cX11_pricing 4 s args (Cond.code yX11_pricing cX11_pricing 4 (some .int) :: zt) RX11 := ⟨B.exec, B.bytes, hml, hown, hts⟩
  have hx := B.exec
  have hb := B.bytes
  have hr := B.returns
  have hlocks := B.notSynchronized
  clear B
  have hS : va_S (zq_A X) s.heap s.heap [] := va_S.rf
  have hR : zq_fr (zf X zw_X11_pricing (fun _ => True)) I I := zq_fr.rf
  have hl := lv_entry ([.ref h0, .int p1, .int p2, .int p3]) (n := 4) (by exact Nat.le_of_ble_eq_true rfl)
  have hg : entryFrame m args 4 = F0 m 0 ((lg_sl ([.ref h0, .int p1, .int p2, .int p3]) ++ List.replicate (4 - (lg_sl ([.ref h0, .int p1, .int p2, .int p3])).length) Slot.unset).toArray) [] := by rw [hargs]; exact lg_entry_eq m ([.ref h0, .int p1, .int p2, .int p3]) 4
  rw [hg]
  clear hg hargs
  generalize (lg_sl ([.ref h0, .int p1, .int p2, .int p3]) ++ List.replicate (4 - (lg_sl ([.ref h0, .int p1, .int p2, .int p3])).length) Slot.unset).toArray = ls at hl ⊢
  have hl : lv_has ls 4 [(0, .ref h0), (1, .int p1), (2, .int p2), (3, .int p3)] := by exact hl
  obtain ⟨R, hRm⟩ : ∃ R : Room, R = (headSpec (zt_w yX11_pricing cX11_pricing 4 (some .int)) (zq_rm (7))).room := ⟨_, rfl⟩
  rw [← hRm]
  have hro : ∀ d q : Nat, d + 1 ≤ 7 → q ≤ 45 → zq_rok d q R := fun d q h1 h2 => by rw [hRm]; exact zq_rokI h1 h2
  generalize hQ : MQ below _ args s 0 0 (zq_A X) = Q
  obtain ⟨H, hH⟩ : ∃ H, H = s.heap := ⟨_, rfl⟩
  obtain ⟨locs, hlo⟩ : ∃ x : List Loc, x = [] := ⟨_, rfl⟩
  rw [show W p l e R s m args below meth c s.heap [] 0 0 Q = W p l e R s m args below meth c H locs 0 0 Q by rw [hH, hlo]]
  have hM : zq_hm X (zk, zn) I H := by rw [hH]; exact hM
  have hS : va_S (zq_A X) s.heap H locs := by rw [hH, hlo]; exact hS
  clear hH hlo
  refine lv_aload_n hx hb dX11_pricing_0 rfl (lv_at hl 0 rfl) ?_
  refine zq_getr E hM k_h0 (zFX11_26 E hZ) ⟨by decide, by decide, by decide, rfl⟩ dX11_pricing_1 ?_
  have k101 : zq_k X (zq_r X h0 3) = 1 := zq_lk L.1 k_h0 rfl (by decide)
  refine zq_getr E hM k101 (zFX11_95 E hZ) ⟨by decide, by decide, by decide, rfl⟩ dX11_pricing_4 ?_
  have k102 : zq_k X (zq_r X (zq_r X h0 3) 0) = 8 := zq_lk L.1 k101 rfl (by decide)
  refine lv_iload_n hx hb dX11_pricing_7 rfl (lv_at hl 1 rfl) ?_
  refine zq_pcalli (zq_rV (As := [.int p1]) (rest := []) E hZ hM k102 (c_X10_hasTown l X zk (zn) I L (zq_r X (zq_r X h0 3) 0) k102 p1) zmX11_128 zM_X10_hasTown (hro (0) 2 (by first | decide | omega) (by decide)) ⟨by decide, by decide⟩ rfl hl.1 rfl rfl (Nat.le_of_ble_eq_true rfl) dX11_pricing_8) hS (fun x104 H locs h103 hM hS => ?_)
  obtain ⟨p105, p106, p107⟩ := h103
  refine lv_if_eq (tgt := 30) hx hb dX11_pricing_11 (by decide) (fun b108 => ?_) (fun b108 => ?_)
  · have b108 := zi_eq b108 (rfl : x104.toInt = x104.toInt) (zl_0 : (0 : Int32).toInt = 0)
    refine lv_iconst (v := (-1)) hx hb dX11_pricing_30 (by decide +kernel) ?_
    subst hQ
    exact zq_iret E hr hZ hM hS ⟨hR, ((zI.mono q_0 (by omega))), (q_1)⟩ hlocks dX11_pricing_31
  · have b108 := zi_ne b108 (rfl : x104.toInt = x104.toInt) (zl_0 : (0 : Int32).toInt = 0)
    refine lv_iload_n hx hb dX11_pricing_14 rfl (lv_at hl 2 rfl) ?_
    refine zq_pcalli (zq_rS (As := [.int p2]) (rest := []) E hZ hM (c_X2_isSpan l X zk (zn) I L p2) zmX11_223 zM_X2_isSpan (hro (1) 1 (by first | decide | omega) (by decide)) hl.1 rfl rfl (Nat.le_of_ble_eq_true rfl) dX11_pricing_15) hS (fun x110 H locs h109 hM hS => ?_)
    obtain ⟨p111, p112⟩ := h109
    refine lv_if_eq (tgt := 30) hx hb dX11_pricing_18 (by decide) (fun b113 => ?_) (fun b113 => ?_)
    · have b113 := zi_eq b113 (rfl : x110.toInt = x110.toInt) (zl_0 : (0 : Int32).toInt = 0)
      refine lv_iconst (v := (-1)) hx hb dX11_pricing_30 (by decide +kernel) ?_
      subst hQ
      exact zq_iret E hr hZ hM hS ⟨hR, ((zI.mono q_0 (by omega))), (q_1)⟩ hlocks dX11_pricing_31
    · have b113 := zi_ne b113 (rfl : x110.toInt = x110.toInt) (zl_0 : (0 : Int32).toInt = 0)
      refine lv_iload_n hx hb dX11_pricing_21 rfl (lv_at hl 3 rfl) ?_
      refine lv_iconst (v := 0) hx hb dX11_pricing_22 (by decide +kernel) ?_
      refine lv_iconst (v := 1) hx hb dX11_pricing_23 (by decide +kernel) ?_
      refine zq_pcalli (zq_rS (As := [.int p3, .int (0 : Int32), .int (1 : Int32)]) (rest := []) E hZ hM (c_X11_isWithin l X zk (zn) I L p3 (0 : Int32) (1 : Int32)) zmX11_75 zM_X11_isWithin (hro (0) 3 (by first | decide | omega) (by decide)) hl.1 rfl rfl (Nat.le_of_ble_eq_true rfl) dX11_pricing_24) hS (fun x115 H locs h114 hM hS => ?_)
      obtain ⟨p116, p117⟩ := h114
      have := zl_0
      have := zl_1
      refine lv_if_ne (tgt := 32) hx hb dX11_pricing_27 (by decide) (fun b118 => ?_) (fun b118 => ?_)
      · have b118 := zi_ne b118 (rfl : x115.toInt = x115.toInt) (zl_0 : (0 : Int32).toInt = 0)
        refine lv_aload_n hx hb dX11_pricing_32 rfl (lv_at hl 0 rfl) ?_
        refine zq_getr E hM k_h0 (zFX11_52 E hZ) ⟨by decide, by decide, by decide, rfl⟩ dX11_pricing_33 ?_
        have k119 : zq_k X (zq_r X h0 10) = 3 := zq_lk L.1 k_h0 rfl (by decide)
        refine lv_iconst (v := 5) hx hb dX11_pricing_36 (by decide +kernel) ?_
        refine lv_iload_n hx hb dX11_pricing_37 rfl (lv_at hl 1 rfl) ?_
        refine lv_iload_n hx hb dX11_pricing_38 rfl (lv_at hl 2 rfl) ?_
        refine zq_calli (zq_rV (As := [.int (5 : Int32), .int p1, .int p2]) (rest := []) E hZ hM k119 (c_X2_knows l X zk (zn) I L (zq_r X h0 10) k119 (5 : Int32) p1 p2 ⟨by omega, by omega⟩) zmX11_226 zM_X2_knows (hro (0) 5 (by first | decide | omega) (by decide)) ⟨by decide, by decide⟩ rfl hl.1 rfl rfl (Nat.le_of_ble_eq_true rfl) dX11_pricing_39) hS (fun x121 I122 H locs h120 hM hS => ?_)
        obtain ⟨fr123, p124⟩ := h120
        have := zl_5
        have hR := zq_fr.call hR fr123 (zf_sub (by decide +kernel) (fun _ _ _ => trivial))
        have hI125 := zI.frL q_0 L fr123 rfl rfl
        have hS0126 := zS0.fr q_1 L (zq_lk L.1 k_h0 rfl (by decide)) fr123 rfl
        have J64 : ∀ (I141 : zq_M) (H : Heap) (locs : List Loc) (ls : Array Slot), (zq_hm X (zk, zn) I141 H) → (va_S (zq_A X) s.heap H locs) → (zq_fr (zf X zw_X11_pricing (fun _ => True)) I I141) → (zI X I141 (ct)) → (zS0 X I141 (zq_r X h0 4)) → (lv_has ls 4 [(0, .ref h0), (1, .int p1), (2, .int p2), (3, .int p3)]) → W p l e R s m args below meth c H locs 0 0 Q (F0 m 64 ls []) := by
          intro I141 H locs ls hM hS hR F142 F143 hl
          refine lv_aload_n hx hb dX11_pricing_64 rfl (lv_at hl 0 rfl) ?_
          refine zq_getr E hM k_h0 (zFX11_52 E hZ) ⟨by decide, by decide, by decide, rfl⟩ dX11_pricing_65 ?_
          have k147 : zq_k X (zq_r X h0 10) = 3 := zq_lk L.1 k_h0 rfl (by decide)
          refine zq_getr E hM k147 (zFX11_233 E hZ) ⟨by decide, by decide, by decide, rfl⟩ dX11_pricing_68 ?_
          have k148 : zq_k X (zq_r X (zq_r X h0 10) 1) = 34 := zq_lk L.1 k147 rfl (by decide)
          refine lv_iload_n hx hb dX11_pricing_71 rfl (lv_at hl 3 rfl) ?_
          refine zq_ian (n := 4) (j := (p3.toNatClampNeg)) E hZ hM k148 ⟨by decide, rfl⟩ ⟨by omega, by omega⟩ rfl dX11_pricing_72 (fun x149 ex149 gx149 => ?_)
          clear gx149
          subst hQ
          exact zq_iret E hr hZ hM hS ⟨hR, ((zI.mono F142 (by omega))), (F143)⟩ hlocks dX11_pricing_73
        refine lv_if_ne (tgt := 64) hx hb dX11_pricing_42 (by decide) (fun b150 => ?_) (fun b150 => ?_)
        · have b150 := zi_ne b150 (rfl : x121.toInt = x121.toInt) (zl_0 : (0 : Int32).toInt = 0)
          exact J64 I122 H locs ls hM hS hR hI125 hS0126 (lv_sub hl [0, 1, 2, 3] rfl)
        · have b150 := zi_eq b150 (rfl : x121.toInt = x121.toInt) (zl_0 : (0 : Int32).toInt = 0)
          refine lv_aload_n hx hb dX11_pricing_45 rfl (lv_at hl 0 rfl) ?_
          refine zq_getr E hM k_h0 (zFX11_52 E hZ) ⟨by decide, by decide, by decide, rfl⟩ dX11_pricing_46 ?_
          have k151 : zq_k X (zq_r X h0 10) = 3 := zq_lk L.1 k_h0 rfl (by decide)
          refine lv_aload_n hx hb dX11_pricing_49 rfl (lv_at hl 0 rfl) ?_
          refine zq_getr E hM k_h0 (zFX11_26 E hZ) ⟨by decide, by decide, by decide, rfl⟩ dX11_pricing_50 ?_
          have k152 : zq_k X (zq_r X h0 3) = 1 := zq_lk L.1 k_h0 rfl (by decide)
          refine zq_getr E hM k152 (zFX11_95 E hZ) ⟨by decide, by decide, by decide, rfl⟩ dX11_pricing_53 ?_
          have k153 : zq_k X (zq_r X (zq_r X h0 3) 0) = 8 := zq_lk L.1 k152 rfl (by decide)
          refine lv_aload_n hx hb dX11_pricing_56 rfl (lv_at hl 0 rfl) ?_
          refine zq_call_o (aa := #[]) (zq_rV (As := []) (rest := [.ref (zq_r X (zq_r X h0 3) 0), .ref (zq_r X h0 10)]) E hZ hM k_h0 (c_X11_ruleInForce l X zk (zn) I122 L h0 k_h0) zmX11_151 zM_X11_ruleInForce (hro (1) 1 (by first | decide | omega) (by decide)) ⟨by decide, by decide⟩ rfl hl.1 rfl rfl (Nat.le_of_ble_eq_true rfl) dX11_pricing_57) hS (fun y155 I156 H locs h154 hqy155 hM hS => ?_)
          obtain ⟨fr157, p158⟩ := h154
          rw [fr157] at hM
          refine lv_iload_n hx hb dX11_pricing_60 rfl (lv_at hl 1 rfl) ?_
          refine zq_callv (zq_rV (As := [.ref (zq_r X (zq_r X h0 3) 0), va_rf y155, .int p1]) (rest := []) E hZ hM k151 (c_X2_findPrice l X zk (zn) I122 L (297 * (((ct : Nat)) : Int)) (zq_r X h0 10) k151 (zq_r X (zq_r X h0 3) 0) k153 y155 hqy155 p1 ((hI125 _ k153 (by have h9 := (zq_now L k152 ((L.2.2.2.1 _ k_h0).1)); omega))) ((zq_now L k152 ((L.2.2.2.1 _ k_h0).1))) (by omega)) zmX11_247 zM_X2_findPrice (hro (6) 5 (by first | decide | omega) (by decide)) ⟨by decide, by decide⟩ rfl hl.1 rfl rfl (Nat.le_of_ble_eq_true rfl) dX11_pricing_61) hS (fun I161 H locs h159 hM hS => ?_)
          have fr162 := h159
          have hR := zq_fr.call hR fr162 (zf_sub (by decide +kernel) (fun _ _ _ => trivial))
          have hI163 := zI.frP hI125 L fr162 (fun q hp => by omega)
          have hS0164 := zS0.frP hS0126 L (zq_lk L.1 k_h0 rfl (by decide)) fr162 (fun q hq => (fun hp => by have h1 := (hq.trans (L.2.2.2.1 _ k_h0).2.1); omega))
          exact J64 I161 H locs ls hM hS hR hI163 hS0164 (lv_sub hl [0, 1, 2, 3] rfl)
      · have b118 := zi_eq b118 (rfl : x115.toInt = x115.toInt) (zl_0 : (0 : Int32).toInt = 0)
        refine lv_iconst (v := (-1)) hx hb dX11_pricing_30 (by decide +kernel) ?_
        subst hQ
        exact zq_iret E hr hZ hM hS ⟨hR, ((zI.mono q_0 (by omega))), (q_1)⟩ hlocks dX11_pricing_31
def zw_X11_war : List (Nat × Nat) := [(3, 3), (34, 999)]
set_option maxHeartbeats 8000000 in
set_option maxRecDepth 100000 in
theorem c_X11_war (l : Launch) (X : zq_X) (zk zn : Nat) (I : zq_M) (L : zq_L X) (ct : Nat) (h0 : Nat) (k_h0 : zq_k X h0 = 9) (p1 : Int32) (p2 : Int32) (q_0 : zI X I ct) (q_1 : zS0 X I (zq_r X h0 4)) (q_2 : ct ≤ 600) : Met l yX11_war (zt_w yX11_war cX11_war 3 (some .int)) (zq_rm (4)) (va_Pc [.ref h0, .int p1, .int p2] (zq_W X (zk, zn) I)) (va_Qi (fun (r : Int32) I2 => zq_fr (zf X zw_X11_war (fun _ => True)) I I2 ∧ (zI X I2 (ct + 1)) ∧ (zS0 X I2 (zq_r X h0 4))) (zq_E X (zk, zn)) (zq_A X)) 0 0 (zq_A X) := by
  refine Met.ofW (cc := cX11_war) (maxL := 3) (ret := (some .int)) (by decide) rfl ?_
  intro p e s m args below meth c s₁ B hml hv
  obtain ⟨hargs, hM, hZ⟩ := hv
  have hown : s.vm.findClass RX11 = some m.cls := findClass_of_methodNamed B.named
  have hts := atoms_spec (ws := zt_w yX11_war cX11_war 3 (some .int)) B.pre
  have E : CallFix p m c cX11_war 3 s args (Cond.code yX11_war cX11_war 3 (some .int) :: zt) RX11 := ⟨B.exec, B.bytes, hml, hown, hts⟩
  have hx := B.exec
  have hb := B.bytes
  have hr := B.returns
  have hlocks := B.notSynchronized
  clear B
  have hS : va_S (zq_A X) s.heap s.heap [] := va_S.rf
  have hR : zq_fr (zf X zw_X11_war (fun _ => True)) I I := zq_fr.rf
  have hl := lv_entry ([.ref h0, .int p1, .int p2]) (n := 3) (by exact Nat.le_of_ble_eq_true rfl)
  have hg : entryFrame m args 3 = F0 m 0 ((lg_sl ([.ref h0, .int p1, .int p2]) ++ List.replicate (3 - (lg_sl ([.ref h0, .int p1, .int p2])).length) Slot.unset).toArray) [] := by rw [hargs]; exact lg_entry_eq m ([.ref h0, .int p1, .int p2]) 3
  rw [hg]
  clear hg hargs
  generalize (lg_sl ([.ref h0, .int p1, .int p2]) ++ List.replicate (3 - (lg_sl ([.ref h0, .int p1, .int p2])).length) Slot.unset).toArray = ls at hl ⊢
  have hl : lv_has ls 3 [(0, .ref h0), (1, .int p1), (2, .int p2)] := by exact hl
  obtain ⟨R, hRm⟩ : ∃ R : Room, R = (headSpec (zt_w yX11_war cX11_war 3 (some .int)) (zq_rm (4))).room := ⟨_, rfl⟩
  rw [← hRm]
  have hro : ∀ d q : Nat, d + 1 ≤ 4 → q ≤ 45 → zq_rok d q R := fun d q h1 h2 => by rw [hRm]; exact zq_rokI h1 h2
  generalize hQ : MQ below _ args s 0 0 (zq_A X) = Q
  obtain ⟨H, hH⟩ : ∃ H, H = s.heap := ⟨_, rfl⟩
  obtain ⟨locs, hlo⟩ : ∃ x : List Loc, x = [] := ⟨_, rfl⟩
  rw [show W p l e R s m args below meth c s.heap [] 0 0 Q = W p l e R s m args below meth c H locs 0 0 Q by rw [hH, hlo]]
  have hM : zq_hm X (zk, zn) I H := by rw [hH]; exact hM
  have hS : va_S (zq_A X) s.heap H locs := by rw [hH, hlo]; exact hS
  clear hH hlo
  refine lv_aload_n hx hb dX11_war_0 rfl (lv_at hl 0 rfl) ?_
  refine zq_getr E hM k_h0 (zFX11_26 E hZ) ⟨by decide, by decide, by decide, rfl⟩ dX11_war_1 ?_
  have k101 : zq_k X (zq_r X h0 3) = 1 := zq_lk L.1 k_h0 rfl (by decide)
  refine zq_getr E hM k101 (zFX11_95 E hZ) ⟨by decide, by decide, by decide, rfl⟩ dX11_war_4 ?_
  have k102 : zq_k X (zq_r X (zq_r X h0 3) 0) = 8 := zq_lk L.1 k101 rfl (by decide)
  refine lv_iload_n hx hb dX11_war_7 rfl (lv_at hl 1 rfl) ?_
  refine zq_pcalli (zq_rV (As := [.int p1]) (rest := []) E hZ hM k102 (c_X10_hasTown l X zk (zn) I L (zq_r X (zq_r X h0 3) 0) k102 p1) zmX11_128 zM_X10_hasTown (hro (0) 2 (by first | decide | omega) (by decide)) ⟨by decide, by decide⟩ rfl hl.1 rfl rfl (Nat.le_of_ble_eq_true rfl) dX11_war_8) hS (fun x104 H locs h103 hM hS => ?_)
  obtain ⟨p105, p106, p107⟩ := h103
  refine lv_if_eq (tgt := 23) hx hb dX11_war_11 (by decide) (fun b108 => ?_) (fun b108 => ?_)
  · have b108 := zi_eq b108 (rfl : x104.toInt = x104.toInt) (zl_0 : (0 : Int32).toInt = 0)
    refine lv_iconst (v := (-1)) hx hb dX11_war_23 (by decide +kernel) ?_
    subst hQ
    exact zq_iret E hr hZ hM hS ⟨hR, ((zI.mono q_0 (by omega))), (q_1)⟩ hlocks dX11_war_24
  · have b108 := zi_ne b108 (rfl : x104.toInt = x104.toInt) (zl_0 : (0 : Int32).toInt = 0)
    refine lv_iload_n hx hb dX11_war_14 rfl (lv_at hl 2 rfl) ?_
    refine lv_iconst (v := 0) hx hb dX11_war_15 (by decide +kernel) ?_
    refine lv_iconst (v := 2) hx hb dX11_war_16 (by decide +kernel) ?_
    refine zq_pcalli (zq_rS (As := [.int p2, .int (0 : Int32), .int (2 : Int32)]) (rest := []) E hZ hM (c_X11_isWithin l X zk (zn) I L p2 (0 : Int32) (2 : Int32)) zmX11_75 zM_X11_isWithin (hro (0) 3 (by first | decide | omega) (by decide)) hl.1 rfl rfl (Nat.le_of_ble_eq_true rfl) dX11_war_17) hS (fun x110 H locs h109 hM hS => ?_)
    obtain ⟨p111, p112⟩ := h109
    have := zl_0
    have := zl_2
    refine lv_if_ne (tgt := 25) hx hb dX11_war_20 (by decide) (fun b113 => ?_) (fun b113 => ?_)
    · have b113 := zi_ne b113 (rfl : x110.toInt = x110.toInt) (zl_0 : (0 : Int32).toInt = 0)
      refine lv_aload_n hx hb dX11_war_25 rfl (lv_at hl 0 rfl) ?_
      refine zq_getr E hM k_h0 (zFX11_52 E hZ) ⟨by decide, by decide, by decide, rfl⟩ dX11_war_26 ?_
      have k114 : zq_k X (zq_r X h0 10) = 3 := zq_lk L.1 k_h0 rfl (by decide)
      refine lv_aload_n hx hb dX11_war_29 rfl (lv_at hl 0 rfl) ?_
      refine zq_getr E hM k_h0 (zFX11_26 E hZ) ⟨by decide, by decide, by decide, rfl⟩ dX11_war_30 ?_
      have k115 : zq_k X (zq_r X h0 3) = 1 := zq_lk L.1 k_h0 rfl (by decide)
      refine zq_getr E hM k115 (zFX11_95 E hZ) ⟨by decide, by decide, by decide, rfl⟩ dX11_war_33 ?_
      have k116 : zq_k X (zq_r X (zq_r X h0 3) 0) = 8 := zq_lk L.1 k115 rfl (by decide)
      refine zq_getr E hM k116 (zFX11_134 E hZ) ⟨by decide, by decide, by decide, rfl⟩ dX11_war_36 ?_
      have k117 : zq_k X (zq_r X (zq_r X (zq_r X h0 3) 0) 9) = 32 := zq_lk L.1 k116 rfl (by decide)
      refine lv_iload_n hx hb dX11_war_39 rfl (lv_at hl 1 rfl) ?_
      refine zq_rald (n := 4) (t := 8) (j := (p1.toNatClampNeg)) E hZ hM k117 ⟨by decide, rfl⟩ ⟨rfl, by decide, by decide⟩ ⟨by omega, by omega⟩ rfl dX11_war_40 ?_
      have k118 : zq_k X (zq_r X (zq_r X (zq_r X (zq_r X h0 3) 0) 9) (p1.toNatClampNeg)) = 7 := zq_lay_a L.1 k117 (n := 4) (zq_inn (i := p1) (n := 4) ⟨by omega, by omega⟩) (by decide) (by decide)
      refine zq_callv (zq_rV (As := [.ref (zq_r X (zq_r X (zq_r X (zq_r X h0 3) 0) 9) (p1.toNatClampNeg))]) (rest := []) E hZ hM k114 (c_X2_findPeace l X zk (zn) I L (zq_r X h0 10) k114 (zq_r X (zq_r X (zq_r X (zq_r X h0 3) 0) 9) (p1.toNatClampNeg)) k118) zmX11_250 zM_X2_findPeace (hro (3) 4 (by first | decide | omega) (by decide)) ⟨by decide, by decide⟩ rfl hl.1 rfl rfl (Nat.le_of_ble_eq_true rfl) dX11_war_41) hS (fun I121 H locs h119 hM hS => ?_)
      have fr122 := h119
      have hR := zq_fr.call hR fr122 (zf_sub (by decide +kernel) (fun _ _ _ => trivial))
      have hI123 := zI.frL q_0 L fr122 rfl rfl
      have hS0124 := zS0.fr q_1 L (zq_lk L.1 k_h0 rfl (by decide)) fr122 rfl
      refine W.eq (g2 := F0 m 44 ls []) rfl ?_
      refine lv_aload_n hx hb dX11_war_44 rfl (lv_at hl 0 rfl) ?_
      refine zq_getr E hM k_h0 (zFX11_52 E hZ) ⟨by decide, by decide, by decide, rfl⟩ dX11_war_45 ?_
      have k125 : zq_k X (zq_r X h0 10) = 3 := zq_lk L.1 k_h0 rfl (by decide)
      refine zq_getr E hM k125 (zFX11_233 E hZ) ⟨by decide, by decide, by decide, rfl⟩ dX11_war_48 ?_
      have k126 : zq_k X (zq_r X (zq_r X h0 10) 1) = 34 := zq_lk L.1 k125 rfl (by decide)
      refine lv_iload_n hx hb dX11_war_51 rfl (lv_at hl 2 rfl) ?_
      refine zq_ian (n := 4) (j := (p2.toNatClampNeg)) E hZ hM k126 ⟨by decide, rfl⟩ ⟨by omega, by omega⟩ rfl dX11_war_52 (fun x127 ex127 gx127 => ?_)
      clear gx127
      subst hQ
      exact zq_iret E hr hZ hM hS ⟨hR, ((zI.mono hI123 (by omega))), (hS0124)⟩ hlocks dX11_war_53
    · have b113 := zi_eq b113 (rfl : x110.toInt = x110.toInt) (zl_0 : (0 : Int32).toInt = 0)
      refine lv_iconst (v := (-1)) hx hb dX11_war_23 (by decide +kernel) ?_
      subst hQ
      exact zq_iret E hr hZ hM hS ⟨hR, ((zI.mono q_0 (by omega))), (q_1)⟩ hlocks dX11_war_24
def zw_X11_out : List (Nat × Nat) := [(5, 0), (5, 1), (5, 2), (5, 3), (5, 4), (5, 5), (7, 0), (7, 1), (7, 2), (7, 3), (7, 4), (7, 5), (7, 6), (8, 0), (8, 1), (8, 2), (8, 3), (8, 4), (8, 5), (8, 6), (30, 999)]
set_option maxHeartbeats 8000000 in
set_option maxRecDepth 100000 in
theorem c_X11_out (l : Launch) (X : zq_X) (zk zn : Nat) (I : zq_M) (L : zq_L X) (ct : Nat) (h0 : Nat) (k_h0 : zq_k X h0 = 9) (q_0 : zI X I ct) (q_1 : zS0 X I (zq_r X h0 4)) (q_2 : ct ≤ 600) : Met l yX11_out (zt_w yX11_out cX11_out 1 (some .int)) (zq_rm (6)) (va_Pc [.ref h0] (zq_W X (zk, zn) I)) (va_Qi (fun (r : Int32) I2 => zq_fr (zf X zw_X11_out (fun _ => True)) I I2 ∧ (zI X I2 (ct + 1)) ∧ (zS0 X I2 (zq_r X h0 4))) (zq_E X (zk, zn)) (zq_A X)) 0 0 (zq_A X) := by
  refine Met.ofW (cc := cX11_out) (maxL := 1) (ret := (some .int)) (by decide) rfl ?_
  intro p e s m args below meth c s₁ B hml hv
  obtain ⟨hargs, hM, hZ⟩ := hv
  have hown : s.vm.findClass RX11 = some m.cls := findClass_of_methodNamed B.named
  have hts := atoms_spec (ws := zt_w yX11_out cX11_out 1 (some .int)) B.pre
  have E : CallFix p m c cX11_out 1 s args (Cond.code yX11_out cX11_out 1 (some .int) :: zt) RX11 := ⟨B.exec, B.bytes, hml, hown, hts⟩
  have hx := B.exec
  have hb := B.bytes
  have hr := B.returns
  have hlocks := B.notSynchronized
  clear B
  have hS : va_S (zq_A X) s.heap s.heap [] := va_S.rf
  have hR : zq_fr (zf X zw_X11_out (fun _ => True)) I I := zq_fr.rf
  have hl := lv_entry ([.ref h0]) (n := 1) (by exact Nat.le_of_ble_eq_true rfl)
  have hg : entryFrame m args 1 = F0 m 0 ((lg_sl ([.ref h0]) ++ List.replicate (1 - (lg_sl ([.ref h0])).length) Slot.unset).toArray) [] := by rw [hargs]; exact lg_entry_eq m ([.ref h0]) 1
  rw [hg]
  clear hg hargs
  generalize (lg_sl ([.ref h0]) ++ List.replicate (1 - (lg_sl ([.ref h0])).length) Slot.unset).toArray = ls at hl ⊢
  have hl : lv_has ls 1 [(0, .ref h0)] := by exact hl
  obtain ⟨R, hRm⟩ : ∃ R : Room, R = (headSpec (zt_w yX11_out cX11_out 1 (some .int)) (zq_rm (6))).room := ⟨_, rfl⟩
  rw [← hRm]
  have hro : ∀ d q : Nat, d + 1 ≤ 6 → q ≤ 45 → zq_rok d q R := fun d q h1 h2 => by rw [hRm]; exact zq_rokI h1 h2
  generalize hQ : MQ below _ args s 0 0 (zq_A X) = Q
  obtain ⟨H, hH⟩ : ∃ H, H = s.heap := ⟨_, rfl⟩
  obtain ⟨locs, hlo⟩ : ∃ x : List Loc, x = [] := ⟨_, rfl⟩
  rw [show W p l e R s m args below meth c s.heap [] 0 0 Q = W p l e R s m args below meth c H locs 0 0 Q by rw [hH, hlo]]
  have hM : zq_hm X (zk, zn) I H := by rw [hH]; exact hM
  have hS : va_S (zq_A X) s.heap H locs := by rw [hH, hlo]; exact hS
  clear hH hlo
  refine lv_aload_n hx hb dX11_out_0 rfl (lv_at hl 0 rfl) ?_
  refine zq_getr E hM k_h0 (zFX11_26 E hZ) ⟨by decide, by decide, by decide, rfl⟩ dX11_out_1 ?_
  have k101 : zq_k X (zq_r X h0 3) = 1 := zq_lk L.1 k_h0 rfl (by decide)
  refine zq_getr E hM k101 (zFX11_95 E hZ) ⟨by decide, by decide, by decide, rfl⟩ dX11_out_4 ?_
  have k102 : zq_k X (zq_r X (zq_r X h0 3) 0) = 8 := zq_lk L.1 k101 rfl (by decide)
  refine zq_gn E hM k102 (zFX11_141 E hZ) (Or.inr ⟨by decide, by decide, by decide, rfl⟩) dX11_out_7 (fun x103 ex103 gx103 => ?_)
  replace gx103 : 0 ≤ x103.toInt ∧ x103.toInt ≤ 1 := gx103
  refine lv_if_eq (tgt := 34) hx hb dX11_out_10 (by decide) (fun b104 => ?_) (fun b104 => ?_)
  · have b104 := zi_eq b104 (rfl : x103.toInt = x103.toInt) (zl_0 : (0 : Int32).toInt = 0)
    refine lv_iconst (v := (-1)) hx hb dX11_out_34 (by decide +kernel) ?_
    subst hQ
    exact zq_iret E hr hZ hM hS ⟨hR, ((zI.mono q_0 (by omega))), (q_1)⟩ hlocks dX11_out_35
  · have b104 := zi_ne b104 (rfl : x103.toInt = x103.toInt) (zl_0 : (0 : Int32).toInt = 0)
    refine lv_aload_n hx hb dX11_out_13 rfl (lv_at hl 0 rfl) ?_
    refine zq_getr E hM k_h0 (zFX11_52 E hZ) ⟨by decide, by decide, by decide, rfl⟩ dX11_out_14 ?_
    have k105 : zq_k X (zq_r X h0 10) = 3 := zq_lk L.1 k_h0 rfl (by decide)
    refine lv_aload_n hx hb dX11_out_17 rfl (lv_at hl 0 rfl) ?_
    refine zq_getr E hM k_h0 (zFX11_26 E hZ) ⟨by decide, by decide, by decide, rfl⟩ dX11_out_18 ?_
    have k106 : zq_k X (zq_r X h0 3) = 1 := zq_lk L.1 k_h0 rfl (by decide)
    refine zq_getr E hM k106 (zFX11_95 E hZ) ⟨by decide, by decide, by decide, rfl⟩ dX11_out_21 ?_
    have k107 : zq_k X (zq_r X (zq_r X h0 3) 0) = 8 := zq_lk L.1 k106 rfl (by decide)
    refine lv_aload_n hx hb dX11_out_24 rfl (lv_at hl 0 rfl) ?_
    refine zq_call_o (aa := #[]) (zq_rV (As := []) (rest := [.ref (zq_r X (zq_r X h0 3) 0), .ref (zq_r X h0 10)]) E hZ hM k_h0 (c_X11_ruleInForce l X zk (zn) I L h0 k_h0) zmX11_151 zM_X11_ruleInForce (hro (1) 1 (by first | decide | omega) (by decide)) ⟨by decide, by decide⟩ rfl hl.1 rfl rfl (Nat.le_of_ble_eq_true rfl) dX11_out_25) hS (fun y109 I110 H locs h108 hqy109 hM hS => ?_)
    obtain ⟨fr111, p112⟩ := h108
    rw [fr111] at hM
    refine zq_calli (zq_rV (As := [.ref (zq_r X (zq_r X h0 3) 0), va_rf y109]) (rest := []) E hZ hM k105 (c_X2_monthOut l X zk (zn) I L (297 * (((ct : Nat)) : Int)) (zq_r X h0 10) k105 (zq_r X (zq_r X h0 3) 0) k107 y109 hqy109 ((q_0 _ k107 (by have h9 := (zq_now L k106 ((L.2.2.2.1 _ k_h0).1)); omega))) ((zq_now L k106 ((L.2.2.2.1 _ k_h0).1))) (by omega)) zmX11_254 zM_X2_monthOut (hro (5) 4 (by first | decide | omega) (by decide)) ⟨by decide, by decide⟩ rfl hl.1 rfl rfl (Nat.le_of_ble_eq_true rfl) dX11_out_28) hS (fun x114 I115 H locs h113 hM hS => ?_)
    have fr116 := h113
    have hR := zq_fr.call hR fr116 (zf_sub (by decide +kernel) (fun _ _ _ => trivial))
    have hI117 := zI.frP q_0 L fr116 (fun q hp => by omega)
    have hS0118 := zS0.frP q_1 L (zq_lk L.1 k_h0 rfl (by decide)) fr116 (fun q hq => (fun hp => by have h1 := (hq.trans (L.2.2.2.1 _ k_h0).2.1); omega))
    refine lv_goto (tgt := 35) hx hb dX11_out_31 (by decide) ?_
    refine W.eq (g2 := F0 m 35 ls [.int x114]) rfl ?_
    subst hQ
    exact zq_iret E hr hZ hM hS ⟨hR, ((zI.mono hI117 (by omega))), (hS0118)⟩ hlocks dX11_out_35
def zw_X11_hatch : List (Nat × Nat) := [(3, 3), (34, 999)]
set_option maxHeartbeats 8000000 in
set_option maxRecDepth 100000 in
theorem c_X11_hatch (l : Launch) (X : zq_X) (zk zn : Nat) (I : zq_M) (L : zq_L X) (ct : Nat) (h0 : Nat) (k_h0 : zq_k X h0 = 9) (p1 : Int32) (p2 : Int32) (p3 : Int32) (p4 : Int32) (g_p3 : 0 ≤ p3.toInt ∧ p3.toInt ≤ 1) (q_0 : zI X I ct) (q_1 : zS0 X I (zq_r X h0 4)) (q_2 : ct ≤ 600) : Met l yX11_hatch (zt_w yX11_hatch cX11_hatch 5 (some .int)) (zq_rm (3)) (va_Pc [.ref h0, .int p1, .int p2, .int p3, .int p4] (zq_W X (zk, zn) I)) (va_Qi (fun (r : Int32) I2 => zq_fr (zf X zw_X11_hatch (fun _ => True)) I I2 ∧ (zI X I2 (ct + 1)) ∧ (zS0 X I2 (zq_r X h0 4))) (zq_E X (zk, zn)) (zq_A X)) 0 0 (zq_A X) := by
  refine Met.ofW (cc := cX11_hatch) (maxL := 5) (ret := (some .int)) (by decide) rfl ?_
  intro p e s m args below meth c s₁ B hml hv
  obtain ⟨hargs, hM, hZ⟩ := hv
  have hown : s.vm.findClass RX11 = some m.cls := findClass_of_methodNamed B.named
  have hts := atoms_spec (ws := zt_w yX11_hatch cX11_hatch 5 (some .int)) B.pre
  have E : CallFix p m c cX11_hatch 5 s args (Cond.code yX11_hatch cX11_hatch 5 (some .int) :: zt) RX11 := ⟨B.exec, B.bytes, hml, hown, hts⟩
  have hx := B.exec
  have hb := B.bytes
  have hr := B.returns
  have hlocks := B.notSynchronized
  clear B
  have hS : va_S (zq_A X) s.heap s.heap [] := va_S.rf
  have hR : zq_fr (zf X zw_X11_hatch (fun _ => True)) I I := zq_fr.rf
  have hl := lv_entry ([.ref h0, .int p1, .int p2, .int p3, .int p4]) (n := 5) (by exact Nat.le_of_ble_eq_true rfl)
  have hg : entryFrame m args 5 = F0 m 0 ((lg_sl ([.ref h0, .int p1, .int p2, .int p3, .int p4]) ++ List.replicate (5 - (lg_sl ([.ref h0, .int p1, .int p2, .int p3, .int p4])).length) Slot.unset).toArray) [] := by rw [hargs]; exact lg_entry_eq m ([.ref h0, .int p1, .int p2, .int p3, .int p4]) 5
  rw [hg]
  clear hg hargs
  generalize (lg_sl ([.ref h0, .int p1, .int p2, .int p3, .int p4]) ++ List.replicate (5 - (lg_sl ([.ref h0, .int p1, .int p2, .int p3, .int p4])).length) Slot.unset).toArray = ls at hl ⊢
  have hl : lv_has ls 5 [(0, .ref h0), (1, .int p1), (2, .int p2), (3, .int p3), (4, .int p4)] := by exact hl
  obtain ⟨R, hRm⟩ : ∃ R : Room, R = (headSpec (zt_w yX11_hatch cX11_hatch 5 (some .int)) (zq_rm (3))).room := ⟨_, rfl⟩
  rw [← hRm]
  have hro : ∀ d q : Nat, d + 1 ≤ 3 → q ≤ 45 → zq_rok d q R := fun d q h1 h2 => by rw [hRm]; exact zq_rokI h1 h2
  generalize hQ : MQ below _ args s 0 0 (zq_A X) = Q
  obtain ⟨H, hH⟩ : ∃ H, H = s.heap := ⟨_, rfl⟩
  obtain ⟨locs, hlo⟩ : ∃ x : List Loc, x = [] := ⟨_, rfl⟩
  rw [show W p l e R s m args below meth c s.heap [] 0 0 Q = W p l e R s m args below meth c H locs 0 0 Q by rw [hH, hlo]]
  have hM : zq_hm X (zk, zn) I H := by rw [hH]; exact hM
  have hS : va_S (zq_A X) s.heap H locs := by rw [hH, hlo]; exact hS
  clear hH hlo
  refine lv_aload_n hx hb dX11_hatch_0 rfl (lv_at hl 0 rfl) ?_
  refine zq_getr E hM k_h0 (zFX11_26 E hZ) ⟨by decide, by decide, by decide, rfl⟩ dX11_hatch_1 ?_
  have k101 : zq_k X (zq_r X h0 3) = 1 := zq_lk L.1 k_h0 rfl (by decide)
  refine zq_getr E hM k101 (zFX11_95 E hZ) ⟨by decide, by decide, by decide, rfl⟩ dX11_hatch_4 ?_
  have k102 : zq_k X (zq_r X (zq_r X h0 3) 0) = 8 := zq_lk L.1 k101 rfl (by decide)
  refine lv_iload_n hx hb dX11_hatch_7 rfl (lv_at hl 1 rfl) ?_
  refine zq_pcalli (zq_rV (As := [.int p1]) (rest := []) E hZ hM k102 (c_X10_hasTown l X zk (zn) I L (zq_r X (zq_r X h0 3) 0) k102 p1) zmX11_128 zM_X10_hasTown (hro (0) 2 (by first | decide | omega) (by decide)) ⟨by decide, by decide⟩ rfl hl.1 rfl rfl (Nat.le_of_ble_eq_true rfl) dX11_hatch_8) hS (fun x104 H locs h103 hM hS => ?_)
  obtain ⟨p105, p106, p107⟩ := h103
  refine lv_if_eq (tgt := 34) hx hb dX11_hatch_11 (by decide) (fun b108 => ?_) (fun b108 => ?_)
  · have b108 := zi_eq b108 (rfl : x104.toInt = x104.toInt) (zl_0 : (0 : Int32).toInt = 0)
    refine lv_iconst (v := (-1)) hx hb dX11_hatch_34 (by decide +kernel) ?_
    subst hQ
    exact zq_iret E hr hZ hM hS ⟨hR, ((zI.mono q_0 (by omega))), (q_1)⟩ hlocks dX11_hatch_35
  · have b108 := zi_ne b108 (rfl : x104.toInt = x104.toInt) (zl_0 : (0 : Int32).toInt = 0)
    refine lv_iload_n hx hb dX11_hatch_14 rfl (lv_at hl 2 rfl) ?_
    refine lv_iconst (v := 0) hx hb dX11_hatch_15 (by decide +kernel) ?_
    refine lv_bipush (v := 99) hx hb dX11_hatch_16 (by decide +kernel) ?_
    refine zq_pcalli (zq_rS (As := [.int p2, .int (0 : Int32), .int (99 : Int32)]) (rest := []) E hZ hM (c_X11_isWithin l X zk (zn) I L p2 (0 : Int32) (99 : Int32)) zmX11_75 zM_X11_isWithin (hro (0) 3 (by first | decide | omega) (by decide)) hl.1 rfl rfl (Nat.le_of_ble_eq_true rfl) dX11_hatch_18) hS (fun x110 H locs h109 hM hS => ?_)
    obtain ⟨p111, p112⟩ := h109
    have := zl_0
    have := zl_99
    refine lv_if_eq (tgt := 34) hx hb dX11_hatch_21 (by decide) (fun b113 => ?_) (fun b113 => ?_)
    · have b113 := zi_eq b113 (rfl : x110.toInt = x110.toInt) (zl_0 : (0 : Int32).toInt = 0)
      refine lv_iconst (v := (-1)) hx hb dX11_hatch_34 (by decide +kernel) ?_
      subst hQ
      exact zq_iret E hr hZ hM hS ⟨hR, ((zI.mono q_0 (by omega))), (q_1)⟩ hlocks dX11_hatch_35
    · have b113 := zi_ne b113 (rfl : x110.toInt = x110.toInt) (zl_0 : (0 : Int32).toInt = 0)
      refine lv_iload hx hb dX11_hatch_24 (lv_at hl 4 rfl) ?_
      refine lv_iconst (v := 0) hx hb dX11_hatch_26 (by decide +kernel) ?_
      refine lv_iconst (v := 2) hx hb dX11_hatch_27 (by decide +kernel) ?_
      refine zq_pcalli (zq_rS (As := [.int p4, .int (0 : Int32), .int (2 : Int32)]) (rest := []) E hZ hM (c_X11_isWithin l X zk (zn) I L p4 (0 : Int32) (2 : Int32)) zmX11_75 zM_X11_isWithin (hro (0) 3 (by first | decide | omega) (by decide)) hl.1 rfl rfl (Nat.le_of_ble_eq_true rfl) dX11_hatch_28) hS (fun x115 H locs h114 hM hS => ?_)
      obtain ⟨p116, p117⟩ := h114
      have := zl_0
      have := zl_2
      refine lv_if_ne (tgt := 36) hx hb dX11_hatch_31 (by decide) (fun b118 => ?_) (fun b118 => ?_)
      · have b118 := zi_ne b118 (rfl : x115.toInt = x115.toInt) (zl_0 : (0 : Int32).toInt = 0)
        refine lv_aload_n hx hb dX11_hatch_36 rfl (lv_at hl 0 rfl) ?_
        refine zq_getr E hM k_h0 (zFX11_52 E hZ) ⟨by decide, by decide, by decide, rfl⟩ dX11_hatch_37 ?_
        have k119 : zq_k X (zq_r X h0 10) = 3 := zq_lk L.1 k_h0 rfl (by decide)
        refine lv_aload_n hx hb dX11_hatch_40 rfl (lv_at hl 0 rfl) ?_
        refine zq_getr E hM k_h0 (zFX11_26 E hZ) ⟨by decide, by decide, by decide, rfl⟩ dX11_hatch_41 ?_
        have k120 : zq_k X (zq_r X h0 3) = 1 := zq_lk L.1 k_h0 rfl (by decide)
        refine zq_getr E hM k120 (zFX11_95 E hZ) ⟨by decide, by decide, by decide, rfl⟩ dX11_hatch_44 ?_
        have k121 : zq_k X (zq_r X (zq_r X h0 3) 0) = 8 := zq_lk L.1 k120 rfl (by decide)
        refine zq_getr E hM k121 (zFX11_134 E hZ) ⟨by decide, by decide, by decide, rfl⟩ dX11_hatch_47 ?_
        have k122 : zq_k X (zq_r X (zq_r X (zq_r X h0 3) 0) 9) = 32 := zq_lk L.1 k121 rfl (by decide)
        refine lv_iload_n hx hb dX11_hatch_50 rfl (lv_at hl 1 rfl) ?_
        refine zq_rald (n := 4) (t := 8) (j := (p1.toNatClampNeg)) E hZ hM k122 ⟨by decide, rfl⟩ ⟨rfl, by decide, by decide⟩ ⟨by omega, by omega⟩ rfl dX11_hatch_51 ?_
        have k123 : zq_k X (zq_r X (zq_r X (zq_r X (zq_r X h0 3) 0) 9) (p1.toNatClampNeg)) = 7 := zq_lay_a L.1 k122 (n := 4) (zq_inn (i := p1) (n := 4) ⟨by omega, by omega⟩) (by decide) (by decide)
        refine lv_iload_n hx hb dX11_hatch_52 rfl (lv_at hl 2 rfl) ?_
        refine W.eq (g2 := F0 m 53 ls [.int p2, .ref (zq_r X (zq_r X (zq_r X (zq_r X h0 3) 0) 9) (p1.toNatClampNeg)), .ref (zq_r X h0 10)]) rfl ?_
        refine lv_iload_n hx hb dX11_hatch_53 rfl (lv_at hl 3 rfl) ?_
        refine zq_callv (zq_rV (As := [.ref (zq_r X (zq_r X (zq_r X (zq_r X h0 3) 0) 9) (p1.toNatClampNeg)), .int p2, .int p3]) (rest := []) E hZ hM k119 (c_X2_findFirstBlocks l X zk (zn) I L (zq_r X h0 10) k119 (zq_r X (zq_r X (zq_r X (zq_r X h0 3) 0) 9) (p1.toNatClampNeg)) k123 p2 p3 ⟨by omega, by omega⟩) zmX11_258 zM_X2_findFirstBlocks (hro (2) 5 (by first | decide | omega) (by decide)) ⟨by decide, by decide⟩ rfl hl.1 rfl rfl (Nat.le_of_ble_eq_true rfl) dX11_hatch_54) hS (fun I126 H locs h124 hM hS => ?_)
        have fr127 := h124
        have hR := zq_fr.call hR fr127 (zf_sub (by decide +kernel) (fun _ _ _ => trivial))
        have hI128 := zI.frL q_0 L fr127 rfl rfl
        have hS0129 := zS0.fr q_1 L (zq_lk L.1 k_h0 rfl (by decide)) fr127 rfl
        refine lv_aload_n hx hb dX11_hatch_57 rfl (lv_at hl 0 rfl) ?_
        refine zq_getr E hM k_h0 (zFX11_52 E hZ) ⟨by decide, by decide, by decide, rfl⟩ dX11_hatch_58 ?_
        have k130 : zq_k X (zq_r X h0 10) = 3 := zq_lk L.1 k_h0 rfl (by decide)
        refine zq_getr E hM k130 (zFX11_233 E hZ) ⟨by decide, by decide, by decide, rfl⟩ dX11_hatch_61 ?_
        have k131 : zq_k X (zq_r X (zq_r X h0 10) 1) = 34 := zq_lk L.1 k130 rfl (by decide)
        refine lv_iload hx hb dX11_hatch_64 (lv_at hl 4 rfl) ?_
        refine zq_ian (n := 4) (j := (p4.toNatClampNeg)) E hZ hM k131 ⟨by decide, rfl⟩ ⟨by omega, by omega⟩ rfl dX11_hatch_66 (fun x132 ex132 gx132 => ?_)
        clear gx132
        subst hQ
        exact zq_iret E hr hZ hM hS ⟨hR, ((zI.mono hI128 (by omega))), (hS0129)⟩ hlocks dX11_hatch_67
      · have b118 := zi_eq b118 (rfl : x115.toInt = x115.toInt) (zl_0 : (0 : Int32).toInt = 0)
        refine lv_iconst (v := (-1)) hx hb dX11_hatch_34 (by decide +kernel) ?_
        subst hQ
        exact zq_iret E hr hZ hM hS ⟨hR, ((zI.mono q_0 (by omega))), (q_1)⟩ hlocks dX11_hatch_35
def zw_X11_note : List (Nat × Nat) := [(1, 6), (33, 999)]
set_option maxHeartbeats 8000000 in
set_option maxRecDepth 100000 in
theorem c_X11_note (l : Launch) (X : zq_X) (zk zn : Nat) (I : zq_M) (L : zq_L X) (ct : Nat) (h0 : Nat) (k_h0 : zq_k X h0 = 9) (p1 : Int32) (p2 : Int32) (q_0 : zI X I ct) (q_1 : zS0 X I (zq_r X h0 4)) (q_2 : ct ≤ 600) : Met l yX11_note (zt_w yX11_note cX11_note 3 (some .int)) (zq_rm (1)) (va_Pc [.ref h0, .int p1, .int p2] (zq_W X (zk, zn) I)) (va_Qi (fun (r : Int32) I2 => zq_fr (zf X zw_X11_note (fun _ => True)) I I2 ∧ (zI X I2 (ct + 1)) ∧ (zS0 X I2 (zq_r X h0 4)) ∧ ((-2) ≤ r.toInt ∧ r.toInt ≤ 10)) (zq_E X (zk, zn)) (zq_A X)) 0 0 (zq_A X) := by
  refine Met.ofW (cc := cX11_note) (maxL := 3) (ret := (some .int)) (by decide) rfl ?_
  intro p e s m args below meth c s₁ B hml hv
  obtain ⟨hargs, hM, hZ⟩ := hv
  have hown : s.vm.findClass RX11 = some m.cls := findClass_of_methodNamed B.named
  have hts := atoms_spec (ws := zt_w yX11_note cX11_note 3 (some .int)) B.pre
  have E : CallFix p m c cX11_note 3 s args (Cond.code yX11_note cX11_note 3 (some .int) :: zt) RX11 := ⟨B.exec, B.bytes, hml, hown, hts⟩
  have hx := B.exec
  have hb := B.bytes
  have hr := B.returns
  have hlocks := B.notSynchronized
  clear B
  have hS : va_S (zq_A X) s.heap s.heap [] := va_S.rf
  have hR : zq_fr (zf X zw_X11_note (fun _ => True)) I I := zq_fr.rf
  have hl := lv_entry ([.ref h0, .int p1, .int p2]) (n := 3) (by exact Nat.le_of_ble_eq_true rfl)
  have hg : entryFrame m args 3 = F0 m 0 ((lg_sl ([.ref h0, .int p1, .int p2]) ++ List.replicate (3 - (lg_sl ([.ref h0, .int p1, .int p2])).length) Slot.unset).toArray) [] := by rw [hargs]; exact lg_entry_eq m ([.ref h0, .int p1, .int p2]) 3
  rw [hg]
  clear hg hargs
  generalize (lg_sl ([.ref h0, .int p1, .int p2]) ++ List.replicate (3 - (lg_sl ([.ref h0, .int p1, .int p2])).length) Slot.unset).toArray = ls at hl ⊢
  have hl : lv_has ls 3 [(0, .ref h0), (1, .int p1), (2, .int p2)] := by exact hl
  obtain ⟨R, hRm⟩ : ∃ R : Room, R = (headSpec (zt_w yX11_note cX11_note 3 (some .int)) (zq_rm (1))).room := ⟨_, rfl⟩
  rw [← hRm]
  have hro : ∀ d q : Nat, d + 1 ≤ 1 → q ≤ 45 → zq_rok d q R := fun d q h1 h2 => by rw [hRm]; exact zq_rokI h1 h2
  generalize hQ : MQ below _ args s 0 0 (zq_A X) = Q
  obtain ⟨H, hH⟩ : ∃ H, H = s.heap := ⟨_, rfl⟩
  obtain ⟨locs, hlo⟩ : ∃ x : List Loc, x = [] := ⟨_, rfl⟩
  rw [show W p l e R s m args below meth c s.heap [] 0 0 Q = W p l e R s m args below meth c H locs 0 0 Q by rw [hH, hlo]]
  have hM : zq_hm X (zk, zn) I H := by rw [hH]; exact hM
  have hS : va_S (zq_A X) s.heap H locs := by rw [hH, hlo]; exact hS
  clear hH hlo
  refine lv_aload_n hx hb dX11_note_0 rfl (lv_at hl 0 rfl) ?_
  refine zq_getr E hM k_h0 (zFX11_26 E hZ) ⟨by decide, by decide, by decide, rfl⟩ dX11_note_1 ?_
  have k101 : zq_k X (zq_r X h0 3) = 1 := zq_lk L.1 k_h0 rfl (by decide)
  refine zq_getr E hM k101 (zFX11_95 E hZ) ⟨by decide, by decide, by decide, rfl⟩ dX11_note_4 ?_
  have k102 : zq_k X (zq_r X (zq_r X h0 3) 0) = 8 := zq_lk L.1 k101 rfl (by decide)
  refine zq_gn E hM k102 (zFX11_141 E hZ) (Or.inr ⟨by decide, by decide, by decide, rfl⟩) dX11_note_7 (fun x103 ex103 gx103 => ?_)
  replace gx103 : 0 ≤ x103.toInt ∧ x103.toInt ≤ 1 := gx103
  refine lv_if_ne (tgt := 16) hx hb dX11_note_10 (by decide) (fun b104 => ?_) (fun b104 => ?_)
  · have b104 := zi_ne b104 (rfl : x103.toInt = x103.toInt) (zl_0 : (0 : Int32).toInt = 0)
    refine lv_iload_n hx hb dX11_note_16 rfl (lv_at hl 1 rfl) ?_
    refine lv_iconst (v := (-1)) hx hb dX11_note_17 (by decide +kernel) ?_
    refine lv_icmp_ne (tgt := 31) hx hb dX11_note_18 (by decide) (fun b105 => ?_) (fun b105 => ?_)
    · have b105 := zi_ne b105 (rfl : p1.toInt = p1.toInt) (zl_m1 : (-1 : Int32).toInt = (-1))
      refine lv_iload_n hx hb dX11_note_31 rfl (lv_at hl 1 rfl) ?_
      refine lv_iconst (v := 0) hx hb dX11_note_32 (by decide +kernel) ?_
      refine lv_bipush (v := 60) hx hb dX11_note_33 (by decide +kernel) ?_
      refine zq_pcalli (zq_rS (As := [.int p1, .int (0 : Int32), .int (60 : Int32)]) (rest := []) E hZ hM (c_X11_isWithin l X zk (zn) I L p1 (0 : Int32) (60 : Int32)) zmX11_75 zM_X11_isWithin (hro (0) 3 (by first | decide | omega) (by decide)) hl.1 rfl rfl (Nat.le_of_ble_eq_true rfl) dX11_note_35) hS (fun x107 H locs h106 hM hS => ?_)
      obtain ⟨p108, p109⟩ := h106
      have := zl_0
      have := zl_60
      refine lv_if_eq (tgt := 64) hx hb dX11_note_38 (by decide) (fun b110 => ?_) (fun b110 => ?_)
      · have b110 := zi_eq b110 (rfl : x107.toInt = x107.toInt) (zl_0 : (0 : Int32).toInt = 0)
        refine lv_bipush (v := (-2)) hx hb dX11_note_64 (by decide +kernel) ?_
        subst hQ
        exact zq_iret E hr hZ hM hS ⟨hR, ((zI.mono q_0 (by omega))), (q_1), (by have := zl_m2; omega)⟩ hlocks dX11_note_66
      · have b110 := zi_ne b110 (rfl : x107.toInt = x107.toInt) (zl_0 : (0 : Int32).toInt = 0)
        refine lv_iload_n hx hb dX11_note_41 rfl (lv_at hl 2 rfl) ?_
        refine lv_iconst (v := 0) hx hb dX11_note_42 (by decide +kernel) ?_
        refine lv_ldcw (v := 99999) hx hb hown (hts _ (List.mem_cons_of_mem _ zCX11_265)) dX11_note_43 ?_
        refine W.eq (g2 := F0 m 46 ls [.int (99999 : Int32), .int (0 : Int32), .int p2]) rfl ?_
        refine zq_pcalli (zq_rS (As := [.int p2, .int (0 : Int32), .int (99999 : Int32)]) (rest := []) E hZ hM (c_X11_isWithin l X zk (zn) I L p2 (0 : Int32) (99999 : Int32)) zmX11_75 zM_X11_isWithin (hro (0) 3 (by first | decide | omega) (by decide)) hl.1 rfl rfl (Nat.le_of_ble_eq_true rfl) dX11_note_46) hS (fun x112 H locs h111 hM hS => ?_)
        obtain ⟨p113, p114⟩ := h111
        have := zl_0
        have := zl_99999
        refine lv_if_eq (tgt := 64) hx hb dX11_note_49 (by decide) (fun b115 => ?_) (fun b115 => ?_)
        · have b115 := zi_eq b115 (rfl : x112.toInt = x112.toInt) (zl_0 : (0 : Int32).toInt = 0)
          refine lv_bipush (v := (-2)) hx hb dX11_note_64 (by decide +kernel) ?_
          subst hQ
          exact zq_iret E hr hZ hM hS ⟨hR, ((zI.mono q_0 (by omega))), (q_1), (by have := zl_m2; omega)⟩ hlocks dX11_note_66
        · have b115 := zi_ne b115 (rfl : x112.toInt = x112.toInt) (zl_0 : (0 : Int32).toInt = 0)
          refine lv_aload_n hx hb dX11_note_52 rfl (lv_at hl 0 rfl) ?_
          refine zq_getr E hM k_h0 (zFX11_26 E hZ) ⟨by decide, by decide, by decide, rfl⟩ dX11_note_53 ?_
          have k116 : zq_k X (zq_r X h0 3) = 1 := zq_lk L.1 k_h0 rfl (by decide)
          refine zq_gn E hM k116 (zFX11_262 E hZ) (Or.inl ⟨by decide, by decide, by decide, rfl⟩) dX11_note_56 (fun x117 ex117 gx117 => ?_)
          replace gx117 : 0 ≤ x117.toInt ∧ x117.toInt ≤ 10 := gx117
          refine lv_bipush (v := 10) hx hb dX11_note_59 (by decide +kernel) ?_
          refine lv_icmp_lt (tgt := 67) hx hb dX11_note_61 (by decide) (fun b118 => ?_) (fun b118 => ?_)
          · have b118 := zi_lt b118 (rfl : x117.toInt = x117.toInt) (zl_10 : (10 : Int32).toInt = 10)
            refine lv_aload_n hx hb dX11_note_67 rfl (lv_at hl 0 rfl) ?_
            refine zq_getr E hM k_h0 (zFX11_26 E hZ) ⟨by decide, by decide, by decide, rfl⟩ dX11_note_68 ?_
            have k119 : zq_k X (zq_r X h0 3) = 1 := zq_lk L.1 k_h0 rfl (by decide)
            refine lv_iload_n hx hb dX11_note_71 rfl (lv_at hl 1 rfl) ?_
            refine lv_iload_n hx hb dX11_note_72 rfl (lv_at hl 2 rfl) ?_
            refine zq_callv (zq_rV (As := [.int p1, .int p2]) (rest := []) E hZ hM k119 (c_X0_addNote l X zk (zn) I L (zq_r X h0 3) k119 p1 p2) zmX11_266 zM_X0_addNote (hro (0) 3 (by first | decide | omega) (by decide)) ⟨by decide, by decide⟩ rfl hl.1 rfl rfl (Nat.le_of_ble_eq_true rfl) dX11_note_73) hS (fun I122 H locs h120 hM hS => ?_)
            have fr123 := h120
            have hR := zq_fr.call hR fr123 (zf_sub (by decide +kernel) (fun _ _ _ => trivial))
            have hI124 := zI.frL q_0 L fr123 rfl rfl
            have hS0125 := zS0.fr q_1 L (zq_lk L.1 k_h0 rfl (by decide)) fr123 rfl
            refine lv_aload_n hx hb dX11_note_76 rfl (lv_at hl 0 rfl) ?_
            refine zq_getr E hM k_h0 (zFX11_26 E hZ) ⟨by decide, by decide, by decide, rfl⟩ dX11_note_77 ?_
            have k126 : zq_k X (zq_r X h0 3) = 1 := zq_lk L.1 k_h0 rfl (by decide)
            refine zq_gn E hM k126 (zFX11_262 E hZ) (Or.inl ⟨by decide, by decide, by decide, rfl⟩) dX11_note_80 (fun x127 ex127 gx127 => ?_)
            replace gx127 : 0 ≤ x127.toInt ∧ x127.toInt ≤ 10 := gx127
            subst hQ
            exact zq_iret E hr hZ hM hS ⟨hR, ((zI.mono hI124 (by omega))), (hS0125), (by omega)⟩ hlocks dX11_note_83
          · have b118 := zi_nlt b118 (rfl : x117.toInt = x117.toInt) (zl_10 : (10 : Int32).toInt = 10)
            refine lv_bipush (v := (-2)) hx hb dX11_note_64 (by decide +kernel) ?_
            subst hQ
            exact zq_iret E hr hZ hM hS ⟨hR, ((zI.mono q_0 (by omega))), (q_1), (by have := zl_m2; omega)⟩ hlocks dX11_note_66
    · have b105 := zi_eq b105 (rfl : p1.toInt = p1.toInt) (zl_m1 : (-1 : Int32).toInt = (-1))
      refine lv_aload_n hx hb dX11_note_21 rfl (lv_at hl 0 rfl) ?_
      refine zq_getr E hM k_h0 (zFX11_26 E hZ) ⟨by decide, by decide, by decide, rfl⟩ dX11_note_22 ?_
      have k128 : zq_k X (zq_r X h0 3) = 1 := zq_lk L.1 k_h0 rfl (by decide)
      refine lv_iconst (v := 0) hx hb dX11_note_25 (by decide +kernel) ?_
      refine zq_pn E hM hS k128 (zGX11_262 E hZ) ⟨by decide, by decide, by decide, rfl⟩ (show 0 ≤ (0 : Int32).toInt ∧ (0 : Int32).toInt ≤ 10 by decide +kernel) dX11_note_26 (fun I129 H locs eI129 hM hS => ?_)
      have hR := zq_fr.putE hR eI129 (zf_i k128 rfl rfl)
      have hI130 := zI.put q_0 L eI129 k128 (Or.inl ⟨by decide, by decide⟩)
      have hS0131 := zS0.put q_1 L (zq_lk L.1 k_h0 rfl (by decide)) eI129 k128 (Or.inl (by decide))
      refine lv_iconst (v := 0) hx hb dX11_note_29 (by decide +kernel) ?_
      subst hQ
      exact zq_iret E hr hZ hM hS ⟨hR, ((zI.mono hI130 (by omega))), (hS0131), (by have := zl_0; omega)⟩ hlocks dX11_note_30
  · have b104 := zi_eq b104 (rfl : x103.toInt = x103.toInt) (zl_0 : (0 : Int32).toInt = 0)
    refine lv_bipush (v := (-2)) hx hb dX11_note_13 (by decide +kernel) ?_
    subst hQ
    exact zq_iret E hr hZ hM hS ⟨hR, ((zI.mono q_0 (by omega))), (q_1), (by have := zl_m2; omega)⟩ hlocks dX11_note_15
def zw_X11_ruled : List (Nat × Nat) := [(5, 0), (5, 1), (5, 2), (5, 3), (5, 4), (5, 5), (7, 0), (7, 1), (7, 2), (7, 3), (7, 4), (7, 5), (7, 6), (8, 0), (8, 1), (8, 2), (8, 3), (8, 4), (8, 5), (8, 6), (30, 999), (37, 999), (38, 999)]
set_option maxHeartbeats 8000000 in
set_option maxRecDepth 100000 in
theorem c_X11_ruled (l : Launch) (X : zq_X) (zk zn : Nat) (I : zq_M) (L : zq_L X) (ct : Nat) (h0 : Nat) (k_h0 : zq_k X h0 = 9) (p1 : Int32) (q_0 : zI X I ct) (q_1 : zS0 X I (zq_r X h0 4)) (q_2 : ct ≤ 600) : Met l yX11_ruled (zt_w yX11_ruled cX11_ruled 2 (some .int)) (zq_rm (7)) (va_Pc [.ref h0, .int p1] (zq_W X (zk, zn) I)) (va_Qi (fun (r : Int32) I2 => zq_fr (zf X zw_X11_ruled (fun _ => True)) I I2 ∧ (zI X I2 (ct + 1)) ∧ (zS0 X I2 (zq_r X h0 4))) (zq_E X (zk, zn)) (zq_A X)) 0 0 (zq_A X) := by
  refine Met.ofW (cc := cX11_ruled) (maxL := 2) (ret := (some .int)) (by decide) rfl ?_
  intro p e s m args below meth c s₁ B hml hv
  obtain ⟨hargs, hM, hZ⟩ := hv
  have hown : s.vm.findClass RX11 = some m.cls := findClass_of_methodNamed B.named
  have hts := atoms_spec (ws := zt_w yX11_ruled cX11_ruled 2 (some .int)) B.pre
  have E : CallFix p m c cX11_ruled 2 s args (Cond.code yX11_ruled cX11_ruled 2 (some .int) :: zt) RX11 := ⟨B.exec, B.bytes, hml, hown, hts⟩
  have hx := B.exec
  have hb := B.bytes
  have hr := B.returns
  have hlocks := B.notSynchronized
  clear B
  have hS : va_S (zq_A X) s.heap s.heap [] := va_S.rf
  have hR : zq_fr (zf X zw_X11_ruled (fun _ => True)) I I := zq_fr.rf
  have hl := lv_entry ([.ref h0, .int p1]) (n := 2) (by exact Nat.le_of_ble_eq_true rfl)
  have hg : entryFrame m args 2 = F0 m 0 ((lg_sl ([.ref h0, .int p1]) ++ List.replicate (2 - (lg_sl ([.ref h0, .int p1])).length) Slot.unset).toArray) [] := by rw [hargs]; exact lg_entry_eq m ([.ref h0, .int p1]) 2
  rw [hg]
  clear hg hargs
  generalize (lg_sl ([.ref h0, .int p1]) ++ List.replicate (2 - (lg_sl ([.ref h0, .int p1])).length) Slot.unset).toArray = ls at hl ⊢
  have hl : lv_has ls 2 [(0, .ref h0), (1, .int p1)] := by exact hl
  obtain ⟨R, hRm⟩ : ∃ R : Room, R = (headSpec (zt_w yX11_ruled cX11_ruled 2 (some .int)) (zq_rm (7))).room := ⟨_, rfl⟩
  rw [← hRm]
  have hro : ∀ d q : Nat, d + 1 ≤ 7 → q ≤ 45 → zq_rok d q R := fun d q h1 h2 => by rw [hRm]; exact zq_rokI h1 h2
  generalize hQ : MQ below _ args s 0 0 (zq_A X) = Q
  obtain ⟨H, hH⟩ : ∃ H, H = s.heap := ⟨_, rfl⟩
  obtain ⟨locs, hlo⟩ : ∃ x : List Loc, x = [] := ⟨_, rfl⟩
  rw [show W p l e R s m args below meth c s.heap [] 0 0 Q = W p l e R s m args below meth c H locs 0 0 Q by rw [hH, hlo]]
  have hM : zq_hm X (zk, zn) I H := by rw [hH]; exact hM
  have hS : va_S (zq_A X) s.heap H locs := by rw [hH, hlo]; exact hS
  clear hH hlo
  refine lv_aload_n hx hb dX11_ruled_0 rfl (lv_at hl 0 rfl) ?_
  refine zq_getr E hM k_h0 (zFX11_26 E hZ) ⟨by decide, by decide, by decide, rfl⟩ dX11_ruled_1 ?_
  have k101 : zq_k X (zq_r X h0 3) = 1 := zq_lk L.1 k_h0 rfl (by decide)
  refine zq_getr E hM k101 (zFX11_95 E hZ) ⟨by decide, by decide, by decide, rfl⟩ dX11_ruled_4 ?_
  have k102 : zq_k X (zq_r X (zq_r X h0 3) 0) = 8 := zq_lk L.1 k101 rfl (by decide)
  refine zq_gn E hM k102 (zFX11_141 E hZ) (Or.inr ⟨by decide, by decide, by decide, rfl⟩) dX11_ruled_7 (fun x103 ex103 gx103 => ?_)
  replace gx103 : 0 ≤ x103.toInt ∧ x103.toInt ≤ 1 := gx103
  refine lv_if_eq (tgt := 22) hx hb dX11_ruled_10 (by decide) (fun b104 => ?_) (fun b104 => ?_)
  · have b104 := zi_eq b104 (rfl : x103.toInt = x103.toInt) (zl_0 : (0 : Int32).toInt = 0)
    refine lv_bipush (v := (-3)) hx hb dX11_ruled_22 (by decide +kernel) ?_
    subst hQ
    exact zq_iret E hr hZ hM hS ⟨hR, ((zI.mono q_0 (by omega))), (q_1)⟩ hlocks dX11_ruled_24
  · have b104 := zi_ne b104 (rfl : x103.toInt = x103.toInt) (zl_0 : (0 : Int32).toInt = 0)
    refine lv_iload_n hx hb dX11_ruled_13 rfl (lv_at hl 1 rfl) ?_
    refine lv_iconst (v := 0) hx hb dX11_ruled_14 (by decide +kernel) ?_
    refine lv_iconst (v := 1) hx hb dX11_ruled_15 (by decide +kernel) ?_
    refine zq_pcalli (zq_rS (As := [.int p1, .int (0 : Int32), .int (1 : Int32)]) (rest := []) E hZ hM (c_X11_isWithin l X zk (zn) I L p1 (0 : Int32) (1 : Int32)) zmX11_75 zM_X11_isWithin (hro (0) 3 (by first | decide | omega) (by decide)) hl.1 rfl rfl (Nat.le_of_ble_eq_true rfl) dX11_ruled_16) hS (fun x106 H locs h105 hM hS => ?_)
    obtain ⟨p107, p108⟩ := h105
    have := zl_0
    have := zl_1
    refine lv_if_ne (tgt := 25) hx hb dX11_ruled_19 (by decide) (fun b109 => ?_) (fun b109 => ?_)
    · have b109 := zi_ne b109 (rfl : x106.toInt = x106.toInt) (zl_0 : (0 : Int32).toInt = 0)
      refine lv_aload_n hx hb dX11_ruled_25 rfl (lv_at hl 0 rfl) ?_
      refine zq_getr E hM k_h0 (zFX11_59 E hZ) ⟨by decide, by decide, by decide, rfl⟩ dX11_ruled_26 ?_
      have k110 : zq_k X (zq_r X h0 11) = 2 := zq_lk L.1 k_h0 rfl (by decide)
      refine lv_aload_n hx hb dX11_ruled_29 rfl (lv_at hl 0 rfl) ?_
      refine zq_getr E hM k_h0 (zFX11_26 E hZ) ⟨by decide, by decide, by decide, rfl⟩ dX11_ruled_30 ?_
      have k111 : zq_k X (zq_r X h0 3) = 1 := zq_lk L.1 k_h0 rfl (by decide)
      refine lv_aload_n hx hb dX11_ruled_33 rfl (lv_at hl 0 rfl) ?_
      refine zq_getr E hM k_h0 (zFX11_18 E hZ) ⟨by decide, by decide, by decide, rfl⟩ dX11_ruled_34 ?_
      have k112 : zq_k X (zq_r X h0 1) = 39 := zq_lk L.1 k_h0 rfl (by decide)
      refine lv_aload_n hx hb dX11_ruled_37 rfl (lv_at hl 0 rfl) ?_
      refine zq_gn E hM k_h0 (zFX11_101 E hZ) (Or.inl ⟨by decide, by decide, by decide, rfl⟩) dX11_ruled_38 (fun x113 ex113 gx113 => ?_)
      replace gx113 : 0 ≤ x113.toInt ∧ x113.toInt ≤ 6 := gx113
      refine zq_callv (zq_rV (As := [.ref (zq_r X h0 3), .ref (zq_r X h0 1), .int x113]) (rest := []) E hZ hM k110 (c_X1_fill l X zk (zn) I L (297 * (((ct : Nat)) : Int)) (zq_r X h0 11) k110 (zq_r X h0 3) k111 (zq_r X h0 1) k112 x113 (zI.bb q_0 L k111) (by omega)) zmX11_270 zM_X1_fill (hro (6) 5 (by first | decide | omega) (by decide)) ⟨by decide, by decide⟩ rfl hl.1 rfl rfl (Nat.le_of_ble_eq_true rfl) dX11_ruled_41) hS (fun I116 H locs h114 hM hS => ?_)
      have fr117 := h114
      have hR := zq_fr.call hR fr117 (zf_sub (by decide +kernel) (fun _ _ _ => trivial))
      have hI118 := zI.frP q_0 L fr117 (fun q hp => by omega)
      have hS0119 := zS0.frP q_1 L (zq_lk L.1 k_h0 rfl (by decide)) fr117 (fun q hq => (fun hp => by have h1 := (hq.trans (L.2.2.2.1 _ k_h0).2.1); omega))
      refine W.eq (g2 := F0 m 44 ls []) rfl ?_
      refine lv_iload_n hx hb dX11_ruled_44 rfl (lv_at hl 1 rfl) ?_
      refine lv_if_ne (tgt := 58) hx hb dX11_ruled_45 (by decide) (fun b120 => ?_) (fun b120 => ?_)
      · have b120 := zi_ne b120 (rfl : p1.toInt = p1.toInt) (zl_0 : (0 : Int32).toInt = 0)
        refine lv_aload_n hx hb dX11_ruled_58 rfl (lv_at hl 0 rfl) ?_
        refine zq_getr E hM k_h0 (zFX11_59 E hZ) ⟨by decide, by decide, by decide, rfl⟩ dX11_ruled_59 ?_
        have k121 : zq_k X (zq_r X h0 11) = 2 := zq_lk L.1 k_h0 rfl (by decide)
        refine zq_pcalli (zq_rV (As := []) (rest := []) E hZ hM k121 (c_X1_firstFitting l X zk (zn) I116 L (zq_r X h0 11) k121) zmX11_278 zM_X1_firstFitting (hro (0) 2 (by first | decide | omega) (by decide)) ⟨by decide, by decide⟩ rfl hl.1 rfl rfl (Nat.le_of_ble_eq_true rfl) dX11_ruled_62) hS (fun x123 H locs h122 hM hS => ?_)
        have p124 := h122
        subst hQ
        exact zq_iret E hr hZ hM hS ⟨hR, ((zI.mono hI118 (by omega))), (hS0119)⟩ hlocks dX11_ruled_65
      · have b120 := zi_eq b120 (rfl : p1.toInt = p1.toInt) (zl_0 : (0 : Int32).toInt = 0)
        refine lv_aload_n hx hb dX11_ruled_48 rfl (lv_at hl 0 rfl) ?_
        refine zq_getr E hM k_h0 (zFX11_59 E hZ) ⟨by decide, by decide, by decide, rfl⟩ dX11_ruled_49 ?_
        have k125 : zq_k X (zq_r X h0 11) = 2 := zq_lk L.1 k_h0 rfl (by decide)
        refine zq_pcalli (zq_rV (As := []) (rest := []) E hZ hM k125 (c_X1_fitting l X zk (zn) I116 L (zq_r X h0 11) k125) zmX11_274 zM_X1_fitting (hro (0) 3 (by first | decide | omega) (by decide)) ⟨by decide, by decide⟩ rfl hl.1 rfl rfl (Nat.le_of_ble_eq_true rfl) dX11_ruled_52) hS (fun x127 H locs h126 hM hS => ?_)
        clear h126
        refine lv_goto (tgt := 65) hx hb dX11_ruled_55 (by decide) ?_
        subst hQ
        exact zq_iret E hr hZ hM hS ⟨hR, ((zI.mono hI118 (by omega))), (hS0119)⟩ hlocks dX11_ruled_65
    · have b109 := zi_eq b109 (rfl : x106.toInt = x106.toInt) (zl_0 : (0 : Int32).toInt = 0)
      refine lv_bipush (v := (-3)) hx hb dX11_ruled_22 (by decide +kernel) ?_
      subst hQ
      exact zq_iret E hr hZ hM hS ⟨hR, ((zI.mono q_0 (by omega))), (q_1)⟩ hlocks dX11_ruled_24
def zw_X11_look : List (Nat × Nat) := [(5, 0), (5, 1), (5, 2), (5, 3), (5, 4), (5, 5), (7, 0), (7, 1), (7, 2), (7, 3), (7, 4), (7, 5), (7, 6), (8, 0), (8, 1), (8, 2), (8, 3), (8, 4), (8, 5), (8, 6), (30, 999), (37, 999), (38, 999)]
set_option maxHeartbeats 8000000 in
set_option maxRecDepth 100000 in
theorem c_X11_look (l : Launch) (X : zq_X) (zk zn : Nat) (I : zq_M) (L : zq_L X) (ct : Nat) (h0 : Nat) (k_h0 : zq_k X h0 = 9) (p1 : Int32) (q_0 : zI X I ct) (q_1 : zS0 X I (zq_r X h0 4)) (q_2 : ct ≤ 600) : Met l yX11_look (zt_w yX11_look cX11_look 3 (some .int)) (zq_rm (7)) (va_Pc [.ref h0, .int p1] (zq_W X (zk, zn) I)) (va_Qi (fun (r : Int32) I2 => zq_fr (zf X zw_X11_look (fun _ => True)) I I2 ∧ (zI X I2 (ct + 1)) ∧ (zS0 X I2 (zq_r X h0 4)) ∧ ((-2) ≤ r.toInt)) (zq_E X (zk, zn)) (zq_A X)) 0 0 (zq_A X) := by
  refine Met.ofW (cc := cX11_look) (maxL := 3) (ret := (some .int)) (by decide) rfl ?_
  intro p e s m args below meth c s₁ B hml hv
  obtain ⟨hargs, hM, hZ⟩ := hv
  have hown : s.vm.findClass RX11 = some m.cls := findClass_of_methodNamed B.named
  have hts := atoms_spec (ws := zt_w yX11_look cX11_look 3 (some .int)) B.pre
  have E : CallFix p m c cX11_look 3 s args (Cond.code yX11_look cX11_look 3 (some .int) :: zt) RX11 := ⟨B.exec, B.bytes, hml, hown, hts⟩
  have hx := B.exec
  have hb := B.bytes
  have hr := B.returns
  have hlocks := B.notSynchronized
  clear B
  have hS : va_S (zq_A X) s.heap s.heap [] := va_S.rf
  have hR : zq_fr (zf X zw_X11_look (fun _ => True)) I I := zq_fr.rf
  have hl := lv_entry ([.ref h0, .int p1]) (n := 3) (by exact Nat.le_of_ble_eq_true rfl)
  have hg : entryFrame m args 3 = F0 m 0 ((lg_sl ([.ref h0, .int p1]) ++ List.replicate (3 - (lg_sl ([.ref h0, .int p1])).length) Slot.unset).toArray) [] := by rw [hargs]; exact lg_entry_eq m ([.ref h0, .int p1]) 3
  rw [hg]
  clear hg hargs
  generalize (lg_sl ([.ref h0, .int p1]) ++ List.replicate (3 - (lg_sl ([.ref h0, .int p1])).length) Slot.unset).toArray = ls at hl ⊢
  have hl : lv_has ls 3 [(0, .ref h0), (1, .int p1)] := by exact hl
  obtain ⟨R, hRm⟩ : ∃ R : Room, R = (headSpec (zt_w yX11_look cX11_look 3 (some .int)) (zq_rm (7))).room := ⟨_, rfl⟩
  rw [← hRm]
  have hro : ∀ d q : Nat, d + 1 ≤ 7 → q ≤ 45 → zq_rok d q R := fun d q h1 h2 => by rw [hRm]; exact zq_rokI h1 h2
  generalize hQ : MQ below _ args s 0 0 (zq_A X) = Q
  obtain ⟨H, hH⟩ : ∃ H, H = s.heap := ⟨_, rfl⟩
  obtain ⟨locs, hlo⟩ : ∃ x : List Loc, x = [] := ⟨_, rfl⟩
  rw [show W p l e R s m args below meth c s.heap [] 0 0 Q = W p l e R s m args below meth c H locs 0 0 Q by rw [hH, hlo]]
  have hM : zq_hm X (zk, zn) I H := by rw [hH]; exact hM
  have hS : va_S (zq_A X) s.heap H locs := by rw [hH, hlo]; exact hS
  clear hH hlo
  refine lv_aload_n hx hb dX11_look_0 rfl (lv_at hl 0 rfl) ?_
  refine zq_getr E hM k_h0 (zFX11_26 E hZ) ⟨by decide, by decide, by decide, rfl⟩ dX11_look_1 ?_
  have k101 : zq_k X (zq_r X h0 3) = 1 := zq_lk L.1 k_h0 rfl (by decide)
  refine zq_getr E hM k101 (zFX11_95 E hZ) ⟨by decide, by decide, by decide, rfl⟩ dX11_look_4 ?_
  have k102 : zq_k X (zq_r X (zq_r X h0 3) 0) = 8 := zq_lk L.1 k101 rfl (by decide)
  refine zq_gn E hM k102 (zFX11_141 E hZ) (Or.inr ⟨by decide, by decide, by decide, rfl⟩) dX11_look_7 (fun x103 ex103 gx103 => ?_)
  replace gx103 : 0 ≤ x103.toInt ∧ x103.toInt ≤ 1 := gx103
  refine lv_if_eq (tgt := 22) hx hb dX11_look_10 (by decide) (fun b104 => ?_) (fun b104 => ?_)
  · have b104 := zi_eq b104 (rfl : x103.toInt = x103.toInt) (zl_0 : (0 : Int32).toInt = 0)
    refine lv_iconst (v := (-1)) hx hb dX11_look_22 (by decide +kernel) ?_
    subst hQ
    exact zq_iret E hr hZ hM hS ⟨hR, ((zI.mono q_0 (by omega))), (q_1), (by have := zl_m1; omega)⟩ hlocks dX11_look_23
  · have b104 := zi_ne b104 (rfl : x103.toInt = x103.toInt) (zl_0 : (0 : Int32).toInt = 0)
    refine lv_iload_n hx hb dX11_look_13 rfl (lv_at hl 1 rfl) ?_
    refine lv_iconst (v := 0) hx hb dX11_look_14 (by decide +kernel) ?_
    refine lv_iconst (v := 1) hx hb dX11_look_15 (by decide +kernel) ?_
    refine zq_pcalli (zq_rS (As := [.int p1, .int (0 : Int32), .int (1 : Int32)]) (rest := []) E hZ hM (c_X11_isWithin l X zk (zn) I L p1 (0 : Int32) (1 : Int32)) zmX11_75 zM_X11_isWithin (hro (0) 3 (by first | decide | omega) (by decide)) hl.1 rfl rfl (Nat.le_of_ble_eq_true rfl) dX11_look_16) hS (fun x106 H locs h105 hM hS => ?_)
    obtain ⟨p107, p108⟩ := h105
    have := zl_0
    have := zl_1
    refine lv_if_ne (tgt := 24) hx hb dX11_look_19 (by decide) (fun b109 => ?_) (fun b109 => ?_)
    · have b109 := zi_ne b109 (rfl : x106.toInt = x106.toInt) (zl_0 : (0 : Int32).toInt = 0)
      refine lv_aload_n hx hb dX11_look_24 rfl (lv_at hl 0 rfl) ?_
      refine zq_getr E hM k_h0 (zFX11_59 E hZ) ⟨by decide, by decide, by decide, rfl⟩ dX11_look_25 ?_
      have k110 : zq_k X (zq_r X h0 11) = 2 := zq_lk L.1 k_h0 rfl (by decide)
      refine lv_aload_n hx hb dX11_look_28 rfl (lv_at hl 0 rfl) ?_
      refine zq_getr E hM k_h0 (zFX11_26 E hZ) ⟨by decide, by decide, by decide, rfl⟩ dX11_look_29 ?_
      have k111 : zq_k X (zq_r X h0 3) = 1 := zq_lk L.1 k_h0 rfl (by decide)
      refine lv_aload_n hx hb dX11_look_32 rfl (lv_at hl 0 rfl) ?_
      refine zq_getr E hM k_h0 (zFX11_18 E hZ) ⟨by decide, by decide, by decide, rfl⟩ dX11_look_33 ?_
      have k112 : zq_k X (zq_r X h0 1) = 39 := zq_lk L.1 k_h0 rfl (by decide)
      refine lv_aload_n hx hb dX11_look_36 rfl (lv_at hl 0 rfl) ?_
      refine zq_gn E hM k_h0 (zFX11_101 E hZ) (Or.inl ⟨by decide, by decide, by decide, rfl⟩) dX11_look_37 (fun x113 ex113 gx113 => ?_)
      replace gx113 : 0 ≤ x113.toInt ∧ x113.toInt ≤ 6 := gx113
      refine zq_callv (zq_rV (As := [.ref (zq_r X h0 3), .ref (zq_r X h0 1), .int x113]) (rest := []) E hZ hM k110 (c_X1_fill l X zk (zn) I L (297 * (((ct : Nat)) : Int)) (zq_r X h0 11) k110 (zq_r X h0 3) k111 (zq_r X h0 1) k112 x113 (zI.bb q_0 L k111) (by omega)) zmX11_270 zM_X1_fill (hro (6) 5 (by first | decide | omega) (by decide)) ⟨by decide, by decide⟩ rfl hl.1 rfl rfl (Nat.le_of_ble_eq_true rfl) dX11_look_40) hS (fun I116 H locs h114 hM hS => ?_)
      have fr117 := h114
      have hR := zq_fr.call hR fr117 (zf_sub (by decide +kernel) (fun _ _ _ => trivial))
      have hI118 := zI.frP q_0 L fr117 (fun q hp => by omega)
      have hS0119 := zS0.frP q_1 L (zq_lk L.1 k_h0 rfl (by decide)) fr117 (fun q hq => (fun hp => by have h1 := (hq.trans (L.2.2.2.1 _ k_h0).2.1); omega))
      refine W.eq (g2 := F0 m 43 ls []) rfl ?_
      refine lv_aload_n hx hb dX11_look_43 rfl (lv_at hl 0 rfl) ?_
      refine zq_getr E hM k_h0 (zFX11_59 E hZ) ⟨by decide, by decide, by decide, rfl⟩ dX11_look_44 ?_
      have k120 : zq_k X (zq_r X h0 11) = 2 := zq_lk L.1 k_h0 rfl (by decide)
      refine zq_pcalli (zq_rV (As := []) (rest := []) E hZ hM k120 (c_X1_fitting l X zk (zn) I116 L (zq_r X h0 11) k120) zmX11_274 zM_X1_fitting (hro (0) 3 (by first | decide | omega) (by decide)) ⟨by decide, by decide⟩ rfl hl.1 rfl rfl (Nat.le_of_ble_eq_true rfl) dX11_look_47) hS (fun x122 H locs h121 hM hS => ?_)
      clear h121
      refine lv_if_ne (tgt := 56) hx hb dX11_look_50 (by decide) (fun b123 => ?_) (fun b123 => ?_)
      · have b123 := zi_ne b123 (rfl : x122.toInt = x122.toInt) (zl_0 : (0 : Int32).toInt = 0)
        refine lv_aload_n hx hb dX11_look_56 rfl (lv_at hl 0 rfl) ?_
        refine zq_getr E hM k_h0 (zFX11_59 E hZ) ⟨by decide, by decide, by decide, rfl⟩ dX11_look_57 ?_
        have k124 : zq_k X (zq_r X h0 11) = 2 := zq_lk L.1 k_h0 rfl (by decide)
        refine zq_pcalli (zq_rV (As := []) (rest := []) E hZ hM k124 (c_X1_partingMonth l X zk (zn) I116 L (zq_r X h0 11) k124) zmX11_281 zM_X1_partingMonth (hro (2) 5 (by first | decide | omega) (by decide)) ⟨by decide, by decide⟩ rfl hl.1 rfl rfl (Nat.le_of_ble_eq_true rfl) dX11_look_60) hS (fun x126 H locs h125 hM hS => ?_)
        have p127 := h125
        refine lv_istore_n (lv' := [(2, .int x126), (0, .ref h0), (1, .int p1)]) hx hb dX11_look_63 rfl hl (by decide) rfl (fun ls hl => ?_)
        refine lv_iload_n hx hb dX11_look_64 rfl (lv_at hl 2 rfl) ?_
        refine lv_if_ne (tgt := 72) hx hb dX11_look_65 (by decide) (fun b128 => ?_) (fun b128 => ?_)
        · have b128 := zi_ne b128 (rfl : p1.toInt = p1.toInt) (zl_0 : (0 : Int32).toInt = 0)
          refine lv_aload_n hx hb dX11_look_72 rfl (lv_at hl 1 rfl) ?_
          refine zq_getr E hM k_h0 (zFX11_59 E hZ) ⟨by decide, by decide, by decide, rfl⟩ dX11_look_73 ?_
          have k129 : zq_k X (zq_r X h0 11) = 2 := zq_lk L.1 k_h0 rfl (by decide)
          refine lv_iload_n hx hb dX11_look_76 rfl (lv_at hl 0 rfl) ?_
          refine zq_pcalli (zq_rV (As := [.int x126]) (rest := []) E hZ hM k129 (c_X1_mostAlike l X zk (zn) I116 L (zq_r X h0 11) k129 x126 ⟨by omega, by omega⟩) zmX11_284 zM_X1_mostAlike (hro (1) 6 (by first | decide | omega) (by decide)) ⟨by decide, by decide⟩ rfl hl.1 rfl rfl (Nat.le_of_ble_eq_true rfl) dX11_look_77) hS (fun x131 H locs h130 hM hS => ?_)
          have p132 := h130
          have := zi_rng x131
          subst hQ
          exact zq_iret E hr hZ hM hS ⟨hR, ((zI.mono hI118 (by omega))), (hS0119), (by have := zi_rng x131; omega)⟩ hlocks dX11_look_80
        · have b128 := zi_eq b128 (rfl : p1.toInt = p1.toInt) (zl_0 : (0 : Int32).toInt = 0)
          refine lv_iload_n hx hb dX11_look_68 rfl (lv_at hl 0 rfl) ?_
          refine lv_goto (tgt := 80) hx hb dX11_look_69 (by decide) ?_
          subst hQ
          exact zq_iret E hr hZ hM hS ⟨hR, ((zI.mono hI118 (by omega))), (hS0119), (by omega)⟩ hlocks dX11_look_80
      · have b123 := zi_eq b123 (rfl : x122.toInt = x122.toInt) (zl_0 : (0 : Int32).toInt = 0)
        refine lv_bipush (v := (-2)) hx hb dX11_look_53 (by decide +kernel) ?_
        subst hQ
        exact zq_iret E hr hZ hM hS ⟨hR, ((zI.mono hI118 (by omega))), (hS0119), (by have := zl_m2; omega)⟩ hlocks dX11_look_55
    · have b109 := zi_eq b109 (rfl : x106.toInt = x106.toInt) (zl_0 : (0 : Int32).toInt = 0)
      refine lv_iconst (v := (-1)) hx hb dX11_look_22 (by decide +kernel) ?_
      subst hQ
      exact zq_iret E hr hZ hM hS ⟨hR, ((zI.mono q_0 (by omega))), (q_1), (by have := zl_m1; omega)⟩ hlocks dX11_look_23
def zw_X11_seed : List (Nat × Nat) := [(1, 3)]
set_option maxHeartbeats 8000000 in
set_option maxRecDepth 100000 in
theorem c_X11_seed (l : Launch) (X : zq_X) (zk zn : Nat) (I : zq_M) (L : zq_L X) (ct : Nat) (h0 : Nat) (k_h0 : zq_k X h0 = 9) (p1 : Int32) (q_0 : zI X I ct) (q_1 : zS0 X I (zq_r X h0 4)) (q_2 : ct ≤ 600) : Met l yX11_seed (zt_w yX11_seed cX11_seed 3 (some .int)) (zq_rm (0)) (va_Pc [.ref h0, .int p1] (zq_W X (zk, zn) I)) (va_Qi (fun (r : Int32) I2 => zq_fr (zf X zw_X11_seed (fun _ => True)) I I2 ∧ (zI X I2 (ct + 1)) ∧ (zS0 X I2 (zq_r X h0 4)) ∧ ((p1.toInt < 0 ∧ r.toInt = -1 ∧ I2 (zq_r X h0 3) 3 = I (zq_r X h0 3) 3 ∧ (∀ a, zq_k X a = 1 → a ≠ (zq_r X h0 3) → I2 a 3 = I a 3)) ∨ (0 ≤ p1.toInt ∧ r = I (zq_r X h0 3) 3 ∧ I2 (zq_r X h0 3) 3 = p1 ∧ (∀ a, zq_k X a = 1 → a ≠ (zq_r X h0 3) → I2 a 3 = I a 3)))) (zq_E X (zk, zn)) (zq_A X)) 0 0 (zq_A X) := by
  refine Met.ofW (cc := cX11_seed) (maxL := 3) (ret := (some .int)) (by decide) rfl ?_
  intro p e s m args below meth c s₁ B hml hv
  obtain ⟨hargs, hM, hZ⟩ := hv
  have hown : s.vm.findClass RX11 = some m.cls := findClass_of_methodNamed B.named
  have hts := atoms_spec (ws := zt_w yX11_seed cX11_seed 3 (some .int)) B.pre
  have E : CallFix p m c cX11_seed 3 s args (Cond.code yX11_seed cX11_seed 3 (some .int) :: zt) RX11 := ⟨B.exec, B.bytes, hml, hown, hts⟩
  have hx := B.exec
  have hb := B.bytes
  have hr := B.returns
  have hlocks := B.notSynchronized
  clear B
  have hS : va_S (zq_A X) s.heap s.heap [] := va_S.rf
  have hR : zq_fr (zf X zw_X11_seed (fun _ => True)) I I := zq_fr.rf
  have hl := lv_entry ([.ref h0, .int p1]) (n := 3) (by exact Nat.le_of_ble_eq_true rfl)
  have hg : entryFrame m args 3 = F0 m 0 ((lg_sl ([.ref h0, .int p1]) ++ List.replicate (3 - (lg_sl ([.ref h0, .int p1])).length) Slot.unset).toArray) [] := by rw [hargs]; exact lg_entry_eq m ([.ref h0, .int p1]) 3
  rw [hg]
  clear hg hargs
  generalize (lg_sl ([.ref h0, .int p1]) ++ List.replicate (3 - (lg_sl ([.ref h0, .int p1])).length) Slot.unset).toArray = ls at hl ⊢
  have hl : lv_has ls 3 [(0, .ref h0), (1, .int p1)] := by exact hl
  obtain ⟨R, hRm⟩ : ∃ R : Room, R = (headSpec (zt_w yX11_seed cX11_seed 3 (some .int)) (zq_rm (0))).room := ⟨_, rfl⟩
  rw [← hRm]
  generalize hQ : MQ below _ args s 0 0 (zq_A X) = Q
  obtain ⟨H, hH⟩ : ∃ H, H = s.heap := ⟨_, rfl⟩
  obtain ⟨locs, hlo⟩ : ∃ x : List Loc, x = [] := ⟨_, rfl⟩
  rw [show W p l e R s m args below meth c s.heap [] 0 0 Q = W p l e R s m args below meth c H locs 0 0 Q by rw [hH, hlo]]
  have hM : zq_hm X (zk, zn) I H := by rw [hH]; exact hM
  have hS : va_S (zq_A X) s.heap H locs := by rw [hH, hlo]; exact hS
  clear hH hlo
  refine lv_iload_n hx hb dX11_seed_0 rfl (lv_at hl 1 rfl) ?_
  refine lv_if_ge (tgt := 6) hx hb dX11_seed_1 (by decide) (fun b101 => ?_) (fun b101 => ?_)
  · have b101 := zi_le b101 (zl_0 : (0 : Int32).toInt = 0) (rfl : p1.toInt = p1.toInt)
    refine lv_aload_n hx hb dX11_seed_6 rfl (lv_at hl 0 rfl) ?_
    refine zq_getr E hM k_h0 (zFX11_26 E hZ) ⟨by decide, by decide, by decide, rfl⟩ dX11_seed_7 ?_
    have k102 : zq_k X (zq_r X h0 3) = 1 := zq_lk L.1 k_h0 rfl (by decide)
    refine zq_gn E hM k102 (zFX11_287 E hZ) (Or.inl ⟨by decide, by decide, by decide, rfl⟩) dX11_seed_10 (fun x103 ex103 gx103 => ?_)
    clear gx103
    refine lv_istore_n (lv' := [(2, .int x103), (0, .ref h0), (1, .int p1)]) hx hb dX11_seed_13 rfl hl (by decide) rfl (fun ls hl => ?_)
    refine lv_aload_n hx hb dX11_seed_14 rfl (lv_at hl 1 rfl) ?_
    refine zq_getr E hM k_h0 (zFX11_26 E hZ) ⟨by decide, by decide, by decide, rfl⟩ dX11_seed_15 ?_
    have k104 : zq_k X (zq_r X h0 3) = 1 := zq_lk L.1 k_h0 rfl (by decide)
    refine lv_iload_n hx hb dX11_seed_18 rfl (lv_at hl 2 rfl) ?_
    refine zq_pn E hM hS k104 (zGX11_287 E hZ) ⟨by decide, by decide, by decide, rfl⟩ (zq_any _) dX11_seed_19 (fun I105 H locs eI105 hM hS => ?_)
    have hR := zq_fr.putE hR eI105 (zf_i k104 rfl rfl)
    have hI106 := zI.put q_0 L eI105 k104 (Or.inl ⟨by decide, by decide⟩)
    have hS0107 := zS0.put q_1 L (zq_lk L.1 k_h0 rfl (by decide)) eI105 k104 (Or.inl (by decide))
    refine lv_iload_n hx hb dX11_seed_22 rfl (lv_at hl 0 rfl) ?_
    refine W.eq (g2 := F0 m 23 ls [.int x103]) rfl ?_
    subst hQ
    exact zq_iret E hr hZ hM hS ⟨hR, ((zI.mono hI106 (by omega))), (hS0107), (Or.inr ⟨by omega, (ex103).symm, zq_kv eI105, fun a hk ha => by rw [eI105]; exact zq_up_a ha⟩)⟩ hlocks dX11_seed_23
  · have b101 := zi_nle b101 (zl_0 : (0 : Int32).toInt = 0) (rfl : p1.toInt = p1.toInt)
    refine lv_iconst (v := (-1)) hx hb dX11_seed_4 (by decide +kernel) ?_
    subst hQ
    exact zq_iret E hr hZ hM hS ⟨hR, ((zI.mono q_0 (by omega))), (q_1), (Or.inl ⟨by omega, by decide +kernel, rfl, fun _ _ _ => rfl⟩)⟩ hlocks dX11_seed_5
def zw_X11_years : List (Nat × Nat) := [(3, 3), (5, 0), (5, 1), (5, 2), (5, 3), (5, 4), (5, 5), (7, 0), (7, 1), (7, 2), (7, 3), (7, 4), (7, 5), (7, 6), (8, 0), (8, 1), (8, 2), (8, 3), (8, 4), (8, 5), (8, 6), (30, 999), (34, 999)]
set_option maxHeartbeats 8000000 in
set_option maxRecDepth 100000 in
theorem c_X11_years (l : Launch) (X : zq_X) (zk zn : Nat) (I : zq_M) (L : zq_L X) (ct : Nat) (h0 : Nat) (k_h0 : zq_k X h0 = 9) (p1 : Int32) (p2 : Int32) (p3 : Int32) (q_0 : zI X I ct) (q_1 : zS0 X I (zq_r X h0 4)) (q_2 : ct ≤ 600) : Met l yX11_years (zt_w yX11_years cX11_years 4 (some .int)) (zq_rm (6)) (va_Pc [.ref h0, .int p1, .int p2, .int p3] (zq_W X (zk, zn) I)) (va_Qi (fun (r : Int32) I2 => zq_fr (zf X zw_X11_years (fun _ => True)) I I2 ∧ (zI X I2 (ct + 1)) ∧ (zS0 X I2 (zq_r X h0 4))) (zq_E X (zk, zn)) (zq_A X)) 0 0 (zq_A X) := by
  refine Met.ofW (cc := cX11_years) (maxL := 4) (ret := (some .int)) (by decide) rfl ?_
  intro p e s m args below meth c s₁ B hml hv
  obtain ⟨hargs, hM, hZ⟩ := hv
  have hown : s.vm.findClass RX11 = some m.cls := findClass_of_methodNamed B.named
  have hts := atoms_spec (ws := zt_w yX11_years cX11_years 4 (some .int)) B.pre
  have E : CallFix p m c cX11_years 4 s args (Cond.code yX11_years cX11_years 4 (some .int) :: zt) RX11 := ⟨B.exec, B.bytes, hml, hown, hts⟩
  have hx := B.exec
  have hb := B.bytes
  have hr := B.returns
  have hlocks := B.notSynchronized
  clear B
  have hS : va_S (zq_A X) s.heap s.heap [] := va_S.rf
  have hR : zq_fr (zf X zw_X11_years (fun _ => True)) I I := zq_fr.rf
  have hl := lv_entry ([.ref h0, .int p1, .int p2, .int p3]) (n := 4) (by exact Nat.le_of_ble_eq_true rfl)
  have hg : entryFrame m args 4 = F0 m 0 ((lg_sl ([.ref h0, .int p1, .int p2, .int p3]) ++ List.replicate (4 - (lg_sl ([.ref h0, .int p1, .int p2, .int p3])).length) Slot.unset).toArray) [] := by rw [hargs]; exact lg_entry_eq m ([.ref h0, .int p1, .int p2, .int p3]) 4
  rw [hg]
  clear hg hargs
  generalize (lg_sl ([.ref h0, .int p1, .int p2, .int p3]) ++ List.replicate (4 - (lg_sl ([.ref h0, .int p1, .int p2, .int p3])).length) Slot.unset).toArray = ls at hl ⊢
  have hl : lv_has ls 4 [(0, .ref h0), (1, .int p1), (2, .int p2), (3, .int p3)] := by exact hl
  obtain ⟨R, hRm⟩ : ∃ R : Room, R = (headSpec (zt_w yX11_years cX11_years 4 (some .int)) (zq_rm (6))).room := ⟨_, rfl⟩
  rw [← hRm]
  have hro : ∀ d q : Nat, d + 1 ≤ 6 → q ≤ 45 → zq_rok d q R := fun d q h1 h2 => by rw [hRm]; exact zq_rokI h1 h2
  generalize hQ : MQ below _ args s 0 0 (zq_A X) = Q
  obtain ⟨H, hH⟩ : ∃ H, H = s.heap := ⟨_, rfl⟩
  obtain ⟨locs, hlo⟩ : ∃ x : List Loc, x = [] := ⟨_, rfl⟩
  rw [show W p l e R s m args below meth c s.heap [] 0 0 Q = W p l e R s m args below meth c H locs 0 0 Q by rw [hH, hlo]]
  have hM : zq_hm X (zk, zn) I H := by rw [hH]; exact hM
  have hS : va_S (zq_A X) s.heap H locs := by rw [hH, hlo]; exact hS
  clear hH hlo
  refine lv_aload_n hx hb dX11_years_0 rfl (lv_at hl 0 rfl) ?_
  refine zq_getr E hM k_h0 (zFX11_26 E hZ) ⟨by decide, by decide, by decide, rfl⟩ dX11_years_1 ?_
  have k101 : zq_k X (zq_r X h0 3) = 1 := zq_lk L.1 k_h0 rfl (by decide)
  refine zq_getr E hM k101 (zFX11_95 E hZ) ⟨by decide, by decide, by decide, rfl⟩ dX11_years_4 ?_
  have k102 : zq_k X (zq_r X (zq_r X h0 3) 0) = 8 := zq_lk L.1 k101 rfl (by decide)
  refine zq_gn E hM k102 (zFX11_141 E hZ) (Or.inr ⟨by decide, by decide, by decide, rfl⟩) dX11_years_7 (fun x103 ex103 gx103 => ?_)
  replace gx103 : 0 ≤ x103.toInt ∧ x103.toInt ≤ 1 := gx103
  refine lv_if_eq (tgt := 42) hx hb dX11_years_10 (by decide) (fun b104 => ?_) (fun b104 => ?_)
  · have b104 := zi_eq b104 (rfl : x103.toInt = x103.toInt) (zl_0 : (0 : Int32).toInt = 0)
    refine lv_iconst (v := (-1)) hx hb dX11_years_42 (by decide +kernel) ?_
    subst hQ
    exact zq_iret E hr hZ hM hS ⟨hR, ((zI.mono q_0 (by omega))), (q_1)⟩ hlocks dX11_years_43
  · have b104 := zi_ne b104 (rfl : x103.toInt = x103.toInt) (zl_0 : (0 : Int32).toInt = 0)
    refine lv_iload_n hx hb dX11_years_13 rfl (lv_at hl 1 rfl) ?_
    refine lv_iconst (v := 1) hx hb dX11_years_14 (by decide +kernel) ?_
    refine lv_bipush (v := 10) hx hb dX11_years_15 (by decide +kernel) ?_
    refine zq_pcalli (zq_rS (As := [.int p1, .int (1 : Int32), .int (10 : Int32)]) (rest := []) E hZ hM (c_X11_isWithin l X zk (zn) I L p1 (1 : Int32) (10 : Int32)) zmX11_75 zM_X11_isWithin (hro (0) 3 (by first | decide | omega) (by decide)) hl.1 rfl rfl (Nat.le_of_ble_eq_true rfl) dX11_years_17) hS (fun x106 H locs h105 hM hS => ?_)
    obtain ⟨p107, p108⟩ := h105
    have := zl_1
    have := zl_10
    refine lv_if_eq (tgt := 42) hx hb dX11_years_20 (by decide) (fun b109 => ?_) (fun b109 => ?_)
    · have b109 := zi_eq b109 (rfl : x106.toInt = x106.toInt) (zl_0 : (0 : Int32).toInt = 0)
      refine lv_iconst (v := (-1)) hx hb dX11_years_42 (by decide +kernel) ?_
      subst hQ
      exact zq_iret E hr hZ hM hS ⟨hR, ((zI.mono q_0 (by omega))), (q_1)⟩ hlocks dX11_years_43
    · have b109 := zi_ne b109 (rfl : x106.toInt = x106.toInt) (zl_0 : (0 : Int32).toInt = 0)
      refine lv_iload_n hx hb dX11_years_23 rfl (lv_at hl 2 rfl) ?_
      refine lv_iconst (v := 1) hx hb dX11_years_24 (by decide +kernel) ?_
      refine lv_bipush (v := 60) hx hb dX11_years_25 (by decide +kernel) ?_
      refine zq_pcalli (zq_rS (As := [.int p2, .int (1 : Int32), .int (60 : Int32)]) (rest := []) E hZ hM (c_X11_isWithin l X zk (zn) I L p2 (1 : Int32) (60 : Int32)) zmX11_75 zM_X11_isWithin (hro (0) 3 (by first | decide | omega) (by decide)) hl.1 rfl rfl (Nat.le_of_ble_eq_true rfl) dX11_years_27) hS (fun x111 H locs h110 hM hS => ?_)
      obtain ⟨p112, p113⟩ := h110
      have := zl_1
      have := zl_60
      refine lv_if_eq (tgt := 42) hx hb dX11_years_30 (by decide) (fun b114 => ?_) (fun b114 => ?_)
      · have b114 := zi_eq b114 (rfl : x111.toInt = x111.toInt) (zl_0 : (0 : Int32).toInt = 0)
        refine lv_iconst (v := (-1)) hx hb dX11_years_42 (by decide +kernel) ?_
        subst hQ
        exact zq_iret E hr hZ hM hS ⟨hR, ((zI.mono q_0 (by omega))), (q_1)⟩ hlocks dX11_years_43
      · have b114 := zi_ne b114 (rfl : x111.toInt = x111.toInt) (zl_0 : (0 : Int32).toInt = 0)
        refine lv_iload_n hx hb dX11_years_33 rfl (lv_at hl 3 rfl) ?_
        refine lv_iconst (v := 0) hx hb dX11_years_34 (by decide +kernel) ?_
        refine lv_iconst (v := 1) hx hb dX11_years_35 (by decide +kernel) ?_
        refine zq_pcalli (zq_rS (As := [.int p3, .int (0 : Int32), .int (1 : Int32)]) (rest := []) E hZ hM (c_X11_isWithin l X zk (zn) I L p3 (0 : Int32) (1 : Int32)) zmX11_75 zM_X11_isWithin (hro (0) 3 (by first | decide | omega) (by decide)) hl.1 rfl rfl (Nat.le_of_ble_eq_true rfl) dX11_years_36) hS (fun x116 H locs h115 hM hS => ?_)
        obtain ⟨p117, p118⟩ := h115
        have := zl_0
        have := zl_1
        refine lv_if_ne (tgt := 44) hx hb dX11_years_39 (by decide) (fun b119 => ?_) (fun b119 => ?_)
        · have b119 := zi_ne b119 (rfl : x116.toInt = x116.toInt) (zl_0 : (0 : Int32).toInt = 0)
          refine lv_aload_n hx hb dX11_years_44 rfl (lv_at hl 0 rfl) ?_
          refine zq_getr E hM k_h0 (zFX11_52 E hZ) ⟨by decide, by decide, by decide, rfl⟩ dX11_years_45 ?_
          have k120 : zq_k X (zq_r X h0 10) = 3 := zq_lk L.1 k_h0 rfl (by decide)
          refine lv_aload_n hx hb dX11_years_48 rfl (lv_at hl 0 rfl) ?_
          refine zq_getr E hM k_h0 (zFX11_26 E hZ) ⟨by decide, by decide, by decide, rfl⟩ dX11_years_49 ?_
          have k121 : zq_k X (zq_r X h0 3) = 1 := zq_lk L.1 k_h0 rfl (by decide)
          refine lv_aload_n hx hb dX11_years_52 rfl (lv_at hl 0 rfl) ?_
          refine zq_call_o (aa := #[]) (zq_rV (As := []) (rest := [.ref (zq_r X h0 3), .ref (zq_r X h0 10)]) E hZ hM k_h0 (c_X11_ruleInForce l X zk (zn) I L h0 k_h0) zmX11_151 zM_X11_ruleInForce (hro (1) 1 (by first | decide | omega) (by decide)) ⟨by decide, by decide⟩ rfl hl.1 rfl rfl (Nat.le_of_ble_eq_true rfl) dX11_years_53) hS (fun y123 I124 H locs h122 hqy123 hM hS => ?_)
          obtain ⟨fr125, p126⟩ := h122
          rw [fr125] at hM
          refine lv_iload_n hx hb dX11_years_56 rfl (lv_at hl 1 rfl) ?_
          refine lv_iload_n hx hb dX11_years_57 rfl (lv_at hl 2 rfl) ?_
          refine zq_callv (zq_rV (As := [.ref (zq_r X h0 3), va_rf y123, .int p1, .int p2]) (rest := []) E hZ hM k120 (c_X2_drawYears l X zk (zn) I L (297 * (((ct : Nat)) : Int)) (zq_r X h0 10) k120 (zq_r X h0 3) k121 y123 hqy123 p1 p2 ⟨by omega, by omega⟩ ⟨by omega, by omega⟩ (zI.bn q_0 L k121) ((L.2.2.2.1 _ k_h0).1) (by omega)) zmX11_290 zM_X2_drawYears (hro (5) 9 (by first | decide | omega) (by decide)) ⟨by decide, by decide⟩ rfl hl.1 rfl rfl (Nat.le_of_ble_eq_true rfl) dX11_years_58) hS (fun I129 H locs h127 hM hS => ?_)
          have fr130 := h127
          have hR := zq_fr.call hR fr130 (zf_sub (by decide +kernel) (fun _ _ _ => trivial))
          have hI131 := zI.frP q_0 L fr130 (fun q hp => by omega)
          have hS0132 := zS0.frP q_1 L (zq_lk L.1 k_h0 rfl (by decide)) fr130 (fun q hq => (fun hp => by have h1 := (hq.trans (L.2.2.2.1 _ k_h0).2.1); omega))
          refine W.eq (g2 := F0 m 61 ls []) rfl ?_
          refine lv_aload_n hx hb dX11_years_61 rfl (lv_at hl 0 rfl) ?_
          refine zq_getr E hM k_h0 (zFX11_52 E hZ) ⟨by decide, by decide, by decide, rfl⟩ dX11_years_62 ?_
          have k133 : zq_k X (zq_r X h0 10) = 3 := zq_lk L.1 k_h0 rfl (by decide)
          refine zq_getr E hM k133 (zFX11_233 E hZ) ⟨by decide, by decide, by decide, rfl⟩ dX11_years_65 ?_
          have k134 : zq_k X (zq_r X (zq_r X h0 10) 1) = 34 := zq_lk L.1 k133 rfl (by decide)
          refine lv_iload_n hx hb dX11_years_68 rfl (lv_at hl 3 rfl) ?_
          refine zq_ian (n := 4) (j := (p3.toNatClampNeg)) E hZ hM k134 ⟨by decide, rfl⟩ ⟨by omega, by omega⟩ rfl dX11_years_69 (fun x135 ex135 gx135 => ?_)
          clear gx135
          subst hQ
          exact zq_iret E hr hZ hM hS ⟨hR, ((zI.mono hI131 (by omega))), (hS0132)⟩ hlocks dX11_years_70
        · have b119 := zi_eq b119 (rfl : x116.toInt = x116.toInt) (zl_0 : (0 : Int32).toInt = 0)
          refine lv_iconst (v := (-1)) hx hb dX11_years_42 (by decide +kernel) ?_
          subst hQ
          exact zq_iret E hr hZ hM hS ⟨hR, ((zI.mono q_0 (by omega))), (q_1)⟩ hlocks dX11_years_43
set_option maxHeartbeats 8000000 in
set_option maxRecDepth 100000 in
theorem c_X11_count (l : Launch) (X : zq_X) (zk zn : Nat) (I : zq_M) (L : zq_L X) (ct : Nat) (h0 : Nat) (k_h0 : zq_k X h0 = 9) (p1 : Int32) (q_0 : zI X I ct) (q_1 : zS0 X I (zq_r X h0 4)) (q_2 : ct ≤ 600) : Met l yX11_count (zt_w yX11_count cX11_count 3 (some .int)) (zq_rm (3)) (va_Pc [.ref h0, .int p1] (zq_W X (zk, zn) I)) (va_Qi (fun (r : Int32) I2 => I2 = I ∧ (zI X I2 (ct + 1)) ∧ (zS0 X I2 (zq_r X h0 4))) (zq_E X (zk, zn)) (zq_A X)) 0 0 (zq_A X) := by
  refine Met.ofW (cc := cX11_count) (maxL := 3) (ret := (some .int)) (by decide) rfl ?_
  intro p e s m args below meth c s₁ B hml hv
  obtain ⟨hargs, hM, hZ⟩ := hv
  have hown : s.vm.findClass RX11 = some m.cls := findClass_of_methodNamed B.named
  have hts := atoms_spec (ws := zt_w yX11_count cX11_count 3 (some .int)) B.pre
  have E : CallFix p m c cX11_count 3 s args (Cond.code yX11_count cX11_count 3 (some .int) :: zt) RX11 := ⟨B.exec, B.bytes, hml, hown, hts⟩
  have hx := B.exec
  have hb := B.bytes
  have hr := B.returns
  have hlocks := B.notSynchronized
  clear B
  have hS : va_S (zq_A X) s.heap s.heap [] := va_S.rf
  have hl := lv_entry ([.ref h0, .int p1]) (n := 3) (by exact Nat.le_of_ble_eq_true rfl)
  have hg : entryFrame m args 3 = F0 m 0 ((lg_sl ([.ref h0, .int p1]) ++ List.replicate (3 - (lg_sl ([.ref h0, .int p1])).length) Slot.unset).toArray) [] := by rw [hargs]; exact lg_entry_eq m ([.ref h0, .int p1]) 3
  rw [hg]
  clear hg hargs
  generalize (lg_sl ([.ref h0, .int p1]) ++ List.replicate (3 - (lg_sl ([.ref h0, .int p1])).length) Slot.unset).toArray = ls at hl ⊢
  have hl : lv_has ls 3 [(0, .ref h0), (1, .int p1)] := by exact hl
  obtain ⟨R, hRm⟩ : ∃ R : Room, R = (headSpec (zt_w yX11_count cX11_count 3 (some .int)) (zq_rm (3))).room := ⟨_, rfl⟩
  rw [← hRm]
  have hro : ∀ d q : Nat, d + 1 ≤ 3 → q ≤ 45 → zq_rok d q R := fun d q h1 h2 => by rw [hRm]; exact zq_rokI h1 h2
  generalize hQ : MQ below _ args s 0 0 (zq_A X) = Q
  obtain ⟨H, hH⟩ : ∃ H, H = s.heap := ⟨_, rfl⟩
  obtain ⟨locs, hlo⟩ : ∃ x : List Loc, x = [] := ⟨_, rfl⟩
  rw [show W p l e R s m args below meth c s.heap [] 0 0 Q = W p l e R s m args below meth c H locs 0 0 Q by rw [hH, hlo]]
  have hM : zq_hm X (zk, zn) I H := by rw [hH]; exact hM
  have hS : va_S (zq_A X) s.heap H locs := by rw [hH, hlo]; exact hS
  clear hH hlo
  refine lv_aload_n hx hb dX11_count_0 rfl (lv_at hl 0 rfl) ?_
  refine zq_getr E hM k_h0 (zFX11_26 E hZ) ⟨by decide, by decide, by decide, rfl⟩ dX11_count_1 ?_
  have k101 : zq_k X (zq_r X h0 3) = 1 := zq_lk L.1 k_h0 rfl (by decide)
  refine zq_getr E hM k101 (zFX11_95 E hZ) ⟨by decide, by decide, by decide, rfl⟩ dX11_count_4 ?_
  have k102 : zq_k X (zq_r X (zq_r X h0 3) 0) = 8 := zq_lk L.1 k101 rfl (by decide)
  refine lv_astore_n (lv' := [(2, .ref (zq_r X (zq_r X h0 3) 0)), (0, .ref h0), (1, .int p1)]) hx hb dX11_count_7 rfl hl (by decide) rfl (fun ls hl => ?_)
  refine lv_iload_n hx hb dX11_count_8 rfl (lv_at hl 2 rfl) ?_
  by_cases c103 : p1.toInt < 0 ∨ 15 < p1.toInt
  · refine lv_tableOut (tgt := 180) hx hb dX11_count_9 c103 (by decide) ?_
    refine lv_iconst (v := (-1)) hx hb dX11_count_180 (by decide +kernel) ?_
    subst hQ
    exact zq_iret E hr hZ hM hS ⟨rfl, ((zI.mono q_0 (by omega))), (q_1)⟩ hlocks dX11_count_181
  · have c103 : p1.toInt = 0 ∨ p1.toInt = 1 ∨ p1.toInt = 2 ∨ p1.toInt = 3 ∨ p1.toInt = 4 ∨ p1.toInt = 5 ∨ p1.toInt = 6 ∨ p1.toInt = 7 ∨ p1.toInt = 8 ∨ p1.toInt = 9 ∨ p1.toInt = 10 ∨ p1.toInt = 11 ∨ p1.toInt = 12 ∨ p1.toInt = 13 ∨ p1.toInt = 14 ∨ p1.toInt = 15 := by omega
    rcases c103 with c103 | c103 | c103 | c103 | c103 | c103 | c103 | c103 | c103 | c103 | c103 | c103 | c103 | c103 | c103 | c103
    · refine lv_tableIn (tgt := 88) hx hb dX11_count_9 (by omega) (by omega) (by rw [c103]; rfl) (by decide) ?_
      refine lv_aload_n hx hb dX11_count_88 rfl (lv_at hl 0 rfl) ?_
      refine zq_gn E hM k102 (zFX11_167 E hZ) (Or.inl ⟨by decide, by decide, by decide, rfl⟩) dX11_count_89 (fun x104 ex104 gx104 => ?_)
      clear gx104
      subst hQ
      exact zq_iret E hr hZ hM hS ⟨rfl, ((zI.mono q_0 (by omega))), (q_1)⟩ hlocks dX11_count_92
    · refine lv_tableIn (tgt := 93) hx hb dX11_count_9 (by omega) (by omega) (by rw [c103]; rfl) (by decide) ?_
      refine lv_aload_n hx hb dX11_count_93 rfl (lv_at hl 0 rfl) ?_
      refine zq_gn E hM k102 (zFX11_294 E hZ) (Or.inl ⟨by decide, by decide, by decide, rfl⟩) dX11_count_94 (fun x105 ex105 gx105 => ?_)
      clear gx105
      subst hQ
      exact zq_iret E hr hZ hM hS ⟨rfl, ((zI.mono q_0 (by omega))), (q_1)⟩ hlocks dX11_count_97
    · refine lv_tableIn (tgt := 98) hx hb dX11_count_9 (by omega) (by omega) (by rw [c103]; rfl) (by decide) ?_
      refine lv_aload_n hx hb dX11_count_98 rfl (lv_at hl 0 rfl) ?_
      refine zq_gn E hM k102 (zFX11_210 E hZ) (Or.inl ⟨by decide, by decide, by decide, rfl⟩) dX11_count_99 (fun x106 ex106 gx106 => ?_)
      clear gx106
      subst hQ
      exact zq_iret E hr hZ hM hS ⟨rfl, ((zI.mono q_0 (by omega))), (q_1)⟩ hlocks dX11_count_102
    · refine lv_tableIn (tgt := 103) hx hb dX11_count_9 (by omega) (by omega) (by rw [c103]; rfl) (by decide) ?_
      refine lv_aload_n hx hb dX11_count_103 rfl (lv_at hl 0 rfl) ?_
      refine zq_gn E hM k102 (zFX11_297 E hZ) (Or.inl ⟨by decide, by decide, by decide, rfl⟩) dX11_count_104 (fun x107 ex107 gx107 => ?_)
      replace gx107 : 0 ≤ x107.toInt ∧ x107.toInt ≤ 3 := gx107
      subst hQ
      exact zq_iret E hr hZ hM hS ⟨rfl, ((zI.mono q_0 (by omega))), (q_1)⟩ hlocks dX11_count_107
    · refine lv_tableIn (tgt := 108) hx hb dX11_count_9 (by omega) (by omega) (by rw [c103]; rfl) (by decide) ?_
      refine lv_aload_n hx hb dX11_count_108 rfl (lv_at hl 0 rfl) ?_
      refine zq_gn E hM k102 (zFX11_98 E hZ) (Or.inl ⟨by decide, by decide, by decide, rfl⟩) dX11_count_109 (fun x108 ex108 gx108 => ?_)
      replace gx108 : 0 ≤ x108.toInt ∧ x108.toInt ≤ 4 := gx108
      subst hQ
      exact zq_iret E hr hZ hM hS ⟨rfl, ((zI.mono q_0 (by omega))), (q_1)⟩ hlocks dX11_count_112
    · refine lv_tableIn (tgt := 113) hx hb dX11_count_9 (by omega) (by omega) (by rw [c103]; rfl) (by decide) ?_
      refine lv_aload_n hx hb dX11_count_113 rfl (lv_at hl 1 rfl) ?_
      refine zq_gn E hM k_h0 (zFX11_101 E hZ) (Or.inl ⟨by decide, by decide, by decide, rfl⟩) dX11_count_114 (fun x109 ex109 gx109 => ?_)
      replace gx109 : 0 ≤ x109.toInt ∧ x109.toInt ≤ 6 := gx109
      subst hQ
      exact zq_iret E hr hZ hM hS ⟨rfl, ((zI.mono q_0 (by omega))), (q_1)⟩ hlocks dX11_count_117
    · refine lv_tableIn (tgt := 118) hx hb dX11_count_9 (by omega) (by omega) (by rw [c103]; rfl) (by decide) ?_
      refine lv_aload_n hx hb dX11_count_118 rfl (lv_at hl 1 rfl) ?_
      refine zq_getr E hM k_h0 (zFX11_26 E hZ) ⟨by decide, by decide, by decide, rfl⟩ dX11_count_119 ?_
      have k110 : zq_k X (zq_r X h0 3) = 1 := zq_lk L.1 k_h0 rfl (by decide)
      refine zq_gn E hM k110 (zFX11_109 E hZ) (Or.inl ⟨by decide, by decide, by decide, rfl⟩) dX11_count_122 (fun x111 ex111 gx111 => ?_)
      clear gx111
      subst hQ
      exact zq_iret E hr hZ hM hS ⟨rfl, ((zI.mono q_0 (by omega))), (q_1)⟩ hlocks dX11_count_125
    · refine lv_tableIn (tgt := 126) hx hb dX11_count_9 (by omega) (by omega) (by rw [c103]; rfl) (by decide) ?_
      refine lv_aload_n hx hb dX11_count_126 rfl (lv_at hl 0 rfl) ?_
      refine zq_gn E hM k102 (zFX11_145 E hZ) (Or.inl ⟨by decide, by decide, by decide, rfl⟩) dX11_count_127 (fun x112 ex112 gx112 => ?_)
      clear gx112
      subst hQ
      exact zq_iret E hr hZ hM hS ⟨rfl, ((zI.mono q_0 (by omega))), (q_1)⟩ hlocks dX11_count_130
    · refine lv_tableIn (tgt := 131) hx hb dX11_count_9 (by omega) (by omega) (by rw [c103]; rfl) (by decide) ?_
      refine lv_aload_n hx hb dX11_count_131 rfl (lv_at hl 0 rfl) ?_
      refine zq_pcalli (zq_rV (As := []) (rest := []) E hZ hM k102 (c_X10_homeBits l X zk (zn) I L (zq_r X (zq_r X h0 3) 0) k102) zmX11_300 zM_X10_homeBits (hro (2) 3 (by first | decide | omega) (by decide)) ⟨by decide, by decide⟩ rfl hl.1 rfl rfl (Nat.le_of_ble_eq_true rfl) dX11_count_132) hS (fun x114 H locs h113 hM hS => ?_)
      clear h113
      subst hQ
      exact zq_iret E hr hZ hM hS ⟨rfl, ((zI.mono q_0 (by omega))), (q_1)⟩ hlocks dX11_count_135
    · refine lv_tableIn (tgt := 136) hx hb dX11_count_9 (by omega) (by omega) (by rw [c103]; rfl) (by decide) ?_
      refine lv_aload_n hx hb dX11_count_136 rfl (lv_at hl 0 rfl) ?_
      refine zq_pcalli (zq_rV (As := []) (rest := []) E hZ hM k102 (c_X10_blocksAtSea l X zk (zn) I L (zq_r X (zq_r X h0 3) 0) k102) zmX11_303 zM_X10_blocksAtSea (hro (0) 3 (by first | decide | omega) (by decide)) ⟨by decide, by decide⟩ rfl hl.1 rfl rfl (Nat.le_of_ble_eq_true rfl) dX11_count_137) hS (fun x116 H locs h115 hM hS => ?_)
      clear h115
      subst hQ
      exact zq_iret E hr hZ hM hS ⟨rfl, ((zI.mono q_0 (by omega))), (q_1)⟩ hlocks dX11_count_140
    · refine lv_tableIn (tgt := 141) hx hb dX11_count_9 (by omega) (by omega) (by rw [c103]; rfl) (by decide) ?_
      refine lv_aload_n hx hb dX11_count_141 rfl (lv_at hl 0 rfl) ?_
      refine zq_pcalli (zq_rV (As := []) (rest := []) E hZ hM k102 (c_X10_soldSoFar l X zk (zn) I L (zq_r X (zq_r X h0 3) 0) k102) zmX11_306 zM_X10_soldSoFar (hro (0) 3 (by first | decide | omega) (by decide)) ⟨by decide, by decide⟩ rfl hl.1 rfl rfl (Nat.le_of_ble_eq_true rfl) dX11_count_142) hS (fun x118 H locs h117 hM hS => ?_)
      clear h117
      subst hQ
      exact zq_iret E hr hZ hM hS ⟨rfl, ((zI.mono q_0 (by omega))), (q_1)⟩ hlocks dX11_count_145
    · refine lv_tableIn (tgt := 146) hx hb dX11_count_9 (by omega) (by omega) (by rw [c103]; rfl) (by decide) ?_
      refine lv_aload_n hx hb dX11_count_146 rfl (lv_at hl 0 rfl) ?_
      refine zq_pcalli (zq_rV (As := []) (rest := []) E hZ hM k102 (c_X10_houseBits l X zk (zn) I L (zq_r X (zq_r X h0 3) 0) k102) zmX11_309 zM_X10_houseBits (hro (0) 3 (by first | decide | omega) (by decide)) ⟨by decide, by decide⟩ rfl hl.1 rfl rfl (Nat.le_of_ble_eq_true rfl) dX11_count_147) hS (fun x120 H locs h119 hM hS => ?_)
      clear h119
      subst hQ
      exact zq_iret E hr hZ hM hS ⟨rfl, ((zI.mono q_0 (by omega))), (q_1)⟩ hlocks dX11_count_150
    · refine lv_tableIn (tgt := 151) hx hb dX11_count_9 (by omega) (by omega) (by rw [c103]; rfl) (by decide) ?_
      refine lv_aload_n hx hb dX11_count_151 rfl (lv_at hl 1 rfl) ?_
      refine zq_getr E hM k_h0 (zFX11_26 E hZ) ⟨by decide, by decide, by decide, rfl⟩ dX11_count_152 ?_
      have k121 : zq_k X (zq_r X h0 3) = 1 := zq_lk L.1 k_h0 rfl (by decide)
      refine zq_gn E hM k121 (zFX11_262 E hZ) (Or.inl ⟨by decide, by decide, by decide, rfl⟩) dX11_count_155 (fun x122 ex122 gx122 => ?_)
      replace gx122 : 0 ≤ x122.toInt ∧ x122.toInt ≤ 10 := gx122
      subst hQ
      exact zq_iret E hr hZ hM hS ⟨rfl, ((zI.mono q_0 (by omega))), (q_1)⟩ hlocks dX11_count_158
    · refine lv_tableIn (tgt := 159) hx hb dX11_count_9 (by omega) (by omega) (by rw [c103]; rfl) (by decide) ?_
      refine lv_aload_n hx hb dX11_count_159 rfl (lv_at hl 1 rfl) ?_
      refine zq_gn E hM k_h0 (zFX11_191 E hZ) (Or.inl ⟨by decide, by decide, by decide, rfl⟩) dX11_count_160 (fun x123 ex123 gx123 => ?_)
      clear gx123
      subst hQ
      exact zq_iret E hr hZ hM hS ⟨rfl, ((zI.mono q_0 (by omega))), (q_1)⟩ hlocks dX11_count_163
    · refine lv_tableIn (tgt := 164) hx hb dX11_count_9 (by omega) (by omega) (by rw [c103]; rfl) (by decide) ?_
      refine lv_aload_n hx hb dX11_count_164 rfl (lv_at hl 1 rfl) ?_
      refine zq_getr E hM k_h0 (zFX11_26 E hZ) ⟨by decide, by decide, by decide, rfl⟩ dX11_count_165 ?_
      have k124 : zq_k X (zq_r X h0 3) = 1 := zq_lk L.1 k_h0 rfl (by decide)
      refine zq_gn E hM k124 (zFX11_287 E hZ) (Or.inl ⟨by decide, by decide, by decide, rfl⟩) dX11_count_168 (fun x125 ex125 gx125 => ?_)
      clear gx125
      subst hQ
      exact zq_iret E hr hZ hM hS ⟨rfl, ((zI.mono q_0 (by omega))), (q_1)⟩ hlocks dX11_count_171
    · refine lv_tableIn (tgt := 172) hx hb dX11_count_9 (by omega) (by omega) (by rw [c103]; rfl) (by decide) ?_
      refine lv_aload_n hx hb dX11_count_172 rfl (lv_at hl 1 rfl) ?_
      refine zq_getr E hM k_h0 (zFX11_10 E hZ) ⟨by decide, by decide, by decide, rfl⟩ dX11_count_173 ?_
      have k126 : zq_k X (zq_r X h0 0) = 6 := zq_lk L.1 k_h0 rfl (by decide)
      refine zq_gn E hM k126 (zFX11_71 E hZ) (Or.inl ⟨by decide, by decide, by decide, rfl⟩) dX11_count_176 (fun x127 ex127 gx127 => ?_)
      replace gx127 : 0 ≤ x127.toInt ∧ x127.toInt ≤ 400 := gx127
      subst hQ
      exact zq_iret E hr hZ hM hS ⟨rfl, ((zI.mono q_0 (by omega))), (q_1)⟩ hlocks dX11_count_179
def zw_X11_image : List (Nat × Nat) := [(1, 2), (1, 3), (1, 6), (5, 0), (5, 1), (5, 2), (5, 3), (5, 4), (5, 5), (7, 0), (7, 1), (7, 2), (7, 3), (7, 4), (7, 5), (7, 6), (8, 0), (8, 1), (8, 2), (8, 3), (8, 4), (8, 5), (8, 6), (30, 999), (33, 999), (41, 999)]
set_option maxHeartbeats 8000000 in
set_option maxRecDepth 100000 in
theorem c_X11_image (l : Launch) (X : zq_X) (zk zn : Nat) (I : zq_M) (L : zq_L X) (ct : Nat) (h0 : Nat) (k_h0 : zq_k X h0 = 9) (p1 : Int32) (q_0 : zI X I ct) (q_1 : zS0 X I (zq_r X h0 4)) (q_2 : ct ≤ 600) : Met l yX11_image (zt_w yX11_image cX11_image 2 (some .int)) (zq_rm (3)) (va_Pc [.ref h0, .int p1] (zq_W X (zk, zn) I)) (va_Qi (fun (r : Int32) I2 => zq_fr (zf X zw_X11_image (fun _ => True)) I I2 ∧ (zI X I2 (ct + 1)) ∧ (zS0 X I2 (zq_r X h0 4)) ∧ (((p1.toInt < 0 ∨ 3 < p1.toInt) ∧ (∀ a, zq_k X a = 1 → I2 a 3 = I a 3) ∧ (∀ i, I2 (zq_r X h0 6) i = I (zq_r X h0 6) i)) ∨ (0 ≤ p1.toInt ∧ p1.toInt ≤ 3 ∧ I2 (zq_r X (zq_r X h0 5) p1.toNatClampNeg) 3 = I (zq_r X h0 3) 3 ∧ (∀ a, zq_k X a = 1 → a ≠ (zq_r X (zq_r X h0 5) p1.toNatClampNeg) → I2 a 3 = I a 3) ∧ I2 (zq_r X h0 6) p1.toNatClampNeg = 1 ∧ (∀ i, i ≠ p1.toNatClampNeg → I2 (zq_r X h0 6) i = I (zq_r X h0 6) i)))) (zq_E X (zk, zn)) (zq_A X)) 0 0 (zq_A X) := by
  refine Met.ofW (cc := cX11_image) (maxL := 2) (ret := (some .int)) (by decide) rfl ?_
  intro p e s m args below meth c s₁ B hml hv
  obtain ⟨hargs, hM, hZ⟩ := hv
  have hown : s.vm.findClass RX11 = some m.cls := findClass_of_methodNamed B.named
  have hts := atoms_spec (ws := zt_w yX11_image cX11_image 2 (some .int)) B.pre
  have E : CallFix p m c cX11_image 2 s args (Cond.code yX11_image cX11_image 2 (some .int) :: zt) RX11 := ⟨B.exec, B.bytes, hml, hown, hts⟩
  have hx := B.exec
  have hb := B.bytes
  have hr := B.returns
  have hlocks := B.notSynchronized
  clear B
  have hS : va_S (zq_A X) s.heap s.heap [] := va_S.rf
  have hR : zq_fr (zf X zw_X11_image (fun _ => True)) I I := zq_fr.rf
  have hl := lv_entry ([.ref h0, .int p1]) (n := 2) (by exact Nat.le_of_ble_eq_true rfl)
  have hg : entryFrame m args 2 = F0 m 0 ((lg_sl ([.ref h0, .int p1]) ++ List.replicate (2 - (lg_sl ([.ref h0, .int p1])).length) Slot.unset).toArray) [] := by rw [hargs]; exact lg_entry_eq m ([.ref h0, .int p1]) 2
  rw [hg]
  clear hg hargs
  generalize (lg_sl ([.ref h0, .int p1]) ++ List.replicate (2 - (lg_sl ([.ref h0, .int p1])).length) Slot.unset).toArray = ls at hl ⊢
  have hl : lv_has ls 2 [(0, .ref h0), (1, .int p1)] := by exact hl
  obtain ⟨R, hRm⟩ : ∃ R : Room, R = (headSpec (zt_w yX11_image cX11_image 2 (some .int)) (zq_rm (3))).room := ⟨_, rfl⟩
  rw [← hRm]
  have hro : ∀ d q : Nat, d + 1 ≤ 3 → q ≤ 45 → zq_rok d q R := fun d q h1 h2 => by rw [hRm]; exact zq_rokI h1 h2
  generalize hQ : MQ below _ args s 0 0 (zq_A X) = Q
  obtain ⟨H, hH⟩ : ∃ H, H = s.heap := ⟨_, rfl⟩
  obtain ⟨locs, hlo⟩ : ∃ x : List Loc, x = [] := ⟨_, rfl⟩
  rw [show W p l e R s m args below meth c s.heap [] 0 0 Q = W p l e R s m args below meth c H locs 0 0 Q by rw [hH, hlo]]
  have hM : zq_hm X (zk, zn) I H := by rw [hH]; exact hM
  have hS : va_S (zq_A X) s.heap H locs := by rw [hH, hlo]; exact hS
  clear hH hlo
  refine lv_iload_n hx hb dX11_image_0 rfl (lv_at hl 1 rfl) ?_
  refine lv_iconst (v := 0) hx hb dX11_image_1 (by decide +kernel) ?_
  refine lv_aload_n hx hb dX11_image_2 rfl (lv_at hl 0 rfl) ?_
  refine zq_getr E hM k_h0 (zFX11_37 E hZ) ⟨by decide, by decide, by decide, rfl⟩ dX11_image_3 ?_
  have k101 : zq_k X (zq_r X h0 5) = 40 := zq_lk L.1 k_h0 rfl (by decide)
  refine zq_alen (n := 4) (t := 6) (v := 4) E hZ hM k101 ⟨by decide, rfl⟩ (by decide) (by decide +kernel) dX11_image_6 ?_
  refine lv_iconst (v := 1) hx hb dX11_image_7 (by decide +kernel) ?_
  refine lv_isub hx hb dX11_image_8 ?_
  refine lv_topi (fun x102 ex102 => ?_)
  have tx102 := zi_sub ex102 (zl_4 : (4 : Int32).toInt = 4) (zl_1 : (1 : Int32).toInt = 1) ⟨by omega, by omega⟩
  refine zq_pcalli (zq_rS (As := [.int p1, .int (0 : Int32), .int x102]) (rest := []) E hZ hM (c_X11_isWithin l X zk (zn) I L p1 (0 : Int32) x102) zmX11_75 zM_X11_isWithin (hro (0) 3 (by first | decide | omega) (by decide)) hl.1 rfl rfl (Nat.le_of_ble_eq_true rfl) dX11_image_9) hS (fun x104 H locs h103 hM hS => ?_)
  obtain ⟨p105, p106⟩ := h103
  have := zl_0
  refine lv_if_ne (tgt := 17) hx hb dX11_image_12 (by decide) (fun b107 => ?_) (fun b107 => ?_)
  · have b107 := zi_ne b107 (rfl : x104.toInt = x104.toInt) (zl_0 : (0 : Int32).toInt = 0)
    refine lv_aload_n hx hb dX11_image_17 rfl (lv_at hl 0 rfl) ?_
    refine zq_getr E hM k_h0 (zFX11_37 E hZ) ⟨by decide, by decide, by decide, rfl⟩ dX11_image_18 ?_
    have k108 : zq_k X (zq_r X h0 5) = 40 := zq_lk L.1 k_h0 rfl (by decide)
    refine lv_iload_n hx hb dX11_image_21 rfl (lv_at hl 1 rfl) ?_
    refine zq_rald (n := 4) (t := 6) (j := (p1.toNatClampNeg)) E hZ hM k108 ⟨by decide, rfl⟩ ⟨rfl, by decide, by decide⟩ ⟨by omega, by omega⟩ rfl dX11_image_22 ?_
    have k109 : zq_k X (zq_r X (zq_r X h0 5) (p1.toNatClampNeg)) = 1 := zq_lay_a L.1 k108 (n := 4) (zq_inn (i := p1) (n := 4) ⟨by omega, by omega⟩) (by decide) (by decide)
    have := (zq_inn (i := p1) (n := 4) ⟨by omega, by omega⟩)
    refine lv_aload_n hx hb dX11_image_23 rfl (lv_at hl 0 rfl) ?_
    refine zq_getr E hM k_h0 (zFX11_26 E hZ) ⟨by decide, by decide, by decide, rfl⟩ dX11_image_24 ?_
    have k110 : zq_k X (zq_r X h0 3) = 1 := zq_lk L.1 k_h0 rfl (by decide)
    refine zq_callv (zq_rV (As := [.ref (zq_r X h0 3)]) (rest := []) E hZ hM k109 (c_X0_copyFrom l X zk (zn) I L (297 * (((ct : Nat)) : Int)) (zq_r X (zq_r X h0 5) (p1.toNatClampNeg)) k109 (zq_r X h0 3) k110 (zI.bn q_0 L k110) (zI.bb q_0 L k110) (fun hq => by have h1 := ((L.2.2.2.1 _ k_h0).2.2.1 _ (zq_inn (i := p1) (n := 4) ⟨by omega, by omega⟩)); have h2 := (L.2.2.2.1 _ k_h0).1; omega)) zmX11_312 zM_X0_copyFrom (hro (2) 2 (by first | decide | omega) (by decide)) ⟨by decide, by decide⟩ rfl hl.1 rfl rfl (Nat.le_of_ble_eq_true rfl) dX11_image_27) hS (fun I113 H locs h111 hM hS => ?_)
    obtain ⟨fr114, p115, p116, p117, p118⟩ := h111
    have hR := zq_fr.call hR fr114 (zf_sub (by decide +kernel) (fun _ _ _ => trivial))
    have hI119 := zI.two q_0 L k109 fr114 (p115) (p116)
    have hS0120 := zS0.frP q_1 L (zq_lk L.1 k_h0 rfl (by decide)) fr114 (fun q hq => (fun hp => hp.elim (fun hp => by have h3 := (L.2.2.1 _ k109).1; have h1 := (hq.trans (L.2.2.2.1 _ k_h0).2.1); omega) (fun hp => by have h3 := (L.2.2.1 _ k109).1; have h1 := (hq.trans (L.2.2.2.1 _ k_h0).2.1); omega)))
    refine lv_aload_n hx hb dX11_image_30 rfl (lv_at hl 0 rfl) ?_
    refine zq_getr E hM k_h0 (zFX11_41 E hZ) ⟨by decide, by decide, by decide, rfl⟩ dX11_image_31 ?_
    have k121 : zq_k X (zq_r X h0 6) = 41 := zq_lk L.1 k_h0 rfl (by decide)
    refine W.eq (g2 := F0 m 34 ls [.ref (zq_r X h0 6)]) rfl ?_
    refine lv_iload_n hx hb dX11_image_34 rfl (lv_at hl 1 rfl) ?_
    refine lv_iconst (v := 1) hx hb dX11_image_35 (by decide +kernel) ?_
    refine zq_zsn (n := 4) (j := (p1.toNatClampNeg)) E hZ hM hS k121 ⟨by decide, rfl⟩ ⟨by omega, by omega⟩ rfl (show 0 ≤ (1 : Int32).toInt ∧ (1 : Int32).toInt ≤ 1 by decide +kernel) rfl dX11_image_36 (fun I122 H locs eI122 hM hS => ?_)
    have hR := zq_fr.putE hR eI122 (zf_ia k121 (by decide) rfl)
    have hI123 := zI.put hI119 L eI122 k121 (Or.inl ⟨by decide, by decide⟩)
    have hS0124 := zS0.put hS0120 L (zq_lk L.1 k_h0 rfl (by decide)) eI122 k121 (Or.inl (by decide))
    refine lv_aload_n hx hb dX11_image_37 rfl (lv_at hl 0 rfl) ?_
    refine zq_getr E hM k_h0 (zFX11_26 E hZ) ⟨by decide, by decide, by decide, rfl⟩ dX11_image_38 ?_
    have k125 : zq_k X (zq_r X h0 3) = 1 := zq_lk L.1 k_h0 rfl (by decide)
    refine zq_getr E hM k125 (zFX11_95 E hZ) ⟨by decide, by decide, by decide, rfl⟩ dX11_image_41 ?_
    have k126 : zq_k X (zq_r X (zq_r X h0 3) 0) = 8 := zq_lk L.1 k125 rfl (by decide)
    refine zq_gn E hM k126 (zFX11_145 E hZ) (Or.inl ⟨by decide, by decide, by decide, rfl⟩) dX11_image_44 (fun x127 ex127 gx127 => ?_)
    clear gx127
    subst hQ
    exact zq_iret E hr hZ hM hS ⟨hR, ((zI.mono hI123 (by omega))), (hS0124), (Or.inr ⟨by omega, by omega, zq_kp eI122 (Or.inl (zq_kne k109 (zq_lk L.1 k_h0 rfl (by decide) : zq_k X (zq_r X h0 6) = 41) (by decide))) p117, fun a hk ha => zq_kp eI122 (Or.inl (zq_kne hk (zq_lk L.1 k_h0 rfl (by decide) : zq_k X (zq_r X h0 6) = 41) (by decide))) (p118 a hk ha), zq_kv eI122, fun i hi => zq_kp eI122 (Or.inr hi) (fr114 _ _ (zf_n (zq_lk L.1 k_h0 rfl (by decide) : zq_k X (zq_r X h0 6) = 41) rfl))⟩)⟩ hlocks dX11_image_47
  · have b107 := zi_eq b107 (rfl : x104.toInt = x104.toInt) (zl_0 : (0 : Int32).toInt = 0)
    refine lv_iconst (v := (-1)) hx hb dX11_image_15 (by decide +kernel) ?_
    subst hQ
    exact zq_iret E hr hZ hM hS ⟨hR, ((zI.mono q_0 (by omega))), (q_1), (Or.inl ⟨by omega, fun _ _ => rfl, fun _ => rfl⟩)⟩ hlocks dX11_image_16
def zw_X11_back : List (Nat × Nat) := [(1, 2), (1, 3), (1, 6), (3, 3), (5, 0), (5, 1), (5, 2), (5, 3), (5, 4), (5, 5), (7, 0), (7, 1), (7, 2), (7, 3), (7, 4), (7, 5), (7, 6), (8, 0), (8, 1), (8, 2), (8, 3), (8, 4), (8, 5), (8, 6), (9, 9), (30, 999), (33, 999)]
set_option maxHeartbeats 8000000 in
set_option maxRecDepth 100000 in
theorem c_X11_back (l : Launch) (X : zq_X) (zk zn : Nat) (I : zq_M) (L : zq_L X) (ct : Nat) (h0 : Nat) (k_h0 : zq_k X h0 = 9) (p1 : Int32) (q_0 : zI X I ct) (q_1 : zS0 X I (zq_r X h0 4)) (q_2 : ct ≤ 600) : Met l yX11_back (zt_w yX11_back cX11_back 2 (some .int)) (zq_rm (3)) (va_Pc [.ref h0, .int p1] (zq_W X (zk, zn) I)) (va_Qi (fun (r : Int32) I2 => zq_fr (zf X zw_X11_back (fun _ => True)) I I2 ∧ (zI X I2 (ct + 1)) ∧ (zS0 X I2 (zq_r X h0 4)) ∧ ((((∀ a, zq_k X a = 1 → I2 a 3 = I a 3) ∧ (∀ i, I2 (zq_r X h0 6) i = I (zq_r X h0 6) i)) ∧ ((p1.toInt < 0 ∨ 3 < p1.toInt) ∨ (I (zq_r X h0 6) p1.toNatClampNeg).toInt = 0)) ∨ (0 ≤ p1.toInt ∧ p1.toInt ≤ 3 ∧ ¬ (I (zq_r X h0 6) p1.toNatClampNeg).toInt = 0 ∧ I2 (zq_r X h0 3) 3 = I (zq_r X (zq_r X h0 5) p1.toNatClampNeg) 3 ∧ (∀ a, zq_k X a = 1 → a ≠ (zq_r X h0 3) → I2 a 3 = I a 3) ∧ (∀ i, I2 (zq_r X h0 6) i = I (zq_r X h0 6) i)))) (zq_E X (zk, zn)) (zq_A X)) 0 0 (zq_A X) := by
  refine Met.ofW (cc := cX11_back) (maxL := 2) (ret := (some .int)) (by decide) rfl ?_
  intro p e s m args below meth c s₁ B hml hv
  obtain ⟨hargs, hM, hZ⟩ := hv
  have hown : s.vm.findClass RX11 = some m.cls := findClass_of_methodNamed B.named
  have hts := atoms_spec (ws := zt_w yX11_back cX11_back 2 (some .int)) B.pre
  have E : CallFix p m c cX11_back 2 s args (Cond.code yX11_back cX11_back 2 (some .int) :: zt) RX11 := ⟨B.exec, B.bytes, hml, hown, hts⟩
  have hx := B.exec
  have hb := B.bytes
  have hr := B.returns
  have hlocks := B.notSynchronized
  clear B
  have hS : va_S (zq_A X) s.heap s.heap [] := va_S.rf
  have hR : zq_fr (zf X zw_X11_back (fun _ => True)) I I := zq_fr.rf
  have hl := lv_entry ([.ref h0, .int p1]) (n := 2) (by exact Nat.le_of_ble_eq_true rfl)
  have hg : entryFrame m args 2 = F0 m 0 ((lg_sl ([.ref h0, .int p1]) ++ List.replicate (2 - (lg_sl ([.ref h0, .int p1])).length) Slot.unset).toArray) [] := by rw [hargs]; exact lg_entry_eq m ([.ref h0, .int p1]) 2
  rw [hg]
  clear hg hargs
  generalize (lg_sl ([.ref h0, .int p1]) ++ List.replicate (2 - (lg_sl ([.ref h0, .int p1])).length) Slot.unset).toArray = ls at hl ⊢
  have hl : lv_has ls 2 [(0, .ref h0), (1, .int p1)] := by exact hl
  obtain ⟨R, hRm⟩ : ∃ R : Room, R = (headSpec (zt_w yX11_back cX11_back 2 (some .int)) (zq_rm (3))).room := ⟨_, rfl⟩
  rw [← hRm]
  have hro : ∀ d q : Nat, d + 1 ≤ 3 → q ≤ 45 → zq_rok d q R := fun d q h1 h2 => by rw [hRm]; exact zq_rokI h1 h2
  generalize hQ : MQ below _ args s 0 0 (zq_A X) = Q
  obtain ⟨H, hH⟩ : ∃ H, H = s.heap := ⟨_, rfl⟩
  obtain ⟨locs, hlo⟩ : ∃ x : List Loc, x = [] := ⟨_, rfl⟩
  rw [show W p l e R s m args below meth c s.heap [] 0 0 Q = W p l e R s m args below meth c H locs 0 0 Q by rw [hH, hlo]]
  have hM : zq_hm X (zk, zn) I H := by rw [hH]; exact hM
  have hS : va_S (zq_A X) s.heap H locs := by rw [hH, hlo]; exact hS
  clear hH hlo
  refine lv_iload_n hx hb dX11_back_0 rfl (lv_at hl 1 rfl) ?_
  refine lv_iconst (v := 0) hx hb dX11_back_1 (by decide +kernel) ?_
  refine lv_aload_n hx hb dX11_back_2 rfl (lv_at hl 0 rfl) ?_
  refine zq_getr E hM k_h0 (zFX11_37 E hZ) ⟨by decide, by decide, by decide, rfl⟩ dX11_back_3 ?_
  have k101 : zq_k X (zq_r X h0 5) = 40 := zq_lk L.1 k_h0 rfl (by decide)
  refine zq_alen (n := 4) (t := 6) (v := 4) E hZ hM k101 ⟨by decide, rfl⟩ (by decide) (by decide +kernel) dX11_back_6 ?_
  refine lv_iconst (v := 1) hx hb dX11_back_7 (by decide +kernel) ?_
  refine lv_isub hx hb dX11_back_8 ?_
  refine lv_topi (fun x102 ex102 => ?_)
  have tx102 := zi_sub ex102 (zl_4 : (4 : Int32).toInt = 4) (zl_1 : (1 : Int32).toInt = 1) ⟨by omega, by omega⟩
  refine zq_pcalli (zq_rS (As := [.int p1, .int (0 : Int32), .int x102]) (rest := []) E hZ hM (c_X11_isWithin l X zk (zn) I L p1 (0 : Int32) x102) zmX11_75 zM_X11_isWithin (hro (0) 3 (by first | decide | omega) (by decide)) hl.1 rfl rfl (Nat.le_of_ble_eq_true rfl) dX11_back_9) hS (fun x104 H locs h103 hM hS => ?_)
  obtain ⟨p105, p106⟩ := h103
  have := zl_0
  refine lv_if_eq (tgt := 24) hx hb dX11_back_12 (by decide) (fun b107 => ?_) (fun b107 => ?_)
  · have b107 := zi_eq b107 (rfl : x104.toInt = x104.toInt) (zl_0 : (0 : Int32).toInt = 0)
    refine lv_iconst (v := (-1)) hx hb dX11_back_24 (by decide +kernel) ?_
    subst hQ
    exact zq_iret E hr hZ hM hS ⟨hR, ((zI.mono q_0 (by omega))), (q_1), (Or.inl ⟨⟨fun _ _ => rfl, fun _ => rfl⟩, Or.inl (by omega)⟩)⟩ hlocks dX11_back_25
  · have b107 := zi_ne b107 (rfl : x104.toInt = x104.toInt) (zl_0 : (0 : Int32).toInt = 0)
    refine lv_aload_n hx hb dX11_back_15 rfl (lv_at hl 0 rfl) ?_
    refine zq_getr E hM k_h0 (zFX11_41 E hZ) ⟨by decide, by decide, by decide, rfl⟩ dX11_back_16 ?_
    have k108 : zq_k X (zq_r X h0 6) = 41 := zq_lk L.1 k_h0 rfl (by decide)
    refine lv_iload_n hx hb dX11_back_19 rfl (lv_at hl 1 rfl) ?_
    refine zq_zan (n := 4) (j := (p1.toNatClampNeg)) E hZ hM k108 ⟨by decide, rfl⟩ ⟨by omega, by omega⟩ rfl dX11_back_20 (fun x109 ex109 gx109 => ?_)
    replace gx109 : 0 ≤ x109.toInt ∧ x109.toInt ≤ 1 := gx109
    refine lv_if_ne (tgt := 26) hx hb dX11_back_21 (by decide) (fun b110 => ?_) (fun b110 => ?_)
    · have b110 := zi_ne b110 (rfl : x109.toInt = x109.toInt) (zl_0 : (0 : Int32).toInt = 0)
      refine lv_aload_n hx hb dX11_back_26 rfl (lv_at hl 0 rfl) ?_
      refine zq_getr E hM k_h0 (zFX11_26 E hZ) ⟨by decide, by decide, by decide, rfl⟩ dX11_back_27 ?_
      have k111 : zq_k X (zq_r X h0 3) = 1 := zq_lk L.1 k_h0 rfl (by decide)
      refine lv_aload_n hx hb dX11_back_30 rfl (lv_at hl 0 rfl) ?_
      refine zq_getr E hM k_h0 (zFX11_37 E hZ) ⟨by decide, by decide, by decide, rfl⟩ dX11_back_31 ?_
      have k112 : zq_k X (zq_r X h0 5) = 40 := zq_lk L.1 k_h0 rfl (by decide)
      refine lv_iload_n hx hb dX11_back_34 rfl (lv_at hl 1 rfl) ?_
      refine zq_rald (n := 4) (t := 6) (j := (p1.toNatClampNeg)) E hZ hM k112 ⟨by decide, rfl⟩ ⟨rfl, by decide, by decide⟩ ⟨by omega, by omega⟩ rfl dX11_back_35 ?_
      have k113 : zq_k X (zq_r X (zq_r X h0 5) (p1.toNatClampNeg)) = 1 := zq_lay_a L.1 k112 (n := 4) (zq_inn (i := p1) (n := 4) ⟨by omega, by omega⟩) (by decide) (by decide)
      have := (zq_inn (i := p1) (n := 4) ⟨by omega, by omega⟩)
      refine zq_callv (zq_rV (As := [.ref (zq_r X (zq_r X h0 5) (p1.toNatClampNeg))]) (rest := []) E hZ hM k111 (c_X0_copyFrom l X zk (zn) I L (297 * (((ct : Nat)) : Int)) (zq_r X h0 3) k111 (zq_r X (zq_r X h0 5) (p1.toNatClampNeg)) k113 (zI.bn q_0 L k113) (zI.bb q_0 L k113) (fun hq => by have h1 := (L.2.2.2.1 _ k_h0).1; have h2 := ((L.2.2.2.1 _ k_h0).2.2.1 _ (zq_inn (i := p1) (n := 4) ⟨by omega, by omega⟩)); omega)) zmX11_312 zM_X0_copyFrom (hro (2) 2 (by first | decide | omega) (by decide)) ⟨by decide, by decide⟩ rfl hl.1 rfl rfl (Nat.le_of_ble_eq_true rfl) dX11_back_36) hS (fun I116 H locs h114 hM hS => ?_)
      obtain ⟨fr117, p118, p119, p120, p121⟩ := h114
      have hR := zq_fr.call hR fr117 (zf_sub (by decide +kernel) (fun _ _ _ => trivial))
      have hI122 := zI.two q_0 L k111 fr117 (p118) (p119)
      have hS0123 := zS0.frP q_1 L (zq_lk L.1 k_h0 rfl (by decide)) fr117 (fun q hq => (fun hp => hp.elim (fun hp => by have h3 := (L.2.2.1 _ k111).1; have h1 := (hq.trans (L.2.2.2.1 _ k_h0).2.1); omega) (fun hp => by have h3 := (L.2.2.1 _ k111).1; have h1 := (hq.trans (L.2.2.2.1 _ k_h0).2.1); omega)))
      refine lv_aload_n hx hb dX11_back_39 rfl (lv_at hl 0 rfl) ?_
      refine zq_callv (zq_rV (As := []) (rest := []) E hZ hM k_h0 (c_X11_forgetPast l X zk (zn) I116 L h0 k_h0) zmX11_92 zM_X11_forgetPast (hro (1) 1 (by first | decide | omega) (by decide)) ⟨by decide, by decide⟩ rfl hl.1 rfl rfl (Nat.le_of_ble_eq_true rfl) dX11_back_40) hS (fun I126 H locs h124 hM hS => ?_)
      have fr127 := h124
      have hR := zq_fr.call hR fr127 (zf_sub (by decide +kernel) (fun _ _ _ => trivial))
      have hI128 := zI.frL hI122 L fr127 rfl rfl
      have hS0129 := zS0.fr hS0123 L (zq_lk L.1 k_h0 rfl (by decide)) fr127 rfl
      refine W.eq (g2 := F0 m 43 ls []) rfl ?_
      refine lv_aload_n hx hb dX11_back_43 rfl (lv_at hl 0 rfl) ?_
      refine zq_getr E hM k_h0 (zFX11_26 E hZ) ⟨by decide, by decide, by decide, rfl⟩ dX11_back_44 ?_
      have k130 : zq_k X (zq_r X h0 3) = 1 := zq_lk L.1 k_h0 rfl (by decide)
      refine zq_getr E hM k130 (zFX11_95 E hZ) ⟨by decide, by decide, by decide, rfl⟩ dX11_back_47 ?_
      have k131 : zq_k X (zq_r X (zq_r X h0 3) 0) = 8 := zq_lk L.1 k130 rfl (by decide)
      refine zq_gn E hM k131 (zFX11_145 E hZ) (Or.inl ⟨by decide, by decide, by decide, rfl⟩) dX11_back_50 (fun x132 ex132 gx132 => ?_)
      clear gx132
      subst hQ
      exact zq_iret E hr hZ hM hS ⟨hR, ((zI.mono hI128 (by omega))), (hS0129), (Or.inr ⟨by omega, by omega, (by rw [ex109]; omega), zq_fr.kp fr127 (zf_n k111 rfl) p120, fun a hk ha => zq_fr.kp fr127 (zf_n hk rfl) (p121 a hk ha), fun i => zq_fr.kp fr127 (zf_n (zq_lk L.1 k_h0 rfl (by decide) : zq_k X (zq_r X h0 6) = 41) rfl) (fr117 _ _ (zf_n (zq_lk L.1 k_h0 rfl (by decide) : zq_k X (zq_r X h0 6) = 41) rfl))⟩)⟩ hlocks dX11_back_53
    · have b110 := zi_eq b110 (rfl : x109.toInt = x109.toInt) (zl_0 : (0 : Int32).toInt = 0)
      refine lv_iconst (v := (-1)) hx hb dX11_back_24 (by decide +kernel) ?_
      subst hQ
      exact zq_iret E hr hZ hM hS ⟨hR, ((zI.mono q_0 (by omega))), (q_1), (Or.inl ⟨⟨fun _ _ => rfl, fun _ => rfl⟩, Or.inr (by rw [ex109]; omega)⟩)⟩ hlocks dX11_back_25
