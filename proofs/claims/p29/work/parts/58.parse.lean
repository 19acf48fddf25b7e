def zw_X12_fails : List (Nat × Nat) := [(10, 9)]
set_option maxHeartbeats 8000000 in
set_option maxRecDepth 100000 in
theorem c_X12_fails (l : Launch) (X : zq_X) (zk zn : Nat) (I : zq_M) (L : zq_L X)  (h0 : Nat) (k_h0 : zq_k X h0 = 10) (p1 : Int32) (p2 : Int32) (q_0 : zk ≤ 4400 ∧ zn ≤ 4400) : Met l yX12_fails (zt_w yX12_fails cX12_fails 3 (some .boolean)) (zq_rm (0)) (va_Pc [.ref h0, .int p1, .int p2] (zq_W X (zk, zn) I)) (va_Qi (fun (r : Int32) I2 => zq_fr (zf X zw_X12_fails (fun _ => False)) I I2 ∧ (r.toInt = 0) ∧ (0 ≤ r.toInt ∧ r.toInt ≤ 1)) (zq_E X (zk, zn)) (zq_A X)) 0 0 (zq_A X) := by
  refine Met.ofW (cc := cX12_fails) (maxL := 3) (ret := (some .boolean)) (by decide) rfl ?_
  intro p e s m args below meth c s₁ B hml hv
  obtain ⟨hargs, hM, hZ⟩ := hv
  have hown : s.vm.findClass RX12 = some m.cls := findClass_of_methodNamed B.named
  have hts := atoms_spec (ws := zt_w yX12_fails cX12_fails 3 (some .boolean)) B.pre
  have E : CallFix p m c cX12_fails 3 s args (Cond.code yX12_fails cX12_fails 3 (some .boolean) :: zt) RX12 := ⟨B.exec, B.bytes, hml, hown, hts⟩
  have hx := B.exec
  have hb := B.bytes
  have hr := B.returns
  have hlocks := B.notSynchronized
  clear B
  have hS : va_S (zq_A X) s.heap s.heap [] := va_S.rf
  have hR : zq_fr (zf X zw_X12_fails (fun _ => False)) I I := zq_fr.rf
  have hl := lv_entry ([.ref h0, .int p1, .int p2]) (n := 3) (by exact Nat.le_of_ble_eq_true rfl)
  have hg : entryFrame m args 3 = F0 m 0 ((lg_sl ([.ref h0, .int p1, .int p2]) ++ List.replicate (3 - (lg_sl ([.ref h0, .int p1, .int p2])).length) Slot.unset).toArray) [] := by rw [hargs]; exact lg_entry_eq m ([.ref h0, .int p1, .int p2]) 3
  rw [hg]
  clear hg hargs
  generalize (lg_sl ([.ref h0, .int p1, .int p2]) ++ List.replicate (3 - (lg_sl ([.ref h0, .int p1, .int p2])).length) Slot.unset).toArray = ls at hl ⊢
  have hl : lv_has ls 3 [(0, .ref h0), (1, .int p1), (2, .int p2)] := by exact hl
  obtain ⟨R, hRm⟩ : ∃ R : Room, R = (headSpec (zt_w yX12_fails cX12_fails 3 (some .boolean)) (zq_rm (0))).room := ⟨_, rfl⟩
  rw [← hRm]
  generalize hQ : MQ below _ args s 0 0 (zq_A X) = Q
  obtain ⟨H, hH⟩ : ∃ H, H = s.heap := ⟨_, rfl⟩
  obtain ⟨locs, hlo⟩ : ∃ x : List Loc, x = [] := ⟨_, rfl⟩
  rw [show W p l e R s m args below meth c s.heap [] 0 0 Q = W p l e R s m args below meth c H locs 0 0 Q by rw [hH, hlo]]
  have hM : zq_hm X (zk, zn) I H := by rw [hH]; exact hM
  have hS : va_S (zq_A X) s.heap H locs := by rw [hH, hlo]; exact hS
  clear hH hlo
  refine lv_aload_n hx hb dX12_fails_0 rfl (lv_at hl 0 rfl) ?_
  refine zq_gn E hM k_h0 (zFX12_81 E hZ) (Or.inl ⟨by decide, by decide, by decide, rfl⟩) dX12_fails_1 (fun x101 ex101 gx101 => ?_)
  clear gx101
  refine lv_if_ne (tgt := 19) hx hb dX12_fails_4 (by decide) (fun b102 => ?_) (fun b102 => ?_)
  · have b102 := zi_ne b102 (rfl : x101.toInt = x101.toInt) (zl_0 : (0 : Int32).toInt = 0)
    refine lv_iconst (v := 0) hx hb dX12_fails_19 (by decide +kernel) ?_
    subst hQ
    exact zq_zret E hr hZ hM hS (show 0 ≤ (0 : Int32).toInt ∧ (0 : Int32).toInt ≤ 1 by decide +kernel) ⟨hR, (by have := zl_0; omega), (by have := zl_0; omega)⟩ hlocks dX12_fails_20
  · have b102 := zi_eq b102 (rfl : x101.toInt = x101.toInt) (zl_0 : (0 : Int32).toInt = 0)
    refine lv_aload_n hx hb dX12_fails_7 rfl (lv_at hl 0 rfl) ?_
    refine lv_iconst (v := 1) hx hb dX12_fails_8 (by decide +kernel) ?_
    refine lv_bipush (v := 8) hx hb dX12_fails_9 (by decide +kernel) ?_
    refine lv_iload_n hx hb dX12_fails_11 rfl (lv_at hl 2 rfl) ?_
    refine lv_imul hx hb dX12_fails_12 ?_
    refine lv_topi (fun x103 ex103 => ?_)
    refine lv_iadd hx hb dX12_fails_13 ?_
    refine lv_topi (fun x104 ex104 => ?_)
    refine lv_iload_n hx hb dX12_fails_14 rfl (lv_at hl 1 rfl) ?_
    refine lv_iadd hx hb dX12_fails_15 ?_
    refine lv_topi (fun x105 ex105 => ?_)
    refine zq_pn E hM hS k_h0 (zGX12_81 E hZ) ⟨by decide, by decide, by decide, rfl⟩ (zq_any _) dX12_fails_16 (fun I106 H locs eI106 hM hS => ?_)
    have hR := zq_fr.putE hR eI106 (zf_i k_h0 rfl rfl)
    refine W.eq (g2 := F0 m 19 ls []) rfl ?_
    refine lv_iconst (v := 0) hx hb dX12_fails_19 (by decide +kernel) ?_
    subst hQ
    exact zq_zret E hr hZ hM hS (show 0 ≤ (0 : Int32).toInt ∧ (0 : Int32).toInt ≤ 1 by decide +kernel) ⟨hR, (by have := zl_0; omega), (by have := zl_0; omega)⟩ hlocks dX12_fails_20
def zw_X12_see : List (Nat × Nat) := [(10, 8)]
set_option maxHeartbeats 8000000 in
set_option maxRecDepth 100000 in
theorem c_X12_see (l : Launch) (X : zq_X) (zk zn : Nat) (I : zq_M) (L : zq_L X)  (h0 : Nat) (k_h0 : zq_k X h0 = 10) (q_0 : zk ≤ 4400 ∧ zn ≤ 4400) (q_1 : (I h0 8).toInt ≤ (I h0 1).toInt) : Met l yX12_see (zt_w yX12_see cX12_see 1 (some .int)) (zq_rm (0)) (va_Pc [.ref h0] (zq_W X (zk, zn) I)) (va_Qi (fun (r : Int32) I2 => zq_fr (zf X zw_X12_see (fun _ => False)) I I2 ∧ (∀ b, zGo X h0 b 0 I I2) ∧ (zSm X h0 I I2) ∧ (r.toInt = -1 ∨ zAt X I2 h0) ∧ ((-1) ≤ r.toInt ∧ r.toInt ≤ 255)) (zq_E X (zk, zn)) (zq_A X)) 0 0 (zq_A X) := by
  refine Met.ofW (cc := cX12_see) (maxL := 1) (ret := (some .int)) (by decide) rfl ?_
  intro p e s m args below meth c s₁ B hml hv
  obtain ⟨hargs, hM, hZ⟩ := hv
  have hown : s.vm.findClass RX12 = some m.cls := findClass_of_methodNamed B.named
  have hts := atoms_spec (ws := zt_w yX12_see cX12_see 1 (some .int)) B.pre
  have E : CallFix p m c cX12_see 1 s args (Cond.code yX12_see cX12_see 1 (some .int) :: zt) RX12 := ⟨B.exec, B.bytes, hml, hown, hts⟩
  have hx := B.exec
  have hb := B.bytes
  have hr := B.returns
  have hlocks := B.notSynchronized
  clear B
  have hS : va_S (zq_A X) s.heap s.heap [] := va_S.rf
  have hR : zq_fr (zf X zw_X12_see (fun _ => False)) I I := zq_fr.rf
  have hl := lv_entry ([.ref h0]) (n := 1) (by exact Nat.le_of_ble_eq_true rfl)
  have hg : entryFrame m args 1 = F0 m 0 ((lg_sl ([.ref h0]) ++ List.replicate (1 - (lg_sl ([.ref h0])).length) Slot.unset).toArray) [] := by rw [hargs]; exact lg_entry_eq m ([.ref h0]) 1
  rw [hg]
  clear hg hargs
  generalize (lg_sl ([.ref h0]) ++ List.replicate (1 - (lg_sl ([.ref h0])).length) Slot.unset).toArray = ls at hl ⊢
  have hl : lv_has ls 1 [(0, .ref h0)] := by exact hl
  obtain ⟨R, hRm⟩ : ∃ R : Room, R = (headSpec (zt_w yX12_see cX12_see 1 (some .int)) (zq_rm (0))).room := ⟨_, rfl⟩
  rw [← hRm]
  generalize hQ : MQ below _ args s 0 0 (zq_A X) = Q
  obtain ⟨H, hH⟩ : ∃ H, H = s.heap := ⟨_, rfl⟩
  obtain ⟨locs, hlo⟩ : ∃ x : List Loc, x = [] := ⟨_, rfl⟩
  rw [show W p l e R s m args below meth c s.heap [] 0 0 Q = W p l e R s m args below meth c H locs 0 0 Q by rw [hH, hlo]]
  have hM : zq_hm X (zk, zn) I H := by rw [hH]; exact hM
  have hS : va_S (zq_A X) s.heap H locs := by rw [hH, hlo]; exact hS
  clear hH hlo
  have hG0 : ∀ b, zGo X h0 b 0 I I := fun b => zGo.rf q_1
  have hSm0 : zSm X h0 I I := zSm.rf
  have J0 : ∀ (n118 : Nat) (I115 : zq_M) (H : Heap) (locs : List Loc) (ls : Array Slot), 401 - (I115 h0 8).toInt ≤ ((n118 : Nat) : Int) → (zq_hm X (zk, zn) I115 H) → (va_S (zq_A X) s.heap H locs) → (zq_fr (zf X zw_X12_see (fun _ => False)) I I115) → (∀ b, zGo X h0 b 0 I I115) → (zSm X h0 I I115) → (lv_has ls 1 [(0, .ref h0)]) → W p l e R s m args below meth c H locs 0 0 Q (F0 m 0 ls []) := by
    intro n118
    induction n118 with
    | zero => intro I115 H locs ls mu119 hM hS hR F116 F117 hl; exfalso; have q9 : _ ≤ (400 : Int) := (zq_rng hM k_h0 8).2; omega
    | succ n118 ih0 =>
      intro I115 H locs ls mu119 hM hS hR F116 F117 hl
      refine lv_aload_n hx hb dX12_see_0 rfl (lv_at hl 0 rfl) ?_
      refine zq_gn E hM k_h0 (zFX12_84 E hZ) (Or.inl ⟨by decide, by decide, by decide, rfl⟩) dX12_see_1 (fun x120 ex120 gx120 => ?_)
      replace gx120 : 0 ≤ x120.toInt ∧ x120.toInt ≤ 400 := gx120
      have := congrArg Int32.toInt ex120
      refine lv_aload_n hx hb dX12_see_4 rfl (lv_at hl 0 rfl) ?_
      refine zq_gn E hM k_h0 (zFX12_74 E hZ) (Or.inl ⟨by decide, by decide, by decide, rfl⟩) dX12_see_5 (fun x121 ex121 gx121 => ?_)
      replace gx121 : 0 ≤ x121.toInt ∧ x121.toInt ≤ 400 := gx121
      have := congrArg Int32.toInt ex121
      have J38 : ∀ (ls : Array Slot), ((I115 h0 1).toInt ≤ (I115 h0 8).toInt ∨ ¬ (I115 (zq_r X h0 0) (I115 h0 8).toNatClampNeg).toInt = 32) → (lv_has ls 1 [(0, .ref h0)]) → W p l e R s m args below meth c H locs 0 0 Q (F0 m 38 ls []) := by
        intro ls h38 hl
        refine lv_aload_n hx hb dX12_see_38 rfl (lv_at hl 0 rfl) ?_
        refine zq_gk (v := x120) E hM k_h0 (zFX12_84 E hZ) (Or.inl ⟨by decide, by decide, by decide, rfl⟩) ex120 dX12_see_39 ?_
        refine lv_aload_n hx hb dX12_see_42 rfl (lv_at hl 0 rfl) ?_
        refine zq_gk (v := x121) E hM k_h0 (zFX12_74 E hZ) (Or.inl ⟨by decide, by decide, by decide, rfl⟩) ex121 dX12_see_43 ?_
        refine lv_icmp_ge (tgt := 65) hx hb dX12_see_46 (by decide) (fun b131 => ?_) (fun b131 => ?_)
        · have b131 := zi_le b131 (rfl : x121.toInt = x121.toInt) (rfl : x120.toInt = x120.toInt)
          refine lv_iconst (v := (-1)) hx hb dX12_see_65 (by decide +kernel) ?_
          subst hQ
          exact zq_iret E hr hZ hM hS ⟨hR, (F116), (F117), (Or.inl (by decide +kernel)), (by have := zl_m1; omega)⟩ hlocks dX12_see_66
        · have b131 := zi_nle b131 (rfl : x121.toInt = x121.toInt) (rfl : x120.toInt = x120.toInt)
          refine lv_aload_n hx hb dX12_see_49 rfl (lv_at hl 0 rfl) ?_
          refine zq_getr E hM k_h0 (zFX12_7 E hZ) ⟨by decide, by decide, by decide, rfl⟩ dX12_see_50 ?_
          have k132 : zq_k X (zq_r X h0 0) = 50 := zq_lk L.1 k_h0 rfl (by decide)
          refine lv_aload_n hx hb dX12_see_53 rfl (lv_at hl 0 rfl) ?_
          refine zq_gk (v := x120) E hM k_h0 (zFX12_84 E hZ) (Or.inl ⟨by decide, by decide, by decide, rfl⟩) ex120 dX12_see_54 ?_
          refine zq_ban (n := 400) (j := (x120.toNatClampNeg)) E hZ hM k132 ⟨by decide, rfl⟩ ⟨by omega, by omega⟩ rfl dX12_see_57 (fun x133 ex133 gx133 => ?_)
          clear gx133
          have := congrArg Int32.toInt ex133
          refine lv_sipush (v := 255) hx hb dX12_see_58 (by decide +kernel) ?_
          refine lv_iand hx hb dX12_see_61 ?_
          refine lv_topi (fun x134 ex134 => ?_)
          have tx134 := zi_and 8 (by decide +kernel) (by decide) ex134
          refine lv_goto (tgt := 66) hx hb dX12_see_62 (by decide) ?_
          subst hQ
          exact zq_iret E hr hZ hM hS ⟨hR, (F116), (F117), (Or.inr ⟨by omega, h38.resolve_left (by omega)⟩), (by omega)⟩ hlocks dX12_see_66
      refine lv_icmp_ge (tgt := 38) hx hb dX12_see_8 (by decide) (fun b135 => ?_) (fun b135 => ?_)
      · have b135 := zi_le b135 (rfl : x121.toInt = x121.toInt) (rfl : x120.toInt = x120.toInt)
        exact J38 ls (Or.inl (by omega)) (lv_sub hl [0] rfl)
      · have b135 := zi_nle b135 (rfl : x121.toInt = x121.toInt) (rfl : x120.toInt = x120.toInt)
        refine lv_aload_n hx hb dX12_see_11 rfl (lv_at hl 0 rfl) ?_
        refine zq_getr E hM k_h0 (zFX12_7 E hZ) ⟨by decide, by decide, by decide, rfl⟩ dX12_see_12 ?_
        have k136 : zq_k X (zq_r X h0 0) = 50 := zq_lk L.1 k_h0 rfl (by decide)
        refine lv_aload_n hx hb dX12_see_15 rfl (lv_at hl 0 rfl) ?_
        refine zq_gk (v := x120) E hM k_h0 (zFX12_84 E hZ) (Or.inl ⟨by decide, by decide, by decide, rfl⟩) ex120 dX12_see_16 ?_
        refine zq_ban (n := 400) (j := (x120.toNatClampNeg)) E hZ hM k136 ⟨by decide, rfl⟩ ⟨by omega, by omega⟩ rfl dX12_see_19 (fun x137 ex137 gx137 => ?_)
        clear gx137
        have := congrArg Int32.toInt ex137
        refine lv_bipush (v := 32) hx hb dX12_see_20 (by decide +kernel) ?_
        refine lv_icmp_ne (tgt := 38) hx hb dX12_see_22 (by decide) (fun b138 => ?_) (fun b138 => ?_)
        · have b138 := zi_ne b138 (rfl : x137.toInt = x137.toInt) (zl_32 : (32 : Int32).toInt = 32)
          exact J38 ls (Or.inr (by rw [ex120, ex137]; omega)) (lv_sub hl [0] rfl)
        · have b138 := zi_eq b138 (rfl : x137.toInt = x137.toInt) (zl_32 : (32 : Int32).toInt = 32)
          refine lv_aload_n hx hb dX12_see_25 rfl (lv_at hl 0 rfl) ?_
          refine lv_dup hx hb dX12_see_26 rfl ?_
          refine zq_gk (v := x120) E hM k_h0 (zFX12_84 E hZ) (Or.inl ⟨by decide, by decide, by decide, rfl⟩) ex120 dX12_see_27 ?_
          refine lv_iconst (v := 1) hx hb dX12_see_30 (by decide +kernel) ?_
          refine lv_iadd hx hb dX12_see_31 ?_
          refine lv_topi (fun x139 ex139 => ?_)
          have tx139 := zi_add ex139 (rfl : x120.toInt = x120.toInt) (zl_1 : (1 : Int32).toInt = 1) ⟨by omega, by omega⟩
          refine zq_pn E hM hS k_h0 (zGX12_84 E hZ) ⟨by decide, by decide, by decide, rfl⟩ (show 0 ≤ x139.toInt ∧ x139.toInt ≤ 400 from ⟨by omega, by omega⟩) dX12_see_32 (fun I140 H locs eI140 hM hS => ?_)
          have hR := zq_fr.putE hR eI140 (zf_i k_h0 rfl rfl)
          have hG141 : ∀ b, zGo X h0 b 1 I I140 := (fun b => zGo.wk (zGo.p8 (F116 b) L k_h0 eI140 1 (by rw [ex120]; omega) (by decide) (by omega)) (by decide))
          have hSm142 : zSm X h0 I I140 := zSm.stop F117 ex120 ex137 (by omega)
          refine lv_goto (tgt := 0) hx hb dX12_see_35 (by decide) ?_
          exact ih0 I140 H locs ls (by rw [(zq_kv eI140)]; omega) hM hS hR (fun b => zGo.wk (hG141 b) (by decide)) hSm142 (lv_sub hl [0] rfl)
  exact J0 (401 - (I h0 8).toInt).toNat I H locs ls (by omega) hM hS hR hG0 hSm0 (lv_sub hl [0] rfl)
set_option maxHeartbeats 8000000 in
set_option maxRecDepth 100000 in
theorem c_X12_isDigit (l : Launch) (X : zq_X) (zk zn : Nat) (I : zq_M) (L : zq_L X)  (h0 : Nat) (k_h0 : zq_k X h0 = 10) (p1 : Int32) (g_p1 : 0 ≤ p1.toInt ∧ p1.toInt ≤ 400) (q_0 : zk ≤ 4400 ∧ zn ≤ 4400) : Met l yX12_isDigit (zt_w yX12_isDigit cX12_isDigit 2 (some .boolean)) (zq_rm (0)) (va_Pc [.ref h0, .int p1] (zq_W X (zk, zn) I)) (va_Qi (fun (r : Int32) I2 => I2 = I ∧ (r.toInt = 0 ∨ (p1.toInt < (I h0 1).toInt ∧ 48 ≤ (I (zq_r X h0 0) p1.toNatClampNeg).toInt ∧ (I (zq_r X h0 0) p1.toNatClampNeg).toInt ≤ 57)) ∧ ((p1.toInt < (I h0 1).toInt ∧ 48 ≤ (I (zq_r X h0 0) p1.toNatClampNeg).toInt ∧ (I (zq_r X h0 0) p1.toNatClampNeg).toInt ≤ 57) → r.toInt = 1) ∧ (0 ≤ r.toInt ∧ r.toInt ≤ 1)) (zq_E X (zk, zn)) (zq_A X)) 0 0 (zq_A X) := by
  refine Met.ofW (cc := cX12_isDigit) (maxL := 2) (ret := (some .boolean)) (by decide) rfl ?_
  intro p e s m args below meth c s₁ B hml hv
  obtain ⟨hargs, hM, hZ⟩ := hv
  have hown : s.vm.findClass RX12 = some m.cls := findClass_of_methodNamed B.named
  have hts := atoms_spec (ws := zt_w yX12_isDigit cX12_isDigit 2 (some .boolean)) B.pre
  have E : CallFix p m c cX12_isDigit 2 s args (Cond.code yX12_isDigit cX12_isDigit 2 (some .boolean) :: zt) RX12 := ⟨B.exec, B.bytes, hml, hown, hts⟩
  have hx := B.exec
  have hb := B.bytes
  have hr := B.returns
  have hlocks := B.notSynchronized
  clear B
  have hS : va_S (zq_A X) s.heap s.heap [] := va_S.rf
  have hl := lv_entry ([.ref h0, .int p1]) (n := 2) (by exact Nat.le_of_ble_eq_true rfl)
  have hg : entryFrame m args 2 = F0 m 0 ((lg_sl ([.ref h0, .int p1]) ++ List.replicate (2 - (lg_sl ([.ref h0, .int p1])).length) Slot.unset).toArray) [] := by rw [hargs]; exact lg_entry_eq m ([.ref h0, .int p1]) 2
  rw [hg]
  clear hg hargs
  generalize (lg_sl ([.ref h0, .int p1]) ++ List.replicate (2 - (lg_sl ([.ref h0, .int p1])).length) Slot.unset).toArray = ls at hl ⊢
  have hl : lv_has ls 2 [(0, .ref h0), (1, .int p1)] := by exact hl
  obtain ⟨R, hRm⟩ : ∃ R : Room, R = (headSpec (zt_w yX12_isDigit cX12_isDigit 2 (some .boolean)) (zq_rm (0))).room := ⟨_, rfl⟩
  rw [← hRm]
  generalize hQ : MQ below _ args s 0 0 (zq_A X) = Q
  obtain ⟨H, hH⟩ : ∃ H, H = s.heap := ⟨_, rfl⟩
  obtain ⟨locs, hlo⟩ : ∃ x : List Loc, x = [] := ⟨_, rfl⟩
  rw [show W p l e R s m args below meth c s.heap [] 0 0 Q = W p l e R s m args below meth c H locs 0 0 Q by rw [hH, hlo]]
  have hM : zq_hm X (zk, zn) I H := by rw [hH]; exact hM
  have hS : va_S (zq_A X) s.heap H locs := by rw [hH, hlo]; exact hS
  clear hH hlo
  refine lv_iload_n hx hb dX12_isDigit_0 rfl (lv_at hl 1 rfl) ?_
  refine lv_aload_n hx hb dX12_isDigit_1 rfl (lv_at hl 0 rfl) ?_
  refine zq_gn E hM k_h0 (zFX12_74 E hZ) (Or.inl ⟨by decide, by decide, by decide, rfl⟩) dX12_isDigit_2 (fun x101 ex101 gx101 => ?_)
  replace gx101 : 0 ≤ x101.toInt ∧ x101.toInt ≤ 400 := gx101
  have := congrArg Int32.toInt ex101
  refine lv_icmp_ge (tgt := 34) hx hb dX12_isDigit_5 (by decide) (fun b102 => ?_) (fun b102 => ?_)
  · have b102 := zi_le b102 (rfl : x101.toInt = x101.toInt) (rfl : p1.toInt = p1.toInt)
    refine lv_iconst (v := 0) hx hb dX12_isDigit_34 (by decide +kernel) ?_
    subst hQ
    exact zq_zret E hr hZ hM hS (show 0 ≤ (0 : Int32).toInt ∧ (0 : Int32).toInt ≤ 1 by decide +kernel) ⟨rfl, (Or.inl (by decide +kernel)), (fun hh => by omega), (by have := zl_0; omega)⟩ hlocks dX12_isDigit_35
  · have b102 := zi_nle b102 (rfl : x101.toInt = x101.toInt) (rfl : p1.toInt = p1.toInt)
    refine lv_aload_n hx hb dX12_isDigit_8 rfl (lv_at hl 0 rfl) ?_
    refine zq_getr E hM k_h0 (zFX12_7 E hZ) ⟨by decide, by decide, by decide, rfl⟩ dX12_isDigit_9 ?_
    have k103 : zq_k X (zq_r X h0 0) = 50 := zq_lk L.1 k_h0 rfl (by decide)
    refine lv_iload_n hx hb dX12_isDigit_12 rfl (lv_at hl 1 rfl) ?_
    refine zq_ban (n := 400) (j := (p1.toNatClampNeg)) E hZ hM k103 ⟨by decide, rfl⟩ ⟨by omega, by omega⟩ rfl dX12_isDigit_13 (fun x104 ex104 gx104 => ?_)
    clear gx104
    have := congrArg Int32.toInt ex104
    refine lv_bipush (v := 48) hx hb dX12_isDigit_14 (by decide +kernel) ?_
    refine lv_icmp_lt (tgt := 34) hx hb dX12_isDigit_16 (by decide) (fun b105 => ?_) (fun b105 => ?_)
    · have b105 := zi_lt b105 (rfl : x104.toInt = x104.toInt) (zl_48 : (48 : Int32).toInt = 48)
      refine lv_iconst (v := 0) hx hb dX12_isDigit_34 (by decide +kernel) ?_
      subst hQ
      exact zq_zret E hr hZ hM hS (show 0 ≤ (0 : Int32).toInt ∧ (0 : Int32).toInt ≤ 1 by decide +kernel) ⟨rfl, (Or.inl (by decide +kernel)), (fun hh => by omega), (by have := zl_0; omega)⟩ hlocks dX12_isDigit_35
    · have b105 := zi_nlt b105 (rfl : x104.toInt = x104.toInt) (zl_48 : (48 : Int32).toInt = 48)
      refine lv_aload_n hx hb dX12_isDigit_19 rfl (lv_at hl 0 rfl) ?_
      refine zq_getr E hM k_h0 (zFX12_7 E hZ) ⟨by decide, by decide, by decide, rfl⟩ dX12_isDigit_20 ?_
      have k106 : zq_k X (zq_r X h0 0) = 50 := zq_lk L.1 k_h0 rfl (by decide)
      refine lv_iload_n hx hb dX12_isDigit_23 rfl (lv_at hl 1 rfl) ?_
      refine zq_ban (n := 400) (j := (p1.toNatClampNeg)) E hZ hM k106 ⟨by decide, rfl⟩ ⟨by omega, by omega⟩ rfl dX12_isDigit_24 (fun x107 ex107 gx107 => ?_)
      clear gx107
      have := congrArg Int32.toInt ex107
      refine lv_bipush (v := 57) hx hb dX12_isDigit_25 (by decide +kernel) ?_
      refine lv_icmp_gt (tgt := 34) hx hb dX12_isDigit_27 (by decide) (fun b108 => ?_) (fun b108 => ?_)
      · have b108 := zi_lt b108 (zl_57 : (57 : Int32).toInt = 57) (rfl : x107.toInt = x107.toInt)
        refine lv_iconst (v := 0) hx hb dX12_isDigit_34 (by decide +kernel) ?_
        subst hQ
        exact zq_zret E hr hZ hM hS (show 0 ≤ (0 : Int32).toInt ∧ (0 : Int32).toInt ≤ 1 by decide +kernel) ⟨rfl, (Or.inl (by decide +kernel)), (fun hh => by omega), (by have := zl_0; omega)⟩ hlocks dX12_isDigit_35
      · have b108 := zi_nlt b108 (zl_57 : (57 : Int32).toInt = 57) (rfl : x107.toInt = x107.toInt)
        refine lv_iconst (v := 1) hx hb dX12_isDigit_30 (by decide +kernel) ?_
        refine lv_goto (tgt := 35) hx hb dX12_isDigit_31 (by decide) ?_
        subst hQ
        exact zq_zret E hr hZ hM hS (show 0 ≤ (1 : Int32).toInt ∧ (1 : Int32).toInt ≤ 1 by decide +kernel) ⟨rfl, (Or.inr ⟨by omega, by omega, by omega⟩), (fun _ => by decide +kernel), (by have := zl_1; omega)⟩ hlocks dX12_isDigit_35
set_option maxHeartbeats 8000000 in
set_option maxRecDepth 100000 in
theorem c_X12_isLetter (l : Launch) (X : zq_X) (zk zn : Nat) (I : zq_M) (L : zq_L X)  (h0 : Nat) (k_h0 : zq_k X h0 = 10) (p1 : Int32) (g_p1 : 0 ≤ p1.toInt ∧ p1.toInt ≤ 400) (q_0 : zk ≤ 4400 ∧ zn ≤ 4400) : Met l yX12_isLetter (zt_w yX12_isLetter cX12_isLetter 2 (some .boolean)) (zq_rm (0)) (va_Pc [.ref h0, .int p1] (zq_W X (zk, zn) I)) (va_Qi (fun (r : Int32) I2 => I2 = I ∧ (r.toInt = 0 ∨ (p1.toInt < (I h0 1).toInt ∧ 97 ≤ (I (zq_r X h0 0) p1.toNatClampNeg).toInt ∧ (I (zq_r X h0 0) p1.toNatClampNeg).toInt ≤ 122)) ∧ ((p1.toInt < (I h0 1).toInt ∧ 97 ≤ (I (zq_r X h0 0) p1.toNatClampNeg).toInt ∧ (I (zq_r X h0 0) p1.toNatClampNeg).toInt ≤ 122) → r.toInt = 1) ∧ (0 ≤ r.toInt ∧ r.toInt ≤ 1)) (zq_E X (zk, zn)) (zq_A X)) 0 0 (zq_A X) := by
  refine Met.ofW (cc := cX12_isLetter) (maxL := 2) (ret := (some .boolean)) (by decide) rfl ?_
  intro p e s m args below meth c s₁ B hml hv
  obtain ⟨hargs, hM, hZ⟩ := hv
  have hown : s.vm.findClass RX12 = some m.cls := findClass_of_methodNamed B.named
  have hts := atoms_spec (ws := zt_w yX12_isLetter cX12_isLetter 2 (some .boolean)) B.pre
  have E : CallFix p m c cX12_isLetter 2 s args (Cond.code yX12_isLetter cX12_isLetter 2 (some .boolean) :: zt) RX12 := ⟨B.exec, B.bytes, hml, hown, hts⟩
  have hx := B.exec
  have hb := B.bytes
  have hr := B.returns
  have hlocks := B.notSynchronized
  clear B
  have hS : va_S (zq_A X) s.heap s.heap [] := va_S.rf
  have hl := lv_entry ([.ref h0, .int p1]) (n := 2) (by exact Nat.le_of_ble_eq_true rfl)
  have hg : entryFrame m args 2 = F0 m 0 ((lg_sl ([.ref h0, .int p1]) ++ List.replicate (2 - (lg_sl ([.ref h0, .int p1])).length) Slot.unset).toArray) [] := by rw [hargs]; exact lg_entry_eq m ([.ref h0, .int p1]) 2
  rw [hg]
  clear hg hargs
  generalize (lg_sl ([.ref h0, .int p1]) ++ List.replicate (2 - (lg_sl ([.ref h0, .int p1])).length) Slot.unset).toArray = ls at hl ⊢
  have hl : lv_has ls 2 [(0, .ref h0), (1, .int p1)] := by exact hl
  obtain ⟨R, hRm⟩ : ∃ R : Room, R = (headSpec (zt_w yX12_isLetter cX12_isLetter 2 (some .boolean)) (zq_rm (0))).room := ⟨_, rfl⟩
  rw [← hRm]
  generalize hQ : MQ below _ args s 0 0 (zq_A X) = Q
  obtain ⟨H, hH⟩ : ∃ H, H = s.heap := ⟨_, rfl⟩
  obtain ⟨locs, hlo⟩ : ∃ x : List Loc, x = [] := ⟨_, rfl⟩
  rw [show W p l e R s m args below meth c s.heap [] 0 0 Q = W p l e R s m args below meth c H locs 0 0 Q by rw [hH, hlo]]
  have hM : zq_hm X (zk, zn) I H := by rw [hH]; exact hM
  have hS : va_S (zq_A X) s.heap H locs := by rw [hH, hlo]; exact hS
  clear hH hlo
  refine lv_iload_n hx hb dX12_isLetter_0 rfl (lv_at hl 1 rfl) ?_
  refine lv_aload_n hx hb dX12_isLetter_1 rfl (lv_at hl 0 rfl) ?_
  refine zq_gn E hM k_h0 (zFX12_74 E hZ) (Or.inl ⟨by decide, by decide, by decide, rfl⟩) dX12_isLetter_2 (fun x101 ex101 gx101 => ?_)
  replace gx101 : 0 ≤ x101.toInt ∧ x101.toInt ≤ 400 := gx101
  have := congrArg Int32.toInt ex101
  refine lv_icmp_ge (tgt := 34) hx hb dX12_isLetter_5 (by decide) (fun b102 => ?_) (fun b102 => ?_)
  · have b102 := zi_le b102 (rfl : x101.toInt = x101.toInt) (rfl : p1.toInt = p1.toInt)
    refine lv_iconst (v := 0) hx hb dX12_isLetter_34 (by decide +kernel) ?_
    subst hQ
    exact zq_zret E hr hZ hM hS (show 0 ≤ (0 : Int32).toInt ∧ (0 : Int32).toInt ≤ 1 by decide +kernel) ⟨rfl, (Or.inl (by decide +kernel)), (fun hh => by omega), (by have := zl_0; omega)⟩ hlocks dX12_isLetter_35
  · have b102 := zi_nle b102 (rfl : x101.toInt = x101.toInt) (rfl : p1.toInt = p1.toInt)
    refine lv_aload_n hx hb dX12_isLetter_8 rfl (lv_at hl 0 rfl) ?_
    refine zq_getr E hM k_h0 (zFX12_7 E hZ) ⟨by decide, by decide, by decide, rfl⟩ dX12_isLetter_9 ?_
    have k103 : zq_k X (zq_r X h0 0) = 50 := zq_lk L.1 k_h0 rfl (by decide)
    refine lv_iload_n hx hb dX12_isLetter_12 rfl (lv_at hl 1 rfl) ?_
    refine zq_ban (n := 400) (j := (p1.toNatClampNeg)) E hZ hM k103 ⟨by decide, rfl⟩ ⟨by omega, by omega⟩ rfl dX12_isLetter_13 (fun x104 ex104 gx104 => ?_)
    clear gx104
    have := congrArg Int32.toInt ex104
    refine lv_bipush (v := 97) hx hb dX12_isLetter_14 (by decide +kernel) ?_
    refine lv_icmp_lt (tgt := 34) hx hb dX12_isLetter_16 (by decide) (fun b105 => ?_) (fun b105 => ?_)
    · have b105 := zi_lt b105 (rfl : x104.toInt = x104.toInt) (zl_97 : (97 : Int32).toInt = 97)
      refine lv_iconst (v := 0) hx hb dX12_isLetter_34 (by decide +kernel) ?_
      subst hQ
      exact zq_zret E hr hZ hM hS (show 0 ≤ (0 : Int32).toInt ∧ (0 : Int32).toInt ≤ 1 by decide +kernel) ⟨rfl, (Or.inl (by decide +kernel)), (fun hh => by omega), (by have := zl_0; omega)⟩ hlocks dX12_isLetter_35
    · have b105 := zi_nlt b105 (rfl : x104.toInt = x104.toInt) (zl_97 : (97 : Int32).toInt = 97)
      refine lv_aload_n hx hb dX12_isLetter_19 rfl (lv_at hl 0 rfl) ?_
      refine zq_getr E hM k_h0 (zFX12_7 E hZ) ⟨by decide, by decide, by decide, rfl⟩ dX12_isLetter_20 ?_
      have k106 : zq_k X (zq_r X h0 0) = 50 := zq_lk L.1 k_h0 rfl (by decide)
      refine lv_iload_n hx hb dX12_isLetter_23 rfl (lv_at hl 1 rfl) ?_
      refine zq_ban (n := 400) (j := (p1.toNatClampNeg)) E hZ hM k106 ⟨by decide, rfl⟩ ⟨by omega, by omega⟩ rfl dX12_isLetter_24 (fun x107 ex107 gx107 => ?_)
      clear gx107
      have := congrArg Int32.toInt ex107
      refine lv_bipush (v := 122) hx hb dX12_isLetter_25 (by decide +kernel) ?_
      refine lv_icmp_gt (tgt := 34) hx hb dX12_isLetter_27 (by decide) (fun b108 => ?_) (fun b108 => ?_)
      · have b108 := zi_lt b108 (zl_122 : (122 : Int32).toInt = 122) (rfl : x107.toInt = x107.toInt)
        refine lv_iconst (v := 0) hx hb dX12_isLetter_34 (by decide +kernel) ?_
        subst hQ
        exact zq_zret E hr hZ hM hS (show 0 ≤ (0 : Int32).toInt ∧ (0 : Int32).toInt ≤ 1 by decide +kernel) ⟨rfl, (Or.inl (by decide +kernel)), (fun hh => by omega), (by have := zl_0; omega)⟩ hlocks dX12_isLetter_35
      · have b108 := zi_nlt b108 (zl_122 : (122 : Int32).toInt = 122) (rfl : x107.toInt = x107.toInt)
        refine lv_iconst (v := 1) hx hb dX12_isLetter_30 (by decide +kernel) ?_
        refine lv_goto (tgt := 35) hx hb dX12_isLetter_31 (by decide) ?_
        subst hQ
        exact zq_zret E hr hZ hM hS (show 0 ≤ (1 : Int32).toInt ∧ (1 : Int32).toInt ≤ 1 by decide +kernel) ⟨rfl, (Or.inr ⟨by omega, by omega, by omega⟩), (fun _ => by decide +kernel), (by have := zl_1; omega)⟩ hlocks dX12_isLetter_35
def zw_X12_isWord : List (Nat × Nat) := [(10, 8)]
set_option maxHeartbeats 8000000 in
set_option maxRecDepth 100000 in
theorem c_X12_isWord (l : Launch) (X : zq_X) (zk zn : Nat) (I : zq_M) (L : zq_L X)  (h0 : Nat) (k_h0 : zq_k X h0 = 10) (p1 : Int64) (q_0 : zk ≤ 4400 ∧ zn ≤ 4400) (q_1 : (I h0 8).toInt ≤ (I h0 1).toInt) : Met l yX12_isWord (zt_w yX12_isWord cX12_isWord 6 (some .boolean)) (zq_rm (1)) (va_Pc [.ref h0, .long p1] (zq_W X (zk, zn) I)) (va_Qi (fun (r : Int32) I2 => zq_fr (zf X zw_X12_isWord (fun _ => False)) I I2 ∧ (∀ b, zGo X h0 b 0 I I2) ∧ (zSm X h0 I I2) ∧ (r.toInt = 0 ∨ zLt X I2 h0) ∧ (0 ≤ r.toInt ∧ r.toInt ≤ 1)) (zq_E X (zk, zn)) (zq_A X)) 0 0 (zq_A X) := by
  refine Met.ofW (cc := cX12_isWord) (maxL := 6) (ret := (some .boolean)) (by decide) rfl ?_
  intro p e s m args below meth c s₁ B hml hv
  obtain ⟨hargs, hM, hZ⟩ := hv
  have hown : s.vm.findClass RX12 = some m.cls := findClass_of_methodNamed B.named
  have hts := atoms_spec (ws := zt_w yX12_isWord cX12_isWord 6 (some .boolean)) B.pre
  have E : CallFix p m c cX12_isWord 6 s args (Cond.code yX12_isWord cX12_isWord 6 (some .boolean) :: zt) RX12 := ⟨B.exec, B.bytes, hml, hown, hts⟩
  have hx := B.exec
  have hb := B.bytes
  have hr := B.returns
  have hlocks := B.notSynchronized
  clear B
  have hS : va_S (zq_A X) s.heap s.heap [] := va_S.rf
  have hR : zq_fr (zf X zw_X12_isWord (fun _ => False)) I I := zq_fr.rf
  have hl := lv_entry ([.ref h0, .long p1]) (n := 6) (by exact Nat.le_of_ble_eq_true rfl)
  have hg : entryFrame m args 6 = F0 m 0 ((lg_sl ([.ref h0, .long p1]) ++ List.replicate (6 - (lg_sl ([.ref h0, .long p1])).length) Slot.unset).toArray) [] := by rw [hargs]; exact lg_entry_eq m ([.ref h0, .long p1]) 6
  rw [hg]
  clear hg hargs
  generalize (lg_sl ([.ref h0, .long p1]) ++ List.replicate (6 - (lg_sl ([.ref h0, .long p1])).length) Slot.unset).toArray = ls at hl ⊢
  have hl : lv_has ls 6 [(0, .ref h0), (1, .long p1)] := by exact hl
  obtain ⟨R, hRm⟩ : ∃ R : Room, R = (headSpec (zt_w yX12_isWord cX12_isWord 6 (some .boolean)) (zq_rm (1))).room := ⟨_, rfl⟩
  rw [← hRm]
  have hro : ∀ d q : Nat, d + 1 ≤ 1 → q ≤ 45 → zq_rok d q R := fun d q h1 h2 => by rw [hRm]; exact zq_rokI h1 h2
  generalize hQ : MQ below _ args s 0 0 (zq_A X) = Q
  obtain ⟨H, hH⟩ : ∃ H, H = s.heap := ⟨_, rfl⟩
  obtain ⟨locs, hlo⟩ : ∃ x : List Loc, x = [] := ⟨_, rfl⟩
  rw [show W p l e R s m args below meth c s.heap [] 0 0 Q = W p l e R s m args below meth c H locs 0 0 Q by rw [hH, hlo]]
  have hM : zq_hm X (zk, zn) I H := by rw [hH]; exact hM
  have hS : va_S (zq_A X) s.heap H locs := by rw [hH, hlo]; exact hS
  clear hH hlo
  have hG0 : ∀ b, zGo X h0 b 0 I I := fun b => zGo.rf q_1
  have hSm0 : zSm X h0 I I := zSm.rf
  refine lv_aload_n hx hb dX12_isWord_0 rfl (lv_at hl 0 rfl) ?_
  refine zq_calli (zq_rV (As := []) (rest := []) E hZ hM k_h0 (c_X12_see l X zk (zn) I L h0 k_h0 (by omega) ((hG0 true).2.2.2.1)) zmX12_87 zM_X12_see (hro (0) 1 (by first | decide | omega) (by decide)) ⟨by decide, by decide⟩ rfl hl.1 rfl rfl (Nat.le_of_ble_eq_true rfl) dX12_isWord_1) hS (fun x102 I103 H locs h101 hM hS => ?_)
  obtain ⟨fr104, p105, p106, p107, p108⟩ := h101
  have hR := zq_fr.call hR fr104 (zf_sub (by decide +kernel) (fun _ _ q => q.elim))
  have hG109 : ∀ b, zGo X h0 b 0 I I103 := (fun b => zGo.wk (zGo.tr (hG0 b) (p105 b)) (by decide))
  have hSm110 : zSm X h0 I I103 := zSm.tr hSm0 p106
  refine lv_pop hx hb dX12_isWord_4 rfl ?_
  have h400 : (I103 h0 1).toInt ≤ 400 := (zq_rng hM k_h0 1).2
  have h0400 : 0 ≤ (I103 h0 8).toInt := (zq_rng hM k_h0 8).1
  have hn81 : (I103 h0 8).toInt ≤ (I103 h0 1).toInt := (hG109 true).2.2.2.1
  refine lv_lconst (v := 0) hx hb dX12_isWord_5 (by decide +kernel) ?_
  refine lv_lstore_n (lv' := [(3, .long (0 : Int64)), (0, .ref h0), (1, .long p1)]) hx hb dX12_isWord_6 rfl hl (by decide) rfl (fun ls hl => ?_)
  refine lv_iconst (v := 0) hx hb dX12_isWord_7 (by decide +kernel) ?_
  refine lv_istore (lv' := [(5, .int (0 : Int32)), (3, .long (0 : Int64)), (0, .ref h0), (1, .long p1)]) hx hb dX12_isWord_8 hl (by decide) rfl (fun ls hl => ?_)
  have J10 : ∀ (n275 : Nat) (H : Heap) (locs : List Loc) (ls : Array Slot) (j273 : Int32) (jl274 : Int64), 400 + 1 - j273.toInt ≤ ((n275 : Nat) : Int) → (zq_hm X (zk, zn) I103 H) → (va_S (zq_A X) s.heap H locs) → (0 ≤ j273.toInt ∧ j273.toInt ≤ 400) → (((I103 h0 8).toInt + j273.toInt ≤ (I103 h0 1).toInt) ∧ (j273.toInt = 0 ∨ zLt X I103 h0)) → (lv_has ls 6 [(5, .int j273), (3, .long jl274), (0, .ref h0), (1, .long p1)]) → W p l e R s m args below meth c H locs 0 0 Q (F0 m 10 ls []) := by
    intro n275
    induction n275 with
    | zero => intro H locs ls j273 jl274 mu276 hM hS gj273 hiw hl; exfalso; have := zi_rng j273; omega
    | succ n275 ih10 =>
      intro H locs ls j273 jl274 mu276 hM hS gj273 hiw hl
      refine lv_aload_n hx hb dX12_isWord_10 rfl (lv_at hl 2 rfl) ?_
      refine lv_aload_n hx hb dX12_isWord_11 rfl (lv_at hl 2 rfl) ?_
      refine zq_gn E hM k_h0 (zFX12_84 E hZ) (Or.inl ⟨by decide, by decide, by decide, rfl⟩) dX12_isWord_12 (fun x277 ex277 gx277 => ?_)
      replace gx277 : 0 ≤ x277.toInt ∧ x277.toInt ≤ 400 := gx277
      have := congrArg Int32.toInt ex277
      refine lv_iload hx hb dX12_isWord_15 (lv_at hl 0 rfl) ?_
      refine lv_iadd hx hb dX12_isWord_17 ?_
      refine lv_topi (fun x278 ex278 => ?_)
      have tx278 := zi_add ex278 (rfl : x277.toInt = x277.toInt) (rfl : j273.toInt = j273.toInt) ⟨by omega, by omega⟩
      refine zq_pcalli (zq_rV (As := [.int x278]) (rest := []) E hZ hM k_h0 (c_X12_isLetter l X zk (zn) I103 L h0 k_h0 x278 ⟨by omega, by omega⟩ (by omega)) zmX12_91 zM_X12_isLetter (hro (0) 2 (by first | decide | omega) (by decide)) ⟨by decide, by decide⟩ rfl hl.1 rfl rfl (Nat.le_of_ble_eq_true rfl) dX12_isWord_18) hS (fun x280 H locs h279 hM hS => ?_)
      obtain ⟨p281, p282, p283⟩ := h279
      refine lv_if_eq (tgt := 56) hx hb dX12_isWord_21 (by decide) (fun b284 => ?_) (fun b284 => ?_)
      · have b284 := zi_eq b284 (rfl : x280.toInt = x280.toInt) (zl_0 : (0 : Int32).toInt = 0)
        refine lv_iload hx hb dX12_isWord_56 (lv_at hl 0 rfl) ?_
        refine lv_if_le (tgt := 78) hx hb dX12_isWord_58 (by decide) (fun b285 => ?_) (fun b285 => ?_)
        · have b285 := zi_le b285 (rfl : j273.toInt = j273.toInt) (zl_0 : (0 : Int32).toInt = 0)
          refine lv_iconst (v := 0) hx hb dX12_isWord_78 (by decide +kernel) ?_
          subst hQ
          exact zq_zret E hr hZ hM hS (show 0 ≤ (0 : Int32).toInt ∧ (0 : Int32).toInt ≤ 1 by decide +kernel) ⟨hR, (hG109), (hSm110), (Or.inl (by decide +kernel)), (by have := zl_0; omega)⟩ hlocks dX12_isWord_79
        · have b285 := zi_nle b285 (rfl : j273.toInt = j273.toInt) (zl_0 : (0 : Int32).toInt = 0)
          refine lv_iload hx hb dX12_isWord_61 (lv_at hl 0 rfl) ?_
          refine lv_bipush (v := 8) hx hb dX12_isWord_63 (by decide +kernel) ?_
          refine lv_icmp_ge (tgt := 78) hx hb dX12_isWord_65 (by decide) (fun b286 => ?_) (fun b286 => ?_)
          · have b286 := zi_le b286 (zl_8 : (8 : Int32).toInt = 8) (rfl : j273.toInt = j273.toInt)
            refine lv_iconst (v := 0) hx hb dX12_isWord_78 (by decide +kernel) ?_
            subst hQ
            exact zq_zret E hr hZ hM hS (show 0 ≤ (0 : Int32).toInt ∧ (0 : Int32).toInt ≤ 1 by decide +kernel) ⟨hR, (hG109), (hSm110), (Or.inl (by decide +kernel)), (by have := zl_0; omega)⟩ hlocks dX12_isWord_79
          · have b286 := zi_nle b286 (zl_8 : (8 : Int32).toInt = 8) (rfl : j273.toInt = j273.toInt)
            refine lv_lload_n hx hb dX12_isWord_68 rfl (lv_at hl 1 rfl) ?_
            refine lv_lload_n hx hb dX12_isWord_69 rfl (lv_at hl 3 rfl) ?_
            refine zq_lcmp hx hb dX12_isWord_70 (fun x287 hx287 => ?_)
            refine lv_if_ne (tgt := 78) hx hb dX12_isWord_71 (by decide) (fun b288 => ?_) (fun b288 => ?_)
            · have b288 := zi_ne b288 (rfl : x287.toInt = x287.toInt) (zl_0 : (0 : Int32).toInt = 0)
              refine lv_iconst (v := 0) hx hb dX12_isWord_78 (by decide +kernel) ?_
              subst hQ
              exact zq_zret E hr hZ hM hS (show 0 ≤ (0 : Int32).toInt ∧ (0 : Int32).toInt ≤ 1 by decide +kernel) ⟨hR, (hG109), (hSm110), (Or.inl (by decide +kernel)), (by have := zl_0; omega)⟩ hlocks dX12_isWord_79
            · have b288 := zi_eq b288 (rfl : x287.toInt = x287.toInt) (zl_0 : (0 : Int32).toInt = 0)
              refine lv_iconst (v := 1) hx hb dX12_isWord_74 (by decide +kernel) ?_
              refine lv_goto (tgt := 79) hx hb dX12_isWord_75 (by decide) ?_
              subst hQ
              exact zq_zret E hr hZ hM hS (show 0 ≤ (1 : Int32).toInt ∧ (1 : Int32).toInt ≤ 1 by decide +kernel) ⟨hR, (hG109), (hSm110), (Or.inr (hiw.2.resolve_left (by omega))), (by have := zl_1; omega)⟩ hlocks dX12_isWord_79
      · have b284 := zi_ne b284 (rfl : x280.toInt = x280.toInt) (zl_0 : (0 : Int32).toInt = 0)
        refine lv_iload hx hb dX12_isWord_24 (lv_at hl 0 rfl) ?_
        refine lv_bipush (v := 8) hx hb dX12_isWord_26 (by decide +kernel) ?_
        have J50 : ∀ (ls : Array Slot) (jl295 : Int64), (lv_has ls 6 [(5, .int j273), (3, .long jl295), (0, .ref h0), (1, .long p1)]) → W p l e R s m args below meth c H locs 0 0 Q (F0 m 50 ls []) := by
          intro ls jl295 hl
          obtain ⟨x297, ex297⟩ : ∃ y : Int32, y = j273 + 1 := ⟨_, rfl⟩
          have tx297 := zi_add ex297 (rfl : j273.toInt = j273.toInt) zl_1 ⟨by omega, by omega⟩
          refine lv_iinc (v := x297) (lv' := [(5, .int x297), (3, .long jl295), (0, .ref h0), (1, .long p1)]) hx hb dX12_isWord_50 hl (k := 0) rfl (by rw [ex297]; rfl) (by decide) rfl (fun ls hl => ?_)
          refine lv_goto (tgt := 10) hx hb dX12_isWord_53 (by decide) ?_
          exact ih10 H locs ls x297 jl295 (by omega) hM hS (⟨by omega, by omega⟩) (⟨by have q := p281.resolve_left (by omega); omega, Or.inr (hiw.2.elim (fun q => zLt.mk ex277 (by have := zq_cl (i := x278) (by omega); have := zq_cl (i := x277) (by omega); omega) (by have q2 := p281.resolve_left (by omega); omega) (p281.resolve_left (by omega)).2) id)⟩) (lv_sub hl [0, 1, 2, 3] rfl)
        refine lv_icmp_ge (tgt := 50) hx hb dX12_isWord_28 (by decide) (fun b298 => ?_) (fun b298 => ?_)
        · have b298 := zi_le b298 (zl_8 : (8 : Int32).toInt = 8) (rfl : j273.toInt = j273.toInt)
          exact J50 ls jl274 (lv_sub hl [0, 1, 2, 3] rfl)
        · have b298 := zi_nle b298 (zl_8 : (8 : Int32).toInt = 8) (rfl : j273.toInt = j273.toInt)
          refine lv_lload_n hx hb dX12_isWord_31 rfl (lv_at hl 1 rfl) ?_
          refine lv_bipush (v := 8) hx hb dX12_isWord_32 (by decide +kernel) ?_
          refine lv_lshl hx hb dX12_isWord_34 rfl ?_
          refine lv_topl (fun y299 ey299 => ?_)
          refine lv_aload_n hx hb dX12_isWord_35 rfl (lv_at hl 2 rfl) ?_
          refine zq_getr E hM k_h0 (zFX12_7 E hZ) ⟨by decide, by decide, by decide, rfl⟩ dX12_isWord_36 ?_
          have k300 : zq_k X (zq_r X h0 0) = 50 := zq_lk L.1 k_h0 rfl (by decide)
          refine lv_aload_n hx hb dX12_isWord_39 rfl (lv_at hl 2 rfl) ?_
          refine zq_gk (v := x277) E hM k_h0 (zFX12_84 E hZ) (Or.inl ⟨by decide, by decide, by decide, rfl⟩) ex277 dX12_isWord_40 ?_
          refine lv_iload hx hb dX12_isWord_43 (lv_at hl 0 rfl) ?_
          refine lv_iadd hx hb dX12_isWord_45 ?_
          refine lv_topi (fun x301 ex301 => ?_)
          have tx301 := zi_add ex301 (rfl : x277.toInt = x277.toInt) (rfl : j273.toInt = j273.toInt) ⟨by omega, by omega⟩
          refine W.eq (g2 := F0 m 46 ls [.int x301, .ref (zq_r X h0 0), .long y299]) rfl ?_
          refine zq_ban (n := 400) (j := (x301.toNatClampNeg)) E hZ hM k300 ⟨by decide, rfl⟩ ⟨by omega, by omega⟩ rfl dX12_isWord_46 (fun x302 ex302 gx302 => ?_)
          clear gx302
          have := congrArg Int32.toInt ex302
          refine lv_i2l hx hb dX12_isWord_47 rfl ?_
          refine lv_topl (fun y303 ey303 => ?_)
          have ty303 := zi_i2l ey303
          have := zi_rng x302
          refine lv_lor hx hb dX12_isWord_48 ?_
          refine lv_topl (fun y304 ey304 => ?_)
          refine lv_lstore_n (lv' := [(3, .long y304), (5, .int j273), (0, .ref h0), (1, .long p1)]) hx hb dX12_isWord_49 rfl hl (by decide) rfl (fun ls hl => ?_)
          exact J50 ls y304 (lv_sub hl [1, 0, 2, 3] rfl)
  exact J10 (400 + 1 - (0 : Int32).toInt).toNat H locs ls (0 : Int32) (0 : Int64) (by omega) hM hS (by rw [zl_0]; decide) (⟨by have := zl_0; omega, Or.inl zl_0⟩) (lv_sub hl [0, 1, 2, 3] rfl)
def zw_X12_passWord : List (Nat × Nat) := [(10, 8)]
set_option maxHeartbeats 8000000 in
set_option maxRecDepth 100000 in
theorem c_X12_passWord (l : Launch) (X : zq_X) (zk zn : Nat) (I : zq_M) (L : zq_L X)  (h0 : Nat) (k_h0 : zq_k X h0 = 10) (q_0 : zk ≤ 4400 ∧ zn ≤ 4400) (q_1 : (I h0 8).toInt ≤ (I h0 1).toInt) : Met l yX12_passWord (zt_w yX12_passWord cX12_passWord 1 none) (zq_rm (1)) (va_Pc [.ref h0] (zq_W X (zk, zn) I)) (va_Qv (fun I2 => zq_fr (zf X zw_X12_passWord (fun _ => False)) I I2 ∧ (∀ b, zGo X h0 b 0 I I2) ∧ (zLt X I h0 → ∀ b, zGo X h0 b 1 I I2) ∧ (zLt X I h0 → (I h0 8).toInt + 1 ≤ (I2 h0 8).toInt)) (zq_E X (zk, zn)) (zq_A X)) 0 0 (zq_A X) := by
  refine Met.ofW (cc := cX12_passWord) (maxL := 1) (ret := none) (by decide) rfl ?_
  intro p e s m args below meth c s₁ B hml hv
  obtain ⟨hargs, hM, hZ⟩ := hv
  have hown : s.vm.findClass RX12 = some m.cls := findClass_of_methodNamed B.named
  have hts := atoms_spec (ws := zt_w yX12_passWord cX12_passWord 1 none) B.pre
  have E : CallFix p m c cX12_passWord 1 s args (Cond.code yX12_passWord cX12_passWord 1 none :: zt) RX12 := ⟨B.exec, B.bytes, hml, hown, hts⟩
  have hx := B.exec
  have hb := B.bytes
  have hr := B.returns
  have hlocks := B.notSynchronized
  clear B
  have hS : va_S (zq_A X) s.heap s.heap [] := va_S.rf
  have hR : zq_fr (zf X zw_X12_passWord (fun _ => False)) I I := zq_fr.rf
  have hl := lv_entry ([.ref h0]) (n := 1) (by exact Nat.le_of_ble_eq_true rfl)
  have hg : entryFrame m args 1 = F0 m 0 ((lg_sl ([.ref h0]) ++ List.replicate (1 - (lg_sl ([.ref h0])).length) Slot.unset).toArray) [] := by rw [hargs]; exact lg_entry_eq m ([.ref h0]) 1
  rw [hg]
  clear hg hargs
  generalize (lg_sl ([.ref h0]) ++ List.replicate (1 - (lg_sl ([.ref h0])).length) Slot.unset).toArray = ls at hl ⊢
  have hl : lv_has ls 1 [(0, .ref h0)] := by exact hl
  obtain ⟨R, hRm⟩ : ∃ R : Room, R = (headSpec (zt_w yX12_passWord cX12_passWord 1 none) (zq_rm (1))).room := ⟨_, rfl⟩
  rw [← hRm]
  have hro : ∀ d q : Nat, d + 1 ≤ 1 → q ≤ 45 → zq_rok d q R := fun d q h1 h2 => by rw [hRm]; exact zq_rokI h1 h2
  generalize hQ : MQ below _ args s 0 0 (zq_A X) = Q
  obtain ⟨H, hH⟩ : ∃ H, H = s.heap := ⟨_, rfl⟩
  obtain ⟨locs, hlo⟩ : ∃ x : List Loc, x = [] := ⟨_, rfl⟩
  rw [show W p l e R s m args below meth c s.heap [] 0 0 Q = W p l e R s m args below meth c H locs 0 0 Q by rw [hH, hlo]]
  have hM : zq_hm X (zk, zn) I H := by rw [hH]; exact hM
  have hS : va_S (zq_A X) s.heap H locs := by rw [hH, hlo]; exact hS
  clear hH hlo
  have hG0 : ∀ b, zGo X h0 b 0 I I := fun b => zGo.rf q_1
  have hT9 : I h0 1 = I h0 1 := rfl
  have hA9 : ∀ j, I (zq_r X h0 0) j = I (zq_r X h0 0) j := fun _ => rfl
  have J0 : ∀ (n120 : Nat) (I116 : zq_M) (H : Heap) (locs : List Loc) (ls : Array Slot), 401 - (I116 h0 8).toInt ≤ ((n120 : Nat) : Int) → (zq_hm X (zk, zn) I116 H) → (va_S (zq_A X) s.heap H locs) → (zq_fr (zf X zw_X12_passWord (fun _ => False)) I I116) → (∀ b, zGo X h0 b 0 I I116) → (I116 h0 1 = I h0 1) → (∀ j, I116 (zq_r X h0 0) j = I (zq_r X h0 0) j) → ((I h0 8).toInt + 1 ≤ (I116 h0 8).toInt ∨ I116 h0 8 = I h0 8) → (lv_has ls 1 [(0, .ref h0)]) → W p l e R s m args below meth c H locs 0 0 Q (F0 m 0 ls []) := by
    intro n120
    induction n120 with
    | zero => intro I116 H locs ls mu121 hM hS hR F117 F118 F119 hpw hl; exfalso; have q9 : _ ≤ (400 : Int) := (zq_rng hM k_h0 8).2; omega
    | succ n120 ih0 =>
      intro I116 H locs ls mu121 hM hS hR F117 F118 F119 hpw hl
      have h400 : (I116 h0 1).toInt ≤ 400 := (zq_rng hM k_h0 1).2
      refine lv_aload_n hx hb dX12_passWord_0 rfl (lv_at hl 0 rfl) ?_
      refine lv_aload_n hx hb dX12_passWord_1 rfl (lv_at hl 0 rfl) ?_
      refine zq_gn E hM k_h0 (zFX12_84 E hZ) (Or.inl ⟨by decide, by decide, by decide, rfl⟩) dX12_passWord_2 (fun x122 ex122 gx122 => ?_)
      replace gx122 : 0 ≤ x122.toInt ∧ x122.toInt ≤ 400 := gx122
      have := congrArg Int32.toInt ex122
      refine zq_pcalli (zq_rV (As := [.int x122]) (rest := []) E hZ hM k_h0 (c_X12_isLetter l X zk (zn) I116 L h0 k_h0 x122 ⟨by omega, by omega⟩ (by omega)) zmX12_91 zM_X12_isLetter (hro (0) 2 (by first | decide | omega) (by decide)) ⟨by decide, by decide⟩ rfl hl.1 rfl rfl (Nat.le_of_ble_eq_true rfl) dX12_passWord_5) hS (fun x124 H locs h123 hM hS => ?_)
      obtain ⟨p125, p126, p127⟩ := h123
      refine lv_if_eq (tgt := 24) hx hb dX12_passWord_8 (by decide) (fun b128 => ?_) (fun b128 => ?_)
      · have b128 := zi_eq b128 (rfl : x124.toInt = x124.toInt) (zl_0 : (0 : Int32).toInt = 0)
        subst hQ
        exact zq_vret E hr hZ hM hS ⟨hR, (F117), (fun hl => by
      have h8 : (I h0 8).toInt + 1 ≤ (I116 h0 8).toInt := by
        rcases hpw with q | q
        · exact q
        · exfalso; have := p126 (zLt.at hl q F118 F119 ex122); omega
      exact fun b => zGo.k1 (F117 b) (zLn.eq (zfr_o k_h0 hR rfl) (zfr_s L k_h0 hR rfl (by decide) rfl)) (zfr_o k_h0 hR rfl) h8), (fun hl => by
      have h8 : (I h0 8).toInt + 1 ≤ (I116 h0 8).toInt := by
        rcases hpw with q | q
        · exact q
        · exfalso; have := p126 (zLt.at hl q F118 F119 ex122); omega
      exact h8)⟩ hlocks dX12_passWord_24
      · have b128 := zi_ne b128 (rfl : x124.toInt = x124.toInt) (zl_0 : (0 : Int32).toInt = 0)
        refine lv_aload_n hx hb dX12_passWord_11 rfl (lv_at hl 0 rfl) ?_
        refine lv_dup hx hb dX12_passWord_12 rfl ?_
        refine zq_gk (v := x122) E hM k_h0 (zFX12_84 E hZ) (Or.inl ⟨by decide, by decide, by decide, rfl⟩) ex122 dX12_passWord_13 ?_
        refine lv_iconst (v := 1) hx hb dX12_passWord_16 (by decide +kernel) ?_
        refine lv_iadd hx hb dX12_passWord_17 ?_
        refine lv_topi (fun x129 ex129 => ?_)
        have tx129 := zi_add ex129 (rfl : x122.toInt = x122.toInt) (zl_1 : (1 : Int32).toInt = 1) ⟨by omega, by omega⟩
        refine zq_pn E hM hS k_h0 (zGX12_84 E hZ) ⟨by decide, by decide, by decide, rfl⟩ (show 0 ≤ x129.toInt ∧ x129.toInt ≤ 400 from ⟨by omega, by omega⟩) dX12_passWord_18 (fun I130 H locs eI130 hM hS => ?_)
        have hR := zq_fr.putE hR eI130 (zf_i k_h0 rfl rfl)
        have hG131 : ∀ b, zGo X h0 b 1 I I130 := (fun b => zGo.wk (zGo.p8 (F117 b) L k_h0 eI130 1 (by rw [ex122]; omega) (by decide) (by omega)) (by decide))
        have hK132 := (zq_kp eI130 (Or.inr (by decide)) F118)
        have hA133 := fun j => zq_kp eI130 (Or.inl (zq_kne (zq_lk L.1 k_h0 rfl (by decide) : zq_k X (zq_r X h0 0) = 50) k_h0 (by decide))) (F119 j)
        refine lv_goto (tgt := 0) hx hb dX12_passWord_21 (by decide) ?_
        exact ih0 I130 H locs ls (by rw [(zq_kv eI130)]; omega) hM hS hR (fun b => zGo.wk (hG131 b) (by decide)) hK132 hA133 (Or.inl (by have := hpw; rw [(zq_kv eI130)]; rcases this with q | q; omega; (have := congrArg Int32.toInt q; omega))) (lv_sub hl [0] rfl)
  exact J0 (401 - (I h0 8).toInt).toNat I H locs ls (by omega) hM hS hR hG0 hT9 hA9 (Or.inr rfl) (lv_sub hl [0] rfl)
def zw_X12_takesWord : List (Nat × Nat) := [(10, 8)]
set_option maxHeartbeats 8000000 in
set_option maxRecDepth 100000 in
theorem c_X12_takesWord (l : Launch) (X : zq_X) (zk zn : Nat) (I : zq_M) (L : zq_L X)  (h0 : Nat) (k_h0 : zq_k X h0 = 10) (p1 : Int64) (q_0 : zk ≤ 4400 ∧ zn ≤ 4400) (q_1 : (I h0 8).toInt ≤ (I h0 1).toInt) : Met l yX12_takesWord (zt_w yX12_takesWord cX12_takesWord 3 (some .boolean)) (zq_rm (2)) (va_Pc [.ref h0, .long p1] (zq_W X (zk, zn) I)) (va_Qi (fun (r : Int32) I2 => zq_fr (zf X zw_X12_takesWord (fun _ => False)) I I2 ∧ (∀ b, zGo X h0 b 0 I I2) ∧ (0 ≤ r.toInt ∧ r.toInt ≤ 1)) (zq_E X (zk, zn)) (zq_A X)) 0 0 (zq_A X) := by
  refine Met.ofW (cc := cX12_takesWord) (maxL := 3) (ret := (some .boolean)) (by decide) rfl ?_
  intro p e s m args below meth c s₁ B hml hv
  obtain ⟨hargs, hM, hZ⟩ := hv
  have hown : s.vm.findClass RX12 = some m.cls := findClass_of_methodNamed B.named
  have hts := atoms_spec (ws := zt_w yX12_takesWord cX12_takesWord 3 (some .boolean)) B.pre
  have E : CallFix p m c cX12_takesWord 3 s args (Cond.code yX12_takesWord cX12_takesWord 3 (some .boolean) :: zt) RX12 := ⟨B.exec, B.bytes, hml, hown, hts⟩
  have hx := B.exec
  have hb := B.bytes
  have hr := B.returns
  have hlocks := B.notSynchronized
  clear B
  have hS : va_S (zq_A X) s.heap s.heap [] := va_S.rf
  have hR : zq_fr (zf X zw_X12_takesWord (fun _ => False)) I I := zq_fr.rf
  have hl := lv_entry ([.ref h0, .long p1]) (n := 3) (by exact Nat.le_of_ble_eq_true rfl)
  have hg : entryFrame m args 3 = F0 m 0 ((lg_sl ([.ref h0, .long p1]) ++ List.replicate (3 - (lg_sl ([.ref h0, .long p1])).length) Slot.unset).toArray) [] := by rw [hargs]; exact lg_entry_eq m ([.ref h0, .long p1]) 3
  rw [hg]
  clear hg hargs
  generalize (lg_sl ([.ref h0, .long p1]) ++ List.replicate (3 - (lg_sl ([.ref h0, .long p1])).length) Slot.unset).toArray = ls at hl ⊢
  have hl : lv_has ls 3 [(0, .ref h0), (1, .long p1)] := by exact hl
  obtain ⟨R, hRm⟩ : ∃ R : Room, R = (headSpec (zt_w yX12_takesWord cX12_takesWord 3 (some .boolean)) (zq_rm (2))).room := ⟨_, rfl⟩
  rw [← hRm]
  have hro : ∀ d q : Nat, d + 1 ≤ 2 → q ≤ 45 → zq_rok d q R := fun d q h1 h2 => by rw [hRm]; exact zq_rokI h1 h2
  generalize hQ : MQ below _ args s 0 0 (zq_A X) = Q
  obtain ⟨H, hH⟩ : ∃ H, H = s.heap := ⟨_, rfl⟩
  obtain ⟨locs, hlo⟩ : ∃ x : List Loc, x = [] := ⟨_, rfl⟩
  rw [show W p l e R s m args below meth c s.heap [] 0 0 Q = W p l e R s m args below meth c H locs 0 0 Q by rw [hH, hlo]]
  have hM : zq_hm X (zk, zn) I H := by rw [hH]; exact hM
  have hS : va_S (zq_A X) s.heap H locs := by rw [hH, hlo]; exact hS
  clear hH hlo
  have hG0 : ∀ b, zGo X h0 b 0 I I := fun b => zGo.rf q_1
  refine lv_aload_n hx hb dX12_takesWord_0 rfl (lv_at hl 0 rfl) ?_
  refine lv_lload_n hx hb dX12_takesWord_1 rfl (lv_at hl 1 rfl) ?_
  refine zq_calli (zq_rV (As := [.long p1]) (rest := []) E hZ hM k_h0 (c_X12_isWord l X zk (zn) I L h0 k_h0 p1 (by omega) ((hG0 true).2.2.2.1)) zmX12_95 zM_X12_isWord (hro (1) 6 (by first | decide | omega) (by decide)) ⟨by decide, by decide⟩ rfl hl.1 rfl rfl (Nat.le_of_ble_eq_true rfl) dX12_takesWord_2) hS (fun x102 I103 H locs h101 hM hS => ?_)
  obtain ⟨fr104, p105, p106, p107, p108⟩ := h101
  have hR := zq_fr.call hR fr104 (zf_sub (by decide +kernel) (fun _ _ q => q.elim))
  have hG109 : ∀ b, zGo X h0 b 0 I I103 := (fun b => zGo.wk (zGo.tr (hG0 b) (p105 b)) (by decide))
  refine lv_if_ne (tgt := 10) hx hb dX12_takesWord_5 (by decide) (fun b110 => ?_) (fun b110 => ?_)
  · have b110 := zi_ne b110 (rfl : x102.toInt = x102.toInt) (zl_0 : (0 : Int32).toInt = 0)
    have hLt111 : zLt X I103 h0 := p107.resolve_left (by omega)
    refine lv_aload_n hx hb dX12_takesWord_10 rfl (lv_at hl 0 rfl) ?_
    refine zq_callv (zq_rV (As := []) (rest := []) E hZ hM k_h0 (c_X12_passWord l X zk (zn) I103 L h0 k_h0 (by omega) ((hG109 true).2.2.2.1)) zmX12_99 zM_X12_passWord (hro (1) 1 (by first | decide | omega) (by decide)) ⟨by decide, by decide⟩ rfl hl.1 rfl rfl (Nat.le_of_ble_eq_true rfl) dX12_takesWord_11) hS (fun I114 H locs h112 hM hS => ?_)
    obtain ⟨fr115, p116, p117, p118⟩ := h112
    have hR := zq_fr.call hR fr115 (zf_sub (by decide +kernel) (fun _ _ q => q.elim))
    have hG119 : ∀ b, zGo X h0 b 0 I I114 := (fun b => zGo.wk (zGo.tr (hG109 b) (p116 b)) (by decide))
    have hG123 : ∀ b, zGo X h0 b 1 I I114 := (fun b => zGo.wk (zGo.tr (hG109 b) (p117 hLt111 b)) (by decide))
    refine lv_iconst (v := 1) hx hb dX12_takesWord_14 (by decide +kernel) ?_
    subst hQ
    exact zq_zret E hr hZ hM hS (show 0 ≤ (1 : Int32).toInt ∧ (1 : Int32).toInt ≤ 1 by decide +kernel) ⟨hR, ((fun b => zGo.wk (hG123 b) (by decide))), (by have := zl_1; omega)⟩ hlocks dX12_takesWord_15
  · have b110 := zi_eq b110 (rfl : x102.toInt = x102.toInt) (zl_0 : (0 : Int32).toInt = 0)
    refine lv_iconst (v := 0) hx hb dX12_takesWord_8 (by decide +kernel) ?_
    subst hQ
    exact zq_zret E hr hZ hM hS (show 0 ≤ (0 : Int32).toInt ∧ (0 : Int32).toInt ≤ 1 by decide +kernel) ⟨hR, (hG109), (by have := zl_0; omega)⟩ hlocks dX12_takesWord_9
def zw_X12_numberHere : List (Nat × Nat) := [(10, 8), (10, 9), (10, 10)]
set_option maxHeartbeats 8000000 in
set_option maxRecDepth 100000 in
theorem c_X12_numberHere (l : Launch) (X : zq_X) (zk zn : Nat) (I : zq_M) (L : zq_L X)  (h0 : Nat) (k_h0 : zq_k X h0 = 10) (p1 : Int32) (p2 : Int32) (q_0 : zk ≤ 4400 ∧ zn ≤ 4400) (q_1 : (I h0 8).toInt ≤ (I h0 1).toInt) : Met l yX12_numberHere (zt_w yX12_numberHere cX12_numberHere 5 (some .boolean)) (zq_rm (1)) (va_Pc [.ref h0, .int p1, .int p2] (zq_W X (zk, zn) I)) (va_Qi (fun (r : Int32) I2 => zq_fr (zf X zw_X12_numberHere (fun _ => False)) I I2 ∧ (∀ b, zGo X h0 b 0 I I2) ∧ (r.toInt = 0 ∨ ((∀ b, zGo X h0 b 1 I I2) ∧ p1.toInt ≤ (I2 h0 10).toInt ∧ (I2 h0 10).toInt ≤ p2.toInt)) ∧ (0 ≤ r.toInt ∧ r.toInt ≤ 1)) (zq_E X (zk, zn)) (zq_A X)) 0 0 (zq_A X) := by
  refine Met.ofW (cc := cX12_numberHere) (maxL := 5) (ret := (some .boolean)) (by decide) rfl ?_
  intro p e s m args below meth c s₁ B hml hv
  obtain ⟨hargs, hM, hZ⟩ := hv
  have hown : s.vm.findClass RX12 = some m.cls := findClass_of_methodNamed B.named
  have hts := atoms_spec (ws := zt_w yX12_numberHere cX12_numberHere 5 (some .boolean)) B.pre
  have E : CallFix p m c cX12_numberHere 5 s args (Cond.code yX12_numberHere cX12_numberHere 5 (some .boolean) :: zt) RX12 := ⟨B.exec, B.bytes, hml, hown, hts⟩
  have hx := B.exec
  have hb := B.bytes
  have hr := B.returns
  have hlocks := B.notSynchronized
  clear B
  have hS : va_S (zq_A X) s.heap s.heap [] := va_S.rf
  have hR : zq_fr (zf X zw_X12_numberHere (fun _ => False)) I I := zq_fr.rf
  have hl := lv_entry ([.ref h0, .int p1, .int p2]) (n := 5) (by exact Nat.le_of_ble_eq_true rfl)
  have hg : entryFrame m args 5 = F0 m 0 ((lg_sl ([.ref h0, .int p1, .int p2]) ++ List.replicate (5 - (lg_sl ([.ref h0, .int p1, .int p2])).length) Slot.unset).toArray) [] := by rw [hargs]; exact lg_entry_eq m ([.ref h0, .int p1, .int p2]) 5
  rw [hg]
  clear hg hargs
  generalize (lg_sl ([.ref h0, .int p1, .int p2]) ++ List.replicate (5 - (lg_sl ([.ref h0, .int p1, .int p2])).length) Slot.unset).toArray = ls at hl ⊢
  have hl : lv_has ls 5 [(0, .ref h0), (1, .int p1), (2, .int p2)] := by exact hl
  obtain ⟨R, hRm⟩ : ∃ R : Room, R = (headSpec (zt_w yX12_numberHere cX12_numberHere 5 (some .boolean)) (zq_rm (1))).room := ⟨_, rfl⟩
  rw [← hRm]
  have hro : ∀ d q : Nat, d + 1 ≤ 1 → q ≤ 45 → zq_rok d q R := fun d q h1 h2 => by rw [hRm]; exact zq_rokI h1 h2
  generalize hQ : MQ below _ args s 0 0 (zq_A X) = Q
  obtain ⟨H, hH⟩ : ∃ H, H = s.heap := ⟨_, rfl⟩
  obtain ⟨locs, hlo⟩ : ∃ x : List Loc, x = [] := ⟨_, rfl⟩
  rw [show W p l e R s m args below meth c s.heap [] 0 0 Q = W p l e R s m args below meth c H locs 0 0 Q by rw [hH, hlo]]
  have hM : zq_hm X (zk, zn) I H := by rw [hH]; exact hM
  have hS : va_S (zq_A X) s.heap H locs := by rw [hH, hlo]; exact hS
  clear hH hlo
  have hG0 : ∀ b, zGo X h0 b 0 I I := fun b => zGo.rf q_1
  have hT9 : I h0 1 = I h0 1 := rfl
  have hA9 : ∀ j, I (zq_r X h0 0) j = I (zq_r X h0 0) j := fun _ => rfl
  refine lv_aload_n hx hb dX12_numberHere_0 rfl (lv_at hl 0 rfl) ?_
  refine zq_calli (zq_rV (As := []) (rest := []) E hZ hM k_h0 (c_X12_see l X zk (zn) I L h0 k_h0 (by omega) ((hG0 true).2.2.2.1)) zmX12_87 zM_X12_see (hro (0) 1 (by first | decide | omega) (by decide)) ⟨by decide, by decide⟩ rfl hl.1 rfl rfl (Nat.le_of_ble_eq_true rfl) dX12_numberHere_1) hS (fun x102 I103 H locs h101 hM hS => ?_)
  obtain ⟨fr104, p105, p106, p107, p108⟩ := h101
  have hR := zq_fr.call hR fr104 (zf_sub (by decide +kernel) (fun _ _ q => q.elim))
  have hG109 : ∀ b, zGo X h0 b 0 I I103 := (fun b => zGo.wk (zGo.tr (hG0 b) (p105 b)) (by decide))
  have hK110 := (zq_fr.kp fr104 (zf_n k_h0 rfl) hT9)
  have hA111 := fun j => zq_fr.kp fr104 (zf_n (zq_lk L.1 k_h0 rfl (by decide) : zq_k X (zq_r X h0 0) = 50) rfl) (hA9 j)
  refine lv_pop hx hb dX12_numberHere_4 rfl ?_
  refine lv_aload_n hx hb dX12_numberHere_5 rfl (lv_at hl 0 rfl) ?_
  refine lv_aload_n hx hb dX12_numberHere_6 rfl (lv_at hl 0 rfl) ?_
  refine zq_gn E hM k_h0 (zFX12_84 E hZ) (Or.inl ⟨by decide, by decide, by decide, rfl⟩) dX12_numberHere_7 (fun x112 ex112 gx112 => ?_)
  replace gx112 : 0 ≤ x112.toInt ∧ x112.toInt ≤ 400 := gx112
  have := congrArg Int32.toInt ex112
  refine zq_pcalli (zq_rV (As := [.int x112]) (rest := []) E hZ hM k_h0 (c_X12_isDigit l X zk (zn) I103 L h0 k_h0 x112 ⟨by omega, by omega⟩ (by omega)) zmX12_102 zM_X12_isDigit (hro (0) 2 (by first | decide | omega) (by decide)) ⟨by decide, by decide⟩ rfl hl.1 rfl rfl (Nat.le_of_ble_eq_true rfl) dX12_numberHere_10) hS (fun x114 H locs h113 hM hS => ?_)
  obtain ⟨p115, p116, p117⟩ := h113
  refine lv_if_ne (tgt := 26) hx hb dX12_numberHere_13 (by decide) (fun b118 => ?_) (fun b118 => ?_)
  · have b118 := zi_ne b118 (rfl : x114.toInt = x114.toInt) (zl_0 : (0 : Int32).toInt = 0)
    have hD9 : x112.toInt < (I h0 1).toInt ∧ 48 ≤ (I (zq_r X h0 0) x112.toNatClampNeg).toInt ∧ (I (zq_r X h0 0) x112.toNatClampNeg).toInt ≤ 57 := by have q := p115.resolve_left (by omega); rw [hK110, hA111] at q; exact q
    have hN9 : (I h0 8).toInt ≤ (I103 h0 8).toInt := (hG109 true).2.2.1
    refine lv_aload_n hx hb dX12_numberHere_26 rfl (lv_at hl 0 rfl) ?_
    refine zq_gk (v := x112) E hM k_h0 (zFX12_84 E hZ) (Or.inl ⟨by decide, by decide, by decide, rfl⟩) ex112 dX12_numberHere_27 ?_
    refine lv_istore_n (lv' := [(3, .int x112), (0, .ref h0), (1, .int p1), (2, .int p2)]) hx hb dX12_numberHere_30 rfl hl (by decide) rfl (fun ls hl => ?_)
    refine lv_iconst (v := 0) hx hb dX12_numberHere_31 (by decide +kernel) ?_
    refine lv_istore (lv' := [(4, .int (0 : Int32)), (3, .int x112), (0, .ref h0), (1, .int p1), (2, .int p2)]) hx hb dX12_numberHere_32 hl (by decide) rfl (fun ls hl => ?_)
    have J34 : ∀ (n219 : Nat) (I215 : zq_M) (H : Heap) (locs : List Loc) (ls : Array Slot) (j214 : Int32), 401 - (I215 h0 8).toInt ≤ ((n219 : Nat) : Int) → (zq_hm X (zk, zn) I215 H) → (va_S (zq_A X) s.heap H locs) → (zq_fr (zf X zw_X12_numberHere (fun _ => False)) I I215) → (∀ b, zGo X h0 b 0 I I215) → (I215 h0 1 = I h0 1) → (∀ j, I215 (zq_r X h0 0) j = I (zq_r X h0 0) j) → (I215 h0 8 = x112 ∨ x112.toInt + 1 ≤ (I215 h0 8).toInt) → (lv_has ls 5 [(4, .int j214), (3, .int x112), (0, .ref h0), (1, .int p1), (2, .int p2)]) → W p l e R s m args below meth c H locs 0 0 Q (F0 m 34 ls []) := by
      intro n219
      induction n219 with
      | zero => intro I215 H locs ls j214 mu220 hM hS hR F216 F217 F218 hnh hl; exfalso; have q9 : _ ≤ (400 : Int) := (zq_rng hM k_h0 8).2; omega
      | succ n219 ih34 =>
        intro I215 H locs ls j214 mu220 hM hS hR F216 F217 F218 hnh hl
        have h400 : (I215 h0 1).toInt ≤ 400 := (zq_rng hM k_h0 1).2
        refine lv_aload_n hx hb dX12_numberHere_34 rfl (lv_at hl 2 rfl) ?_
        refine lv_aload_n hx hb dX12_numberHere_35 rfl (lv_at hl 2 rfl) ?_
        refine zq_gn E hM k_h0 (zFX12_84 E hZ) (Or.inl ⟨by decide, by decide, by decide, rfl⟩) dX12_numberHere_36 (fun x221 ex221 gx221 => ?_)
        replace gx221 : 0 ≤ x221.toInt ∧ x221.toInt ≤ 400 := gx221
        have := congrArg Int32.toInt ex221
        refine zq_pcalli (zq_rV (As := [.int x221]) (rest := []) E hZ hM k_h0 (c_X12_isDigit l X zk (zn) I215 L h0 k_h0 x221 ⟨by omega, by omega⟩ (by omega)) zmX12_102 zM_X12_isDigit (hro (0) 2 (by first | decide | omega) (by decide)) ⟨by decide, by decide⟩ rfl hl.1 rfl rfl (Nat.le_of_ble_eq_true rfl) dX12_numberHere_39) hS (fun x223 H locs h222 hM hS => ?_)
        obtain ⟨p224, p225, p226⟩ := h222
        refine lv_if_eq (tgt := 88) hx hb dX12_numberHere_42 (by decide) (fun b227 => ?_) (fun b227 => ?_)
        · have b227 := zi_eq b227 (rfl : x223.toInt = x223.toInt) (zl_0 : (0 : Int32).toInt = 0)
          have hM9 : x112.toInt + 1 ≤ (I215 h0 8).toInt := by
            rcases hnh with q | q
            · exfalso; have q2 := hD9; rw [← F217, ← F218, show x112 = x221 from q.symm.trans ex221] at q2; have := p225 q2; omega
            · exact q
          refine lv_aload_n hx hb dX12_numberHere_88 rfl (lv_at hl 2 rfl) ?_
          refine lv_iload hx hb dX12_numberHere_89 (lv_at hl 0 rfl) ?_
          refine zq_pn E hM hS k_h0 (zGX12_109 E hZ) ⟨by decide, by decide, by decide, rfl⟩ (zq_any _) dX12_numberHere_91 (fun I228 H locs eI228 hM hS => ?_)
          have hR := zq_fr.putE hR eI228 (zf_i k_h0 rfl rfl)
          have hG229 : ∀ b, zGo X h0 b 0 I I228 := (fun b => zGo.wk (zGo.pt (F216 b) L k_h0 eI228 k_h0 rfl) (by decide))
          have hK230 := (zq_kp eI228 (Or.inr (by decide)) F217)
          have hA231 := fun j => zq_kp eI228 (Or.inl (zq_kne (zq_lk L.1 k_h0 rfl (by decide) : zq_k X (zq_r X h0 0) = 50) k_h0 (by decide))) (F218 j)
          refine lv_aload_n hx hb dX12_numberHere_94 rfl (lv_at hl 2 rfl) ?_
          refine zq_gk (v := x221) E hM k_h0 (zFX12_84 E hZ) (Or.inl ⟨by decide, by decide, by decide, rfl⟩) (zq_kp eI228 (Or.inr (by decide)) ex221) dX12_numberHere_95 ?_
          refine lv_iload_n hx hb dX12_numberHere_98 rfl (lv_at hl 1 rfl) ?_
          refine lv_isub hx hb dX12_numberHere_99 ?_
          refine lv_topi (fun x232 ex232 => ?_)
          have tx232 := zi_sub ex232 (rfl : x221.toInt = x221.toInt) (rfl : x112.toInt = x112.toInt) ⟨by omega, by omega⟩
          refine lv_iconst (v := 5) hx hb dX12_numberHere_100 (by decide +kernel) ?_
          have J117 : ∀ (H : Heap) (locs : List Loc) (ls : Array Slot), (zq_hm X (zk, zn) I228 H) → (va_S (zq_A X) s.heap H locs) → (lv_has ls 5 [(4, .int j214), (3, .int x112), (0, .ref h0), (1, .int p1), (2, .int p2)]) → W p l e R s m args below meth c H locs 0 0 Q (F0 m 117 ls []) := by
            intro H locs ls hM hS hl
            refine lv_aload_n hx hb dX12_numberHere_117 rfl (lv_at hl 2 rfl) ?_
            refine lv_iconst (v := 1) hx hb dX12_numberHere_118 (by decide +kernel) ?_
            refine lv_iload_n hx hb dX12_numberHere_119 rfl (lv_at hl 1 rfl) ?_
            refine zq_calli (zq_rV (As := [.int (1 : Int32), .int x112]) (rest := []) E hZ hM k_h0 (c_X12_fails l X zk (zn) I228 L h0 k_h0 (1 : Int32) x112 (by have := zl_1; omega)) zmX12_105 zM_X12_fails (hro (0) 3 (by first | decide | omega) (by decide)) ⟨by decide, by decide⟩ rfl hl.1 rfl rfl (Nat.le_of_ble_eq_true rfl) dX12_numberHere_120) hS (fun x250 I251 H locs h249 hM hS => ?_)
            obtain ⟨fr252, p253, p254⟩ := h249
            have := zl_1
            have hR := zq_fr.call hR fr252 (zf_sub (by decide +kernel) (fun _ _ q => q.elim))
            have hG255 : ∀ b, zGo X h0 b 0 I I251 := (fun b => zGo.wk (zGo.fr (hG229 b) L k_h0 fr252 rfl rfl rfl) (by decide))
            have hK256 := (zq_fr.kp fr252 (zf_n k_h0 rfl) hK230)
            have hA257 := fun j => zq_fr.kp fr252 (zf_n (zq_lk L.1 k_h0 rfl (by decide) : zq_k X (zq_r X h0 0) = 50) rfl) (hA231 j)
            refine lv_if_eq (tgt := 130) hx hb dX12_numberHere_123 (by decide) (fun b258 => ?_) (fun b258 => ?_)
            · have b258 := zi_eq b258 (rfl : x250.toInt = x250.toInt) (zl_0 : (0 : Int32).toInt = 0)
              refine lv_iconst (v := 0) hx hb dX12_numberHere_130 (by decide +kernel) ?_
              subst hQ
              exact zq_zret E hr hZ hM hS (show 0 ≤ (0 : Int32).toInt ∧ (0 : Int32).toInt ≤ 1 by decide +kernel) ⟨hR, (hG255), (Or.inl (by decide +kernel)), (by have := zl_0; omega)⟩ hlocks dX12_numberHere_131
            · have b258 := zi_ne b258 (rfl : x250.toInt = x250.toInt) (zl_0 : (0 : Int32).toInt = 0)
              exfalso; omega
          refine lv_icmp_gt (tgt := 117) hx hb dX12_numberHere_101 (by decide) (fun b259 => ?_) (fun b259 => ?_)
          · have b259 := zi_lt b259 (zl_5 : (5 : Int32).toInt = 5) (rfl : x232.toInt = x232.toInt)
            exact J117 H locs ls hM hS (lv_sub hl [0, 1, 2, 3, 4] rfl)
          · have b259 := zi_nlt b259 (zl_5 : (5 : Int32).toInt = 5) (rfl : x232.toInt = x232.toInt)
            refine lv_iload hx hb dX12_numberHere_104 (lv_at hl 0 rfl) ?_
            refine lv_i2l hx hb dX12_numberHere_106 rfl ?_
            refine lv_topl (fun y260 ey260 => ?_)
            have ty260 := zi_i2l ey260
            have := zi_rng j214
            refine lv_iload_n hx hb dX12_numberHere_107 rfl (lv_at hl 3 rfl) ?_
            refine lv_i2l hx hb dX12_numberHere_108 rfl ?_
            refine lv_topl (fun y261 ey261 => ?_)
            have ty261 := zi_i2l ey261
            have := zi_rng p1
            refine lv_iload_n hx hb dX12_numberHere_109 rfl (lv_at hl 4 rfl) ?_
            refine lv_i2l hx hb dX12_numberHere_110 rfl ?_
            refine lv_topl (fun y262 ey262 => ?_)
            have ty262 := zi_i2l ey262
            have := zi_rng p2
            refine zq_pcalli (zq_rS (As := [.long y260, .long y261, .long y262]) (rest := []) E hZ hM (c_X12_in l X zk (zn) I228 L y260 y261 y262) zmX12_112 zM_X12_in (hro (0) 6 (by first | decide | omega) (by decide)) hl.1 rfl rfl (Nat.le_of_ble_eq_true rfl) dX12_numberHere_111) hS (fun x264 H locs h263 hM hS => ?_)
            obtain ⟨p265, p266⟩ := h263
            refine lv_if_ne (tgt := 126) hx hb dX12_numberHere_114 (by decide) (fun b267 => ?_) (fun b267 => ?_)
            · have b267 := zi_ne b267 (rfl : x264.toInt = x264.toInt) (zl_0 : (0 : Int32).toInt = 0)
              refine lv_iconst (v := 1) hx hb dX12_numberHere_126 (by decide +kernel) ?_
              refine lv_goto (tgt := 131) hx hb dX12_numberHere_127 (by decide) ?_
              subst hQ
              exact zq_zret E hr hZ hM hS (show 0 ≤ (1 : Int32).toInt ∧ (1 : Int32).toInt ≤ 1 by decide +kernel) ⟨hR, (hG229), (Or.inr ⟨fun b => zGo.k1 (hG229 b) (zLn.eq (zfr_o k_h0 hR rfl) (zfr_s L k_h0 hR rfl (by decide) rfl)) (zfr_o k_h0 hR rfl) (by rw [(zq_kp eI228 (Or.inr (by decide)) ex221)]; omega), by rw [(zq_kv eI228)]; exact ⟨by omega, by omega⟩⟩), (by have := zl_1; omega)⟩ hlocks dX12_numberHere_131
            · have b267 := zi_eq b267 (rfl : x264.toInt = x264.toInt) (zl_0 : (0 : Int32).toInt = 0)
              exact J117 H locs ls hM hS (lv_sub hl [0, 1, 2, 3, 4] rfl)
        · have b227 := zi_ne b227 (rfl : x223.toInt = x223.toInt) (zl_0 : (0 : Int32).toInt = 0)
          refine lv_aload_n hx hb dX12_numberHere_45 rfl (lv_at hl 2 rfl) ?_
          refine zq_gk (v := x221) E hM k_h0 (zFX12_84 E hZ) (Or.inl ⟨by decide, by decide, by decide, rfl⟩) ex221 dX12_numberHere_46 ?_
          refine lv_iload_n hx hb dX12_numberHere_49 rfl (lv_at hl 1 rfl) ?_
          refine lv_isub hx hb dX12_numberHere_50 ?_
          refine lv_topi (fun x268 ex268 => ?_)
          have tx268 := zi_sub ex268 (rfl : x221.toInt = x221.toInt) (rfl : x112.toInt = x112.toInt) ⟨by omega, by omega⟩
          refine lv_iconst (v := 5) hx hb dX12_numberHere_51 (by decide +kernel) ?_
          have J75 : ∀ (ls : Array Slot) (j274 : Int32), (lv_has ls 5 [(4, .int j274), (3, .int x112), (0, .ref h0), (1, .int p1), (2, .int p2)]) → W p l e R s m args below meth c H locs 0 0 Q (F0 m 75 ls []) := by
            intro ls j274 hl
            refine lv_aload_n hx hb dX12_numberHere_75 rfl (lv_at hl 2 rfl) ?_
            refine lv_dup hx hb dX12_numberHere_76 rfl ?_
            refine zq_gk (v := x221) E hM k_h0 (zFX12_84 E hZ) (Or.inl ⟨by decide, by decide, by decide, rfl⟩) ex221 dX12_numberHere_77 ?_
            refine lv_iconst (v := 1) hx hb dX12_numberHere_80 (by decide +kernel) ?_
            refine lv_iadd hx hb dX12_numberHere_81 ?_
            refine lv_topi (fun x280 ex280 => ?_)
            have tx280 := zi_add ex280 (rfl : x221.toInt = x221.toInt) (zl_1 : (1 : Int32).toInt = 1) ⟨by omega, by omega⟩
            refine zq_pn E hM hS k_h0 (zGX12_84 E hZ) ⟨by decide, by decide, by decide, rfl⟩ (show 0 ≤ x280.toInt ∧ x280.toInt ≤ 400 from ⟨by omega, by omega⟩) dX12_numberHere_82 (fun I281 H locs eI281 hM hS => ?_)
            have hR := zq_fr.putE hR eI281 (zf_i k_h0 rfl rfl)
            have hG282 : ∀ b, zGo X h0 b 1 I I281 := (fun b => zGo.wk (zGo.p8 (F216 b) L k_h0 eI281 1 (by rw [ex221]; omega) (by decide) (by omega)) (by decide))
            have hK283 := (zq_kp eI281 (Or.inr (by decide)) F217)
            have hA284 := fun j => zq_kp eI281 (Or.inl (zq_kne (zq_lk L.1 k_h0 rfl (by decide) : zq_k X (zq_r X h0 0) = 50) k_h0 (by decide))) (F218 j)
            refine lv_goto (tgt := 34) hx hb dX12_numberHere_85 (by decide) ?_
            exact ih34 I281 H locs ls j274 (by rw [(zq_kv eI281)]; omega) hM hS hR (fun b => zGo.wk (hG282 b) (by decide)) hK283 hA284 (Or.inr (by have := hnh; rw [(zq_kv eI281)]; rcases this with q | q; (have := congrArg Int32.toInt q; omega); omega)) (lv_sub hl [0, 1, 2, 3, 4] rfl)
          refine lv_icmp_ge (tgt := 75) hx hb dX12_numberHere_52 (by decide) (fun b285 => ?_) (fun b285 => ?_)
          · have b285 := zi_le b285 (zl_5 : (5 : Int32).toInt = 5) (rfl : x268.toInt = x268.toInt)
            exact J75 ls j214 (lv_sub hl [0, 1, 2, 3, 4] rfl)
          · have b285 := zi_nle b285 (zl_5 : (5 : Int32).toInt = 5) (rfl : x268.toInt = x268.toInt)
            refine lv_bipush (v := 10) hx hb dX12_numberHere_55 (by decide +kernel) ?_
            refine lv_iload hx hb dX12_numberHere_57 (lv_at hl 0 rfl) ?_
            refine lv_imul hx hb dX12_numberHere_59 ?_
            refine lv_topi (fun x286 ex286 => ?_)
            refine lv_aload_n hx hb dX12_numberHere_60 rfl (lv_at hl 2 rfl) ?_
            refine zq_getr E hM k_h0 (zFX12_7 E hZ) ⟨by decide, by decide, by decide, rfl⟩ dX12_numberHere_61 ?_
            have k287 : zq_k X (zq_r X h0 0) = 50 := zq_lk L.1 k_h0 rfl (by decide)
            refine lv_aload_n hx hb dX12_numberHere_64 rfl (lv_at hl 2 rfl) ?_
            refine zq_gk (v := x221) E hM k_h0 (zFX12_84 E hZ) (Or.inl ⟨by decide, by decide, by decide, rfl⟩) ex221 dX12_numberHere_65 ?_
            refine zq_ban (n := 400) (j := (x221.toNatClampNeg)) E hZ hM k287 ⟨by decide, rfl⟩ ⟨by omega, by omega⟩ rfl dX12_numberHere_68 (fun x288 ex288 gx288 => ?_)
            clear gx288
            have := congrArg Int32.toInt ex288
            refine lv_iadd hx hb dX12_numberHere_69 ?_
            refine lv_topi (fun x289 ex289 => ?_)
            refine W.eq (g2 := F0 m 70 ls [.int x289]) rfl ?_
            refine lv_bipush (v := 48) hx hb dX12_numberHere_70 (by decide +kernel) ?_
            refine lv_isub hx hb dX12_numberHere_72 ?_
            refine lv_topi (fun x290 ex290 => ?_)
            refine lv_istore (lv' := [(4, .int x290), (3, .int x112), (0, .ref h0), (1, .int p1), (2, .int p2)]) hx hb dX12_numberHere_73 hl (by decide) rfl (fun ls hl => ?_)
            exact J75 ls x290 (lv_sub hl [0, 1, 2, 3, 4] rfl)
    exact J34 (401 - (I103 h0 8).toInt).toNat I103 H locs ls (0 : Int32) (by omega) hM hS hR hG109 hK110 hA111 (Or.inl ex112) (lv_sub hl [0, 1, 2, 3, 4] rfl)
  · have b118 := zi_eq b118 (rfl : x114.toInt = x114.toInt) (zl_0 : (0 : Int32).toInt = 0)
    refine lv_aload_n hx hb dX12_numberHere_16 rfl (lv_at hl 0 rfl) ?_
    refine lv_iconst (v := 0) hx hb dX12_numberHere_17 (by decide +kernel) ?_
    refine lv_aload_n hx hb dX12_numberHere_18 rfl (lv_at hl 0 rfl) ?_
    refine zq_gk (v := x112) E hM k_h0 (zFX12_84 E hZ) (Or.inl ⟨by decide, by decide, by decide, rfl⟩) ex112 dX12_numberHere_19 ?_
    refine zq_calli (zq_rV (As := [.int (0 : Int32), .int x112]) (rest := []) E hZ hM k_h0 (c_X12_fails l X zk (zn) I103 L h0 k_h0 (0 : Int32) x112 (by have := zl_0; omega)) zmX12_105 zM_X12_fails (hro (0) 3 (by first | decide | omega) (by decide)) ⟨by decide, by decide⟩ rfl hl.1 rfl rfl (Nat.le_of_ble_eq_true rfl) dX12_numberHere_22) hS (fun x292 I293 H locs h291 hM hS => ?_)
    obtain ⟨fr294, p295, p296⟩ := h291
    have := zl_0
    have hR := zq_fr.call hR fr294 (zf_sub (by decide +kernel) (fun _ _ q => q.elim))
    have hG297 : ∀ b, zGo X h0 b 0 I I293 := (fun b => zGo.wk (zGo.fr (hG109 b) L k_h0 fr294 rfl rfl rfl) (by decide))
    have hK298 := (zq_fr.kp fr294 (zf_n k_h0 rfl) hK110)
    have hA299 := fun j => zq_fr.kp fr294 (zf_n (zq_lk L.1 k_h0 rfl (by decide) : zq_k X (zq_r X h0 0) = 50) rfl) (hA111 j)
    have hE300 : x102.toInt = -1 ∨ zAt X I293 h0 := p107.imp id (fun q9 => zAt.sm q9 (fun _ => ⟨zfr_o k_h0 fr294 rfl, zfr_o k_h0 fr294 rfl, zfr_s L k_h0 fr294 rfl (by decide) rfl⟩))
    subst hQ
    exact zq_zret E hr hZ hM hS (show 0 ≤ x292.toInt ∧ x292.toInt ≤ 1 from ⟨by omega, by omega⟩) ⟨hR, (hG297), (Or.inl (by omega)), (by omega)⟩ hlocks dX12_numberHere_25
def zw_X12_wordHere : List (Nat × Nat) := [(10, 8)]
set_option maxHeartbeats 8000000 in
set_option maxRecDepth 100000 in
theorem c_X12_wordHere (l : Launch) (X : zq_X) (zk zn : Nat) (I : zq_M) (L : zq_L X)  (h0 : Nat) (k_h0 : zq_k X h0 = 10) (q_0 : zk ≤ 4400 ∧ zn ≤ 4400) (q_1 : (I h0 8).toInt ≤ (I h0 1).toInt) : Met l yX12_wordHere (zt_w yX12_wordHere cX12_wordHere 1 (some .int)) (zq_rm (2)) (va_Pc [.ref h0] (zq_W X (zk, zn) I)) (va_Qi (fun (r : Int32) I2 => zq_fr (zf X zw_X12_wordHere (fun _ => False)) I I2 ∧ (∀ b, zGo X h0 b 0 I I2) ∧ (r.toInt < 0 ∨ zLt X I2 h0) ∧ ((-1) ≤ r.toInt ∧ r.toInt ≤ 12)) (zq_E X (zk, zn)) (zq_A X)) 0 0 (zq_A X) := by
  refine Met.ofW (cc := cX12_wordHere) (maxL := 1) (ret := (some .int)) (by decide) rfl ?_
  intro p e s m args below meth c s₁ B hml hv
  obtain ⟨hargs, hM, hZ⟩ := hv
  have hown : s.vm.findClass RX12 = some m.cls := findClass_of_methodNamed B.named
  have hts := atoms_spec (ws := zt_w yX12_wordHere cX12_wordHere 1 (some .int)) B.pre
  have E : CallFix p m c cX12_wordHere 1 s args (Cond.code yX12_wordHere cX12_wordHere 1 (some .int) :: zt) RX12 := ⟨B.exec, B.bytes, hml, hown, hts⟩
  have hx := B.exec
  have hb := B.bytes
  have hr := B.returns
  have hlocks := B.notSynchronized
  clear B
  have hS : va_S (zq_A X) s.heap s.heap [] := va_S.rf
  have hR : zq_fr (zf X zw_X12_wordHere (fun _ => False)) I I := zq_fr.rf
  have hl := lv_entry ([.ref h0]) (n := 1) (by exact Nat.le_of_ble_eq_true rfl)
  have hg : entryFrame m args 1 = F0 m 0 ((lg_sl ([.ref h0]) ++ List.replicate (1 - (lg_sl ([.ref h0])).length) Slot.unset).toArray) [] := by rw [hargs]; exact lg_entry_eq m ([.ref h0]) 1
  rw [hg]
  clear hg hargs
  generalize (lg_sl ([.ref h0]) ++ List.replicate (1 - (lg_sl ([.ref h0])).length) Slot.unset).toArray = ls at hl ⊢
  have hl : lv_has ls 1 [(0, .ref h0)] := by exact hl
  obtain ⟨R, hRm⟩ : ∃ R : Room, R = (headSpec (zt_w yX12_wordHere cX12_wordHere 1 (some .int)) (zq_rm (2))).room := ⟨_, rfl⟩
  rw [← hRm]
  have hro : ∀ d q : Nat, d + 1 ≤ 2 → q ≤ 45 → zq_rok d q R := fun d q h1 h2 => by rw [hRm]; exact zq_rokI h1 h2
  generalize hQ : MQ below _ args s 0 0 (zq_A X) = Q
  obtain ⟨H, hH⟩ : ∃ H, H = s.heap := ⟨_, rfl⟩
  obtain ⟨locs, hlo⟩ : ∃ x : List Loc, x = [] := ⟨_, rfl⟩
  rw [show W p l e R s m args below meth c s.heap [] 0 0 Q = W p l e R s m args below meth c H locs 0 0 Q by rw [hH, hlo]]
  have hM : zq_hm X (zk, zn) I H := by rw [hH]; exact hM
  have hS : va_S (zq_A X) s.heap H locs := by rw [hH, hlo]; exact hS
  clear hH hlo
  have hG0 : ∀ b, zGo X h0 b 0 I I := fun b => zGo.rf q_1
  refine lv_aload_n hx hb dX12_wordHere_0 rfl (lv_at hl 0 rfl) ?_
  refine W.ldc2 (v := 1936222576) hx hb hown (hts _ (List.mem_cons_of_mem _ zCX12_116)) rfl dX12_wordHere_1 ?_
  refine W.eq (g2 := F0 m 4 ls [.long (1936222576 : Int64), .ref h0]) rfl ?_
  refine zq_calli (zq_rV (As := [.long (1936222576 : Int64)]) (rest := []) E hZ hM k_h0 (c_X12_isWord l X zk (zn) I L h0 k_h0 (1936222576 : Int64) (by have : (1936222576 : Int64).toInt = 1936222576 := (by decide +kernel); omega) ((hG0 true).2.2.2.1)) zmX12_95 zM_X12_isWord (hro (1) 6 (by first | decide | omega) (by decide)) ⟨by decide, by decide⟩ rfl hl.1 rfl rfl (Nat.le_of_ble_eq_true rfl) dX12_wordHere_4) hS (fun x102 I103 H locs h101 hM hS => ?_)
  obtain ⟨fr104, p105, p106, p107, p108⟩ := h101
  have : (1936222576 : Int64).toInt = 1936222576 := by decide +kernel
  have hR := zq_fr.call hR fr104 (zf_sub (by decide +kernel) (fun _ _ q => q.elim))
  have hG109 : ∀ b, zGo X h0 b 0 I I103 := (fun b => zGo.wk (zGo.tr (hG0 b) (p105 b)) (by decide))
  refine lv_if_eq (tgt := 12) hx hb dX12_wordHere_7 (by decide) (fun b110 => ?_) (fun b110 => ?_)
  · have b110 := zi_eq b110 (rfl : x102.toInt = x102.toInt) (zl_0 : (0 : Int32).toInt = 0)
    refine lv_aload_n hx hb dX12_wordHere_12 rfl (lv_at hl 0 rfl) ?_
    refine W.ldc2 (v := 1953462126) hx hb hown (hts _ (List.mem_cons_of_mem _ zCX12_118)) rfl dX12_wordHere_13 ?_
    refine W.eq (g2 := F0 m 16 ls [.long (1953462126 : Int64), .ref h0]) rfl ?_
    refine zq_calli (zq_rV (As := [.long (1953462126 : Int64)]) (rest := []) E hZ hM k_h0 (c_X12_isWord l X zk (zn) I103 L h0 k_h0 (1953462126 : Int64) (by have : (1953462126 : Int64).toInt = 1953462126 := (by decide +kernel); omega) ((hG109 true).2.2.2.1)) zmX12_95 zM_X12_isWord (hro (1) 6 (by first | decide | omega) (by decide)) ⟨by decide, by decide⟩ rfl hl.1 rfl rfl (Nat.le_of_ble_eq_true rfl) dX12_wordHere_16) hS (fun x112 I113 H locs h111 hM hS => ?_)
    obtain ⟨fr114, p115, p116, p117, p118⟩ := h111
    have : (1953462126 : Int64).toInt = 1953462126 := by decide +kernel
    have hR := zq_fr.call hR fr114 (zf_sub (by decide +kernel) (fun _ _ q => q.elim))
    have hG119 : ∀ b, zGo X h0 b 0 I I113 := (fun b => zGo.wk (zGo.tr (hG109 b) (p115 b)) (by decide))
    have hW120 : x102.toInt = 0 ∨ zLt X I113 h0 := p107.imp id (fun q9 => zLt.sm q9 p116)
    refine lv_if_eq (tgt := 24) hx hb dX12_wordHere_19 (by decide) (fun b122 => ?_) (fun b122 => ?_)
    · have b122 := zi_eq b122 (rfl : x112.toInt = x112.toInt) (zl_0 : (0 : Int32).toInt = 0)
      refine lv_aload_n hx hb dX12_wordHere_24 rfl (lv_at hl 0 rfl) ?_
      refine W.ldc2 (v := 120325361920115) hx hb hown (hts _ (List.mem_cons_of_mem _ zCX12_120)) rfl dX12_wordHere_25 ?_
      refine W.eq (g2 := F0 m 28 ls [.long (120325361920115 : Int64), .ref h0]) rfl ?_
      refine zq_calli (zq_rV (As := [.long (120325361920115 : Int64)]) (rest := []) E hZ hM k_h0 (c_X12_isWord l X zk (zn) I113 L h0 k_h0 (120325361920115 : Int64) (by have : (120325361920115 : Int64).toInt = 120325361920115 := (by decide +kernel); omega) ((hG119 true).2.2.2.1)) zmX12_95 zM_X12_isWord (hro (1) 6 (by first | decide | omega) (by decide)) ⟨by decide, by decide⟩ rfl hl.1 rfl rfl (Nat.le_of_ble_eq_true rfl) dX12_wordHere_28) hS (fun x124 I125 H locs h123 hM hS => ?_)
      obtain ⟨fr126, p127, p128, p129, p130⟩ := h123
      have : (120325361920115 : Int64).toInt = 120325361920115 := by decide +kernel
      have hR := zq_fr.call hR fr126 (zf_sub (by decide +kernel) (fun _ _ q => q.elim))
      have hG131 : ∀ b, zGo X h0 b 0 I I125 := (fun b => zGo.wk (zGo.tr (hG119 b) (p127 b)) (by decide))
      have hW132 : x112.toInt = 0 ∨ zLt X I125 h0 := p117.imp id (fun q9 => zLt.sm q9 p128)
      refine lv_if_eq (tgt := 36) hx hb dX12_wordHere_31 (by decide) (fun b134 => ?_) (fun b134 => ?_)
      · have b134 := zi_eq b134 (rfl : x124.toInt = x124.toInt) (zl_0 : (0 : Int32).toInt = 0)
        refine lv_aload_n hx hb dX12_wordHere_36 rfl (lv_at hl 0 rfl) ?_
        refine W.ldc2 (v := 1751474548) hx hb hown (hts _ (List.mem_cons_of_mem _ zCX12_122)) rfl dX12_wordHere_37 ?_
        refine W.eq (g2 := F0 m 40 ls [.long (1751474548 : Int64), .ref h0]) rfl ?_
        refine zq_calli (zq_rV (As := [.long (1751474548 : Int64)]) (rest := []) E hZ hM k_h0 (c_X12_isWord l X zk (zn) I125 L h0 k_h0 (1751474548 : Int64) (by have : (1751474548 : Int64).toInt = 1751474548 := (by decide +kernel); omega) ((hG131 true).2.2.2.1)) zmX12_95 zM_X12_isWord (hro (1) 6 (by first | decide | omega) (by decide)) ⟨by decide, by decide⟩ rfl hl.1 rfl rfl (Nat.le_of_ble_eq_true rfl) dX12_wordHere_40) hS (fun x136 I137 H locs h135 hM hS => ?_)
        obtain ⟨fr138, p139, p140, p141, p142⟩ := h135
        have : (1751474548 : Int64).toInt = 1751474548 := by decide +kernel
        have hR := zq_fr.call hR fr138 (zf_sub (by decide +kernel) (fun _ _ q => q.elim))
        have hG143 : ∀ b, zGo X h0 b 0 I I137 := (fun b => zGo.wk (zGo.tr (hG131 b) (p139 b)) (by decide))
        have hW144 : x124.toInt = 0 ∨ zLt X I137 h0 := p129.imp id (fun q9 => zLt.sm q9 p140)
        refine lv_if_eq (tgt := 48) hx hb dX12_wordHere_43 (by decide) (fun b146 => ?_) (fun b146 => ?_)
        · have b146 := zi_eq b146 (rfl : x136.toInt = x136.toInt) (zl_0 : (0 : Int32).toInt = 0)
          refine lv_aload_n hx hb dX12_wordHere_48 rfl (lv_at hl 0 rfl) ?_
          refine W.ldc2 (v := 2002873972) hx hb hown (hts _ (List.mem_cons_of_mem _ zCX12_124)) rfl dX12_wordHere_49 ?_
          refine W.eq (g2 := F0 m 52 ls [.long (2002873972 : Int64), .ref h0]) rfl ?_
          refine zq_calli (zq_rV (As := [.long (2002873972 : Int64)]) (rest := []) E hZ hM k_h0 (c_X12_isWord l X zk (zn) I137 L h0 k_h0 (2002873972 : Int64) (by have : (2002873972 : Int64).toInt = 2002873972 := (by decide +kernel); omega) ((hG143 true).2.2.2.1)) zmX12_95 zM_X12_isWord (hro (1) 6 (by first | decide | omega) (by decide)) ⟨by decide, by decide⟩ rfl hl.1 rfl rfl (Nat.le_of_ble_eq_true rfl) dX12_wordHere_52) hS (fun x148 I149 H locs h147 hM hS => ?_)
          obtain ⟨fr150, p151, p152, p153, p154⟩ := h147
          have : (2002873972 : Int64).toInt = 2002873972 := by decide +kernel
          have hR := zq_fr.call hR fr150 (zf_sub (by decide +kernel) (fun _ _ q => q.elim))
          have hG155 : ∀ b, zGo X h0 b 0 I I149 := (fun b => zGo.wk (zGo.tr (hG143 b) (p151 b)) (by decide))
          have hW156 : x136.toInt = 0 ∨ zLt X I149 h0 := p141.imp id (fun q9 => zLt.sm q9 p152)
          refine lv_if_eq (tgt := 60) hx hb dX12_wordHere_55 (by decide) (fun b158 => ?_) (fun b158 => ?_)
          · have b158 := zi_eq b158 (rfl : x148.toInt = x148.toInt) (zl_0 : (0 : Int32).toInt = 0)
            refine lv_aload_n hx hb dX12_wordHere_60 rfl (lv_at hl 0 rfl) ?_
            refine W.ldc2 (v := 482955846501) hx hb hown (hts _ (List.mem_cons_of_mem _ zCX12_126)) rfl dX12_wordHere_61 ?_
            refine W.eq (g2 := F0 m 64 ls [.long (482955846501 : Int64), .ref h0]) rfl ?_
            refine zq_calli (zq_rV (As := [.long (482955846501 : Int64)]) (rest := []) E hZ hM k_h0 (c_X12_isWord l X zk (zn) I149 L h0 k_h0 (482955846501 : Int64) (by have : (482955846501 : Int64).toInt = 482955846501 := (by decide +kernel); omega) ((hG155 true).2.2.2.1)) zmX12_95 zM_X12_isWord (hro (1) 6 (by first | decide | omega) (by decide)) ⟨by decide, by decide⟩ rfl hl.1 rfl rfl (Nat.le_of_ble_eq_true rfl) dX12_wordHere_64) hS (fun x160 I161 H locs h159 hM hS => ?_)
            obtain ⟨fr162, p163, p164, p165, p166⟩ := h159
            have : (482955846501 : Int64).toInt = 482955846501 := by decide +kernel
            have hR := zq_fr.call hR fr162 (zf_sub (by decide +kernel) (fun _ _ q => q.elim))
            have hG167 : ∀ b, zGo X h0 b 0 I I161 := (fun b => zGo.wk (zGo.tr (hG155 b) (p163 b)) (by decide))
            have hW168 : x148.toInt = 0 ∨ zLt X I161 h0 := p153.imp id (fun q9 => zLt.sm q9 p164)
            refine lv_if_eq (tgt := 72) hx hb dX12_wordHere_67 (by decide) (fun b170 => ?_) (fun b170 => ?_)
            · have b170 := zi_eq b170 (rfl : x160.toInt = x160.toInt) (zl_0 : (0 : Int32).toInt = 0)
              refine lv_aload_n hx hb dX12_wordHere_72 rfl (lv_at hl 0 rfl) ?_
              refine W.ldc2 (v := 495874696043) hx hb hown (hts _ (List.mem_cons_of_mem _ zCX12_128)) rfl dX12_wordHere_73 ?_
              refine W.eq (g2 := F0 m 76 ls [.long (495874696043 : Int64), .ref h0]) rfl ?_
              refine zq_calli (zq_rV (As := [.long (495874696043 : Int64)]) (rest := []) E hZ hM k_h0 (c_X12_isWord l X zk (zn) I161 L h0 k_h0 (495874696043 : Int64) (by have : (495874696043 : Int64).toInt = 495874696043 := (by decide +kernel); omega) ((hG167 true).2.2.2.1)) zmX12_95 zM_X12_isWord (hro (1) 6 (by first | decide | omega) (by decide)) ⟨by decide, by decide⟩ rfl hl.1 rfl rfl (Nat.le_of_ble_eq_true rfl) dX12_wordHere_76) hS (fun x172 I173 H locs h171 hM hS => ?_)
              obtain ⟨fr174, p175, p176, p177, p178⟩ := h171
              have : (495874696043 : Int64).toInt = 495874696043 := by decide +kernel
              have hR := zq_fr.call hR fr174 (zf_sub (by decide +kernel) (fun _ _ q => q.elim))
              have hG179 : ∀ b, zGo X h0 b 0 I I173 := (fun b => zGo.wk (zGo.tr (hG167 b) (p175 b)) (by decide))
              have hW180 : x160.toInt = 0 ∨ zLt X I173 h0 := p165.imp id (fun q9 => zLt.sm q9 p176)
              refine lv_if_eq (tgt := 85) hx hb dX12_wordHere_79 (by decide) (fun b182 => ?_) (fun b182 => ?_)
              · have b182 := zi_eq b182 (rfl : x172.toInt = x172.toInt) (zl_0 : (0 : Int32).toInt = 0)
                refine lv_aload_n hx hb dX12_wordHere_85 rfl (lv_at hl 0 rfl) ?_
                refine W.ldc2 (v := 109330228145767) hx hb hown (hts _ (List.mem_cons_of_mem _ zCX12_130)) rfl dX12_wordHere_86 ?_
                refine W.eq (g2 := F0 m 89 ls [.long (109330228145767 : Int64), .ref h0]) rfl ?_
                refine zq_calli (zq_rV (As := [.long (109330228145767 : Int64)]) (rest := []) E hZ hM k_h0 (c_X12_isWord l X zk (zn) I173 L h0 k_h0 (109330228145767 : Int64) (by have : (109330228145767 : Int64).toInt = 109330228145767 := (by decide +kernel); omega) ((hG179 true).2.2.2.1)) zmX12_95 zM_X12_isWord (hro (1) 6 (by first | decide | omega) (by decide)) ⟨by decide, by decide⟩ rfl hl.1 rfl rfl (Nat.le_of_ble_eq_true rfl) dX12_wordHere_89) hS (fun x184 I185 H locs h183 hM hS => ?_)
                obtain ⟨fr186, p187, p188, p189, p190⟩ := h183
                have : (109330228145767 : Int64).toInt = 109330228145767 := by decide +kernel
                have hR := zq_fr.call hR fr186 (zf_sub (by decide +kernel) (fun _ _ q => q.elim))
                have hG191 : ∀ b, zGo X h0 b 0 I I185 := (fun b => zGo.wk (zGo.tr (hG179 b) (p187 b)) (by decide))
                have hW192 : x172.toInt = 0 ∨ zLt X I185 h0 := p177.imp id (fun q9 => zLt.sm q9 p188)
                refine lv_if_eq (tgt := 98) hx hb dX12_wordHere_92 (by decide) (fun b194 => ?_) (fun b194 => ?_)
                · have b194 := zi_eq b194 (rfl : x184.toInt = x184.toInt) (zl_0 : (0 : Int32).toInt = 0)
                  refine lv_aload_n hx hb dX12_wordHere_98 rfl (lv_at hl 0 rfl) ?_
                  refine W.ldc2 (v := 1886350948) hx hb hown (hts _ (List.mem_cons_of_mem _ zCX12_132)) rfl dX12_wordHere_99 ?_
                  refine W.eq (g2 := F0 m 102 ls [.long (1886350948 : Int64), .ref h0]) rfl ?_
                  refine zq_calli (zq_rV (As := [.long (1886350948 : Int64)]) (rest := []) E hZ hM k_h0 (c_X12_isWord l X zk (zn) I185 L h0 k_h0 (1886350948 : Int64) (by have : (1886350948 : Int64).toInt = 1886350948 := (by decide +kernel); omega) ((hG191 true).2.2.2.1)) zmX12_95 zM_X12_isWord (hro (1) 6 (by first | decide | omega) (by decide)) ⟨by decide, by decide⟩ rfl hl.1 rfl rfl (Nat.le_of_ble_eq_true rfl) dX12_wordHere_102) hS (fun x196 I197 H locs h195 hM hS => ?_)
                  obtain ⟨fr198, p199, p200, p201, p202⟩ := h195
                  have : (1886350948 : Int64).toInt = 1886350948 := by decide +kernel
                  have hR := zq_fr.call hR fr198 (zf_sub (by decide +kernel) (fun _ _ q => q.elim))
                  have hG203 : ∀ b, zGo X h0 b 0 I I197 := (fun b => zGo.wk (zGo.tr (hG191 b) (p199 b)) (by decide))
                  have hW204 : x184.toInt = 0 ∨ zLt X I197 h0 := p189.imp id (fun q9 => zLt.sm q9 p200)
                  refine lv_if_eq (tgt := 111) hx hb dX12_wordHere_105 (by decide) (fun b206 => ?_) (fun b206 => ?_)
                  · have b206 := zi_eq b206 (rfl : x196.toInt = x196.toInt) (zl_0 : (0 : Int32).toInt = 0)
                    refine lv_aload_n hx hb dX12_wordHere_111 rfl (lv_at hl 0 rfl) ?_
                    refine W.ldc2 (v := 1752132708) hx hb hown (hts _ (List.mem_cons_of_mem _ zCX12_134)) rfl dX12_wordHere_112 ?_
                    refine W.eq (g2 := F0 m 115 ls [.long (1752132708 : Int64), .ref h0]) rfl ?_
                    refine zq_calli (zq_rV (As := [.long (1752132708 : Int64)]) (rest := []) E hZ hM k_h0 (c_X12_isWord l X zk (zn) I197 L h0 k_h0 (1752132708 : Int64) (by have : (1752132708 : Int64).toInt = 1752132708 := (by decide +kernel); omega) ((hG203 true).2.2.2.1)) zmX12_95 zM_X12_isWord (hro (1) 6 (by first | decide | omega) (by decide)) ⟨by decide, by decide⟩ rfl hl.1 rfl rfl (Nat.le_of_ble_eq_true rfl) dX12_wordHere_115) hS (fun x208 I209 H locs h207 hM hS => ?_)
                    obtain ⟨fr210, p211, p212, p213, p214⟩ := h207
                    have : (1752132708 : Int64).toInt = 1752132708 := by decide +kernel
                    have hR := zq_fr.call hR fr210 (zf_sub (by decide +kernel) (fun _ _ q => q.elim))
                    have hG215 : ∀ b, zGo X h0 b 0 I I209 := (fun b => zGo.wk (zGo.tr (hG203 b) (p211 b)) (by decide))
                    have hW216 : x196.toInt = 0 ∨ zLt X I209 h0 := p201.imp id (fun q9 => zLt.sm q9 p212)
                    refine lv_if_eq (tgt := 124) hx hb dX12_wordHere_118 (by decide) (fun b218 => ?_) (fun b218 => ?_)
                    · have b218 := zi_eq b218 (rfl : x208.toInt = x208.toInt) (zl_0 : (0 : Int32).toInt = 0)
                      refine lv_aload_n hx hb dX12_wordHere_124 rfl (lv_at hl 0 rfl) ?_
                      refine W.ldc2 (v := 470020941177) hx hb hown (hts _ (List.mem_cons_of_mem _ zCX12_136)) rfl dX12_wordHere_125 ?_
                      refine W.eq (g2 := F0 m 128 ls [.long (470020941177 : Int64), .ref h0]) rfl ?_
                      refine zq_calli (zq_rV (As := [.long (470020941177 : Int64)]) (rest := []) E hZ hM k_h0 (c_X12_isWord l X zk (zn) I209 L h0 k_h0 (470020941177 : Int64) (by have : (470020941177 : Int64).toInt = 470020941177 := (by decide +kernel); omega) ((hG215 true).2.2.2.1)) zmX12_95 zM_X12_isWord (hro (1) 6 (by first | decide | omega) (by decide)) ⟨by decide, by decide⟩ rfl hl.1 rfl rfl (Nat.le_of_ble_eq_true rfl) dX12_wordHere_128) hS (fun x220 I221 H locs h219 hM hS => ?_)
                      obtain ⟨fr222, p223, p224, p225, p226⟩ := h219
                      have : (470020941177 : Int64).toInt = 470020941177 := by decide +kernel
                      have hR := zq_fr.call hR fr222 (zf_sub (by decide +kernel) (fun _ _ q => q.elim))
                      have hG227 : ∀ b, zGo X h0 b 0 I I221 := (fun b => zGo.wk (zGo.tr (hG215 b) (p223 b)) (by decide))
                      have hW228 : x208.toInt = 0 ∨ zLt X I221 h0 := p213.imp id (fun q9 => zLt.sm q9 p224)
                      refine lv_if_eq (tgt := 137) hx hb dX12_wordHere_131 (by decide) (fun b230 => ?_) (fun b230 => ?_)
                      · have b230 := zi_eq b230 (rfl : x220.toInt = x220.toInt) (zl_0 : (0 : Int32).toInt = 0)
                        refine lv_aload_n hx hb dX12_wordHere_137 rfl (lv_at hl 0 rfl) ?_
                        refine W.ldc2 (v := 470020945000) hx hb hown (hts _ (List.mem_cons_of_mem _ zCX12_138)) rfl dX12_wordHere_138 ?_
                        refine W.eq (g2 := F0 m 141 ls [.long (470020945000 : Int64), .ref h0]) rfl ?_
                        refine zq_calli (zq_rV (As := [.long (470020945000 : Int64)]) (rest := []) E hZ hM k_h0 (c_X12_isWord l X zk (zn) I221 L h0 k_h0 (470020945000 : Int64) (by have : (470020945000 : Int64).toInt = 470020945000 := (by decide +kernel); omega) ((hG227 true).2.2.2.1)) zmX12_95 zM_X12_isWord (hro (1) 6 (by first | decide | omega) (by decide)) ⟨by decide, by decide⟩ rfl hl.1 rfl rfl (Nat.le_of_ble_eq_true rfl) dX12_wordHere_141) hS (fun x232 I233 H locs h231 hM hS => ?_)
                        obtain ⟨fr234, p235, p236, p237, p238⟩ := h231
                        have : (470020945000 : Int64).toInt = 470020945000 := by decide +kernel
                        have hR := zq_fr.call hR fr234 (zf_sub (by decide +kernel) (fun _ _ q => q.elim))
                        have hG239 : ∀ b, zGo X h0 b 0 I I233 := (fun b => zGo.wk (zGo.tr (hG227 b) (p235 b)) (by decide))
                        have hW240 : x220.toInt = 0 ∨ zLt X I233 h0 := p225.imp id (fun q9 => zLt.sm q9 p236)
                        refine lv_if_eq (tgt := 152) hx hb dX12_wordHere_144 (by decide) (fun b242 => ?_) (fun b242 => ?_)
                        · have b242 := zi_eq b242 (rfl : x232.toInt = x232.toInt) (zl_0 : (0 : Int32).toInt = 0)
                          refine lv_aload_n hx hb dX12_wordHere_152 rfl (lv_at hl 0 rfl) ?_
                          refine W.ldc2 (v := 448546567013) hx hb hown (hts _ (List.mem_cons_of_mem _ zCX12_140)) rfl dX12_wordHere_153 ?_
                          refine W.eq (g2 := F0 m 156 ls [.long (448546567013 : Int64), .ref h0]) rfl ?_
                          refine zq_calli (zq_rV (As := [.long (448546567013 : Int64)]) (rest := []) E hZ hM k_h0 (c_X12_isWord l X zk (zn) I233 L h0 k_h0 (448546567013 : Int64) (by have : (448546567013 : Int64).toInt = 448546567013 := (by decide +kernel); omega) ((hG239 true).2.2.2.1)) zmX12_95 zM_X12_isWord (hro (1) 6 (by first | decide | omega) (by decide)) ⟨by decide, by decide⟩ rfl hl.1 rfl rfl (Nat.le_of_ble_eq_true rfl) dX12_wordHere_156) hS (fun x244 I245 H locs h243 hM hS => ?_)
                          obtain ⟨fr246, p247, p248, p249, p250⟩ := h243
                          have : (448546567013 : Int64).toInt = 448546567013 := by decide +kernel
                          have hR := zq_fr.call hR fr246 (zf_sub (by decide +kernel) (fun _ _ q => q.elim))
                          have hG251 : ∀ b, zGo X h0 b 0 I I245 := (fun b => zGo.wk (zGo.tr (hG239 b) (p247 b)) (by decide))
                          have hW252 : x232.toInt = 0 ∨ zLt X I245 h0 := p237.imp id (fun q9 => zLt.sm q9 p248)
                          refine lv_if_eq (tgt := 167) hx hb dX12_wordHere_159 (by decide) (fun b254 => ?_) (fun b254 => ?_)
                          · have b254 := zi_eq b254 (rfl : x244.toInt = x244.toInt) (zl_0 : (0 : Int32).toInt = 0)
                            refine lv_iconst (v := (-1)) hx hb dX12_wordHere_167 (by decide +kernel) ?_
                            subst hQ
                            exact zq_iret E hr hZ hM hS ⟨hR, (hG251), (Or.inl (by decide +kernel)), (by have := zl_m1; omega)⟩ hlocks dX12_wordHere_168
                          · have b254 := zi_ne b254 (rfl : x244.toInt = x244.toInt) (zl_0 : (0 : Int32).toInt = 0)
                            have hLt255 : zLt X I245 h0 := p249.resolve_left (by omega)
                            refine lv_bipush (v := 12) hx hb dX12_wordHere_162 (by decide +kernel) ?_
                            refine lv_goto (tgt := 168) hx hb dX12_wordHere_164 (by decide) ?_
                            subst hQ
                            exact zq_iret E hr hZ hM hS ⟨hR, (hG251), (Or.inr hLt255), (by have := zl_12; omega)⟩ hlocks dX12_wordHere_168
                        · have b242 := zi_ne b242 (rfl : x232.toInt = x232.toInt) (zl_0 : (0 : Int32).toInt = 0)
                          have hLt256 : zLt X I233 h0 := p237.resolve_left (by omega)
                          refine lv_bipush (v := 11) hx hb dX12_wordHere_147 (by decide +kernel) ?_
                          refine lv_goto (tgt := 168) hx hb dX12_wordHere_149 (by decide) ?_
                          subst hQ
                          exact zq_iret E hr hZ hM hS ⟨hR, (hG239), (Or.inr hLt256), (by have := zl_11; omega)⟩ hlocks dX12_wordHere_168
                      · have b230 := zi_ne b230 (rfl : x220.toInt = x220.toInt) (zl_0 : (0 : Int32).toInt = 0)
                        have hLt257 : zLt X I221 h0 := p225.resolve_left (by omega)
                        refine lv_bipush (v := 10) hx hb dX12_wordHere_134 (by decide +kernel) ?_
                        subst hQ
                        exact zq_iret E hr hZ hM hS ⟨hR, (hG227), (Or.inr hLt257), (by have := zl_10; omega)⟩ hlocks dX12_wordHere_136
                    · have b218 := zi_ne b218 (rfl : x208.toInt = x208.toInt) (zl_0 : (0 : Int32).toInt = 0)
                      have hLt258 : zLt X I209 h0 := p213.resolve_left (by omega)
                      refine lv_bipush (v := 9) hx hb dX12_wordHere_121 (by decide +kernel) ?_
                      subst hQ
                      exact zq_iret E hr hZ hM hS ⟨hR, (hG215), (Or.inr hLt258), (by have := zl_9; omega)⟩ hlocks dX12_wordHere_123
                  · have b206 := zi_ne b206 (rfl : x196.toInt = x196.toInt) (zl_0 : (0 : Int32).toInt = 0)
                    have hLt259 : zLt X I197 h0 := p201.resolve_left (by omega)
                    refine lv_bipush (v := 8) hx hb dX12_wordHere_108 (by decide +kernel) ?_
                    subst hQ
                    exact zq_iret E hr hZ hM hS ⟨hR, (hG203), (Or.inr hLt259), (by have := zl_8; omega)⟩ hlocks dX12_wordHere_110
                · have b194 := zi_ne b194 (rfl : x184.toInt = x184.toInt) (zl_0 : (0 : Int32).toInt = 0)
                  have hLt260 : zLt X I185 h0 := p189.resolve_left (by omega)
                  refine lv_bipush (v := 7) hx hb dX12_wordHere_95 (by decide +kernel) ?_
                  subst hQ
                  exact zq_iret E hr hZ hM hS ⟨hR, (hG191), (Or.inr hLt260), (by have := zl_7; omega)⟩ hlocks dX12_wordHere_97
              · have b182 := zi_ne b182 (rfl : x172.toInt = x172.toInt) (zl_0 : (0 : Int32).toInt = 0)
                have hLt261 : zLt X I173 h0 := p177.resolve_left (by omega)
                refine lv_bipush (v := 6) hx hb dX12_wordHere_82 (by decide +kernel) ?_
                subst hQ
                exact zq_iret E hr hZ hM hS ⟨hR, (hG179), (Or.inr hLt261), (by have := zl_6; omega)⟩ hlocks dX12_wordHere_84
            · have b170 := zi_ne b170 (rfl : x160.toInt = x160.toInt) (zl_0 : (0 : Int32).toInt = 0)
              have hLt262 : zLt X I161 h0 := p165.resolve_left (by omega)
              refine lv_iconst (v := 5) hx hb dX12_wordHere_70 (by decide +kernel) ?_
              subst hQ
              exact zq_iret E hr hZ hM hS ⟨hR, (hG167), (Or.inr hLt262), (by have := zl_5; omega)⟩ hlocks dX12_wordHere_71
          · have b158 := zi_ne b158 (rfl : x148.toInt = x148.toInt) (zl_0 : (0 : Int32).toInt = 0)
            have hLt263 : zLt X I149 h0 := p153.resolve_left (by omega)
            refine lv_iconst (v := 4) hx hb dX12_wordHere_58 (by decide +kernel) ?_
            subst hQ
            exact zq_iret E hr hZ hM hS ⟨hR, (hG155), (Or.inr hLt263), (by have := zl_4; omega)⟩ hlocks dX12_wordHere_59
        · have b146 := zi_ne b146 (rfl : x136.toInt = x136.toInt) (zl_0 : (0 : Int32).toInt = 0)
          have hLt264 : zLt X I137 h0 := p141.resolve_left (by omega)
          refine lv_iconst (v := 3) hx hb dX12_wordHere_46 (by decide +kernel) ?_
          subst hQ
          exact zq_iret E hr hZ hM hS ⟨hR, (hG143), (Or.inr hLt264), (by have := zl_3; omega)⟩ hlocks dX12_wordHere_47
      · have b134 := zi_ne b134 (rfl : x124.toInt = x124.toInt) (zl_0 : (0 : Int32).toInt = 0)
        have hLt265 : zLt X I125 h0 := p129.resolve_left (by omega)
        refine lv_iconst (v := 2) hx hb dX12_wordHere_34 (by decide +kernel) ?_
        subst hQ
        exact zq_iret E hr hZ hM hS ⟨hR, (hG131), (Or.inr hLt265), (by have := zl_2; omega)⟩ hlocks dX12_wordHere_35
    · have b122 := zi_ne b122 (rfl : x112.toInt = x112.toInt) (zl_0 : (0 : Int32).toInt = 0)
      have hLt266 : zLt X I113 h0 := p117.resolve_left (by omega)
      refine lv_iconst (v := 1) hx hb dX12_wordHere_22 (by decide +kernel) ?_
      subst hQ
      exact zq_iret E hr hZ hM hS ⟨hR, (hG119), (Or.inr hLt266), (by have := zl_1; omega)⟩ hlocks dX12_wordHere_23
  · have b110 := zi_ne b110 (rfl : x102.toInt = x102.toInt) (zl_0 : (0 : Int32).toInt = 0)
    have hLt267 : zLt X I103 h0 := p107.resolve_left (by omega)
    refine lv_iconst (v := 0) hx hb dX12_wordHere_10 (by decide +kernel) ?_
    subst hQ
    exact zq_iret E hr hZ hM hS ⟨hR, (hG109), (Or.inr hLt267), (by have := zl_0; omega)⟩ hlocks dX12_wordHere_11
def zw_X12_puts : List (Nat × Nat) := [(51, 999), (52, 999)]
set_option maxHeartbeats 8000000 in
set_option maxRecDepth 100000 in
theorem c_X12_puts (l : Launch) (X : zq_X) (zk zn : Nat) (I : zq_M) (L : zq_L X)  (h0 : Nat) (k_h0 : zq_k X h0 = 10) (p1 : Int32) (p2 : Int32) (q_0 : zk ≤ 4400 ∧ zn ≤ 4400) (q_1 : (I h0 11).toInt ≤ 5) (q_2 : zLn X I h0 ≤ 399) : Met l yX12_puts (zt_w yX12_puts cX12_puts 3 none) (zq_rm (0)) (va_Pc [.ref h0, .int p1, .int p2] (zq_W X (zk, zn) I)) (va_Qv (fun I2 => zq_fr (zf X zw_X12_puts (fun _ => False)) I I2 ∧ (zPu X h0 p1 p2 I I2) ∧ (zLn X I h0 ≤ 399)) (zq_E X (zk, zn)) (zq_A X)) 0 0 (zq_A X) := by
  refine Met.ofW (cc := cX12_puts) (maxL := 3) (ret := none) (by decide) rfl ?_
  intro p e s m args below meth c s₁ B hml hv
  obtain ⟨hargs, hM, hZ⟩ := hv
  have hown : s.vm.findClass RX12 = some m.cls := findClass_of_methodNamed B.named
  have hts := atoms_spec (ws := zt_w yX12_puts cX12_puts 3 none) B.pre
  have E : CallFix p m c cX12_puts 3 s args (Cond.code yX12_puts cX12_puts 3 none :: zt) RX12 := ⟨B.exec, B.bytes, hml, hown, hts⟩
  have hx := B.exec
  have hb := B.bytes
  have hr := B.returns
  have hlocks := B.notSynchronized
  clear B
  have hS : va_S (zq_A X) s.heap s.heap [] := va_S.rf
  have hR : zq_fr (zf X zw_X12_puts (fun _ => False)) I I := zq_fr.rf
  have hl := lv_entry ([.ref h0, .int p1, .int p2]) (n := 3) (by exact Nat.le_of_ble_eq_true rfl)
  have hg : entryFrame m args 3 = F0 m 0 ((lg_sl ([.ref h0, .int p1, .int p2]) ++ List.replicate (3 - (lg_sl ([.ref h0, .int p1, .int p2])).length) Slot.unset).toArray) [] := by rw [hargs]; exact lg_entry_eq m ([.ref h0, .int p1, .int p2]) 3
  rw [hg]
  clear hg hargs
  generalize (lg_sl ([.ref h0, .int p1, .int p2]) ++ List.replicate (3 - (lg_sl ([.ref h0, .int p1, .int p2])).length) Slot.unset).toArray = ls at hl ⊢
  have hl : lv_has ls 3 [(0, .ref h0), (1, .int p1), (2, .int p2)] := by exact hl
  obtain ⟨R, hRm⟩ : ∃ R : Room, R = (headSpec (zt_w yX12_puts cX12_puts 3 none) (zq_rm (0))).room := ⟨_, rfl⟩
  rw [← hRm]
  generalize hQ : MQ below _ args s 0 0 (zq_A X) = Q
  obtain ⟨H, hH⟩ : ∃ H, H = s.heap := ⟨_, rfl⟩
  obtain ⟨locs, hlo⟩ : ∃ x : List Loc, x = [] := ⟨_, rfl⟩
  rw [show W p l e R s m args below meth c s.heap [] 0 0 Q = W p l e R s m args below meth c H locs 0 0 Q by rw [hH, hlo]]
  have hM : zq_hm X (zk, zn) I H := by rw [hH]; exact hM
  have hS : va_S (zq_A X) s.heap H locs := by rw [hH, hlo]; exact hS
  clear hH hlo
  refine lv_aload_n hx hb dX12_puts_0 rfl (lv_at hl 0 rfl) ?_
  refine zq_getr E hM k_h0 (zFX12_13 E hZ) ⟨by decide, by decide, by decide, rfl⟩ dX12_puts_1 ?_
  have k101 : zq_k X (zq_r X h0 3) = 51 := zq_lk L.1 k_h0 rfl (by decide)
  refine lv_sipush (v := 400) hx hb dX12_puts_4 (by decide +kernel) ?_
  refine lv_aload_n hx hb dX12_puts_7 rfl (lv_at hl 0 rfl) ?_
  refine zq_gn E hM k_h0 (zFX12_142 E hZ) (Or.inl ⟨by decide, by decide, by decide, rfl⟩) dX12_puts_8 (fun x102 ex102 gx102 => ?_)
  replace gx102 : 0 ≤ x102.toInt ∧ x102.toInt ≤ 6 := gx102
  have := congrArg Int32.toInt ex102
  refine lv_imul hx hb dX12_puts_11 ?_
  refine lv_topi (fun x103 ex103 => ?_)
  have tx103 := zi_mul ex103 (zl_400 : (400 : Int32).toInt = 400) (rfl : x102.toInt = x102.toInt) ⟨by omega, by omega⟩
  refine lv_aload_n hx hb dX12_puts_12 rfl (lv_at hl 0 rfl) ?_
  refine zq_getr E hM k_h0 (zFX12_17 E hZ) ⟨by decide, by decide, by decide, rfl⟩ dX12_puts_13 ?_
  have k104 : zq_k X (zq_r X h0 4) = 52 := zq_lk L.1 k_h0 rfl (by decide)
  refine lv_aload_n hx hb dX12_puts_16 rfl (lv_at hl 0 rfl) ?_
  refine W.eq (g2 := F0 m 17 ls [.ref h0, .ref (zq_r X h0 4), .int x103, .ref (zq_r X h0 3)]) rfl ?_
  refine zq_gk (v := x102) E hM k_h0 (zFX12_142 E hZ) (Or.inl ⟨by decide, by decide, by decide, rfl⟩) ex102 dX12_puts_17 ?_
  refine zq_ian (n := 7) (j := (x102.toNatClampNeg)) E hZ hM k104 ⟨by decide, rfl⟩ ⟨by omega, by omega⟩ rfl dX12_puts_20 (fun x105 ex105 gx105 => ?_)
  replace gx105 : 0 ≤ x105.toInt ∧ x105.toInt ≤ 400 := gx105
  have hl9 : x105.toInt ≤ 399 := by have q := q_2; unfold zLn zTx at q; rw [ex102, ex105] at q; have := zq_cl (i := x105) (by omega); omega
  refine lv_iadd hx hb dX12_puts_21 ?_
  refine lv_topi (fun x106 ex106 => ?_)
  have tx106 := zi_add ex106 (rfl : x103.toInt = x103.toInt) (rfl : x105.toInt = x105.toInt) ⟨by omega, by omega⟩
  refine lv_iload_n hx hb dX12_puts_22 rfl (lv_at hl 1 rfl) ?_
  refine lv_bipush (v := 16) hx hb dX12_puts_23 (by decide +kernel) ?_
  refine lv_iload_n hx hb dX12_puts_25 rfl (lv_at hl 2 rfl) ?_
  refine lv_imul hx hb dX12_puts_26 ?_
  refine lv_topi (fun x107 ex107 => ?_)
  refine lv_iadd hx hb dX12_puts_27 ?_
  refine lv_topi (fun x108 ex108 => ?_)
  refine zq_isn (n := 2400) (j := (x106.toNatClampNeg)) E hZ hM hS k101 ⟨by decide, rfl⟩ ⟨by omega, by omega⟩ rfl (zq_any _) dX12_puts_28 (fun I109 H locs eI109 hM hS => ?_)
  have hR := zq_fr.putE hR eI109 (zf_ia k101 (by decide) rfl)
  refine lv_aload_n hx hb dX12_puts_29 rfl (lv_at hl 0 rfl) ?_
  refine W.eq (g2 := F0 m 30 ls [.ref h0]) rfl ?_
  refine zq_getr E hM k_h0 (zFX12_17 E hZ) ⟨by decide, by decide, by decide, rfl⟩ dX12_puts_30 ?_
  have k110 : zq_k X (zq_r X h0 4) = 52 := zq_lk L.1 k_h0 rfl (by decide)
  refine lv_aload_n hx hb dX12_puts_33 rfl (lv_at hl 0 rfl) ?_
  refine zq_gk (v := x102) E hM k_h0 (zFX12_142 E hZ) (Or.inl ⟨by decide, by decide, by decide, rfl⟩) (zq_kp eI109 (Or.inl (zq_kne k_h0 k101 (by decide))) ex102) dX12_puts_34 ?_
  refine lv_dup2_11 hx hb dX12_puts_37 rfl rfl ?_
  refine zq_iald (n := 7) (j := (x102.toNatClampNeg)) (v := x105) E hZ hM k110 ⟨by decide, rfl⟩ ⟨by omega, by omega⟩ rfl (zq_kp eI109 (Or.inl (zq_kne k110 k101 (by decide))) ex105) dX12_puts_38 ?_
  refine lv_iconst (v := 1) hx hb dX12_puts_39 (by decide +kernel) ?_
  refine lv_iadd hx hb dX12_puts_40 ?_
  refine lv_topi (fun x112 ex112 => ?_)
  have tx112 := zi_add ex112 (rfl : x105.toInt = x105.toInt) (zl_1 : (1 : Int32).toInt = 1) ⟨by omega, by omega⟩
  refine zq_isn (n := 7) (j := (x102.toNatClampNeg)) E hZ hM hS k110 ⟨by decide, rfl⟩ ⟨by omega, by omega⟩ rfl (show 0 ≤ x112.toInt ∧ x112.toInt ≤ 400 from ⟨by omega, by omega⟩) dX12_puts_41 (fun I113 H locs eI113 hM hS => ?_)
  have hR := zq_fr.putE hR eI113 (zf_ia k110 (by decide) rfl)
  subst hQ
  exact zq_vret E hr hZ hM hS ⟨hR, (zPu.mk L k_h0 ex102 ex105 (by have := zq_cl (i := x106) (by omega); have := zq_cl (i := x102) (by omega); have := zq_cl (i := x105) (by omega); omega) eI109 (by first | (rw [ex108, ex107]; done) | (rw [ex108]; rfl)) eI113 (by have := zq_cl (i := x112) (by omega); have := zq_cl (i := x105) (by omega); omega)), (q_2)⟩ hlocks dX12_puts_42
def zw_X12_makes : List (Nat × Nat) := [(10, 9), (10, 12)]
set_option maxHeartbeats 8000000 in
set_option maxRecDepth 100000 in
theorem c_X12_makes (l : Launch) (X : zq_X) (zk zn : Nat) (I : zq_M) (L : zq_L X)  (h0 : Nat) (k_h0 : zq_k X h0 = 10) (p1 : Int32) (q_0 : zk ≤ 4400 ∧ zn ≤ 4400) (q_1 : (I h0 8).toInt ≤ (I h0 1).toInt) : Met l yX12_makes (zt_w yX12_makes cX12_makes 2 (some .boolean)) (zq_rm (1)) (va_Pc [.ref h0, .int p1] (zq_W X (zk, zn) I)) (va_Qi (fun (r : Int32) I2 => zq_fr (zf X zw_X12_makes (fun _ => False)) I I2 ∧ (∀ b, zGo X h0 b 0 I I2) ∧ (r.toInt = 0 ∨ (I h0 12).toInt + 1 ≤ (I2 h0 12).toInt) ∧ (0 ≤ r.toInt ∧ r.toInt ≤ 1)) (zq_E X (zk, zn)) (zq_A X)) 0 0 (zq_A X) := by
  refine Met.ofW (cc := cX12_makes) (maxL := 2) (ret := (some .boolean)) (by decide) rfl ?_
  intro p e s m args below meth c s₁ B hml hv
  obtain ⟨hargs, hM, hZ⟩ := hv
  have hown : s.vm.findClass RX12 = some m.cls := findClass_of_methodNamed B.named
  have hts := atoms_spec (ws := zt_w yX12_makes cX12_makes 2 (some .boolean)) B.pre
  have E : CallFix p m c cX12_makes 2 s args (Cond.code yX12_makes cX12_makes 2 (some .boolean) :: zt) RX12 := ⟨B.exec, B.bytes, hml, hown, hts⟩
  have hx := B.exec
  have hb := B.bytes
  have hr := B.returns
  have hlocks := B.notSynchronized
  clear B
  have hS : va_S (zq_A X) s.heap s.heap [] := va_S.rf
  have hR : zq_fr (zf X zw_X12_makes (fun _ => False)) I I := zq_fr.rf
  have hl := lv_entry ([.ref h0, .int p1]) (n := 2) (by exact Nat.le_of_ble_eq_true rfl)
  have hg : entryFrame m args 2 = F0 m 0 ((lg_sl ([.ref h0, .int p1]) ++ List.replicate (2 - (lg_sl ([.ref h0, .int p1])).length) Slot.unset).toArray) [] := by rw [hargs]; exact lg_entry_eq m ([.ref h0, .int p1]) 2
  rw [hg]
  clear hg hargs
  generalize (lg_sl ([.ref h0, .int p1]) ++ List.replicate (2 - (lg_sl ([.ref h0, .int p1])).length) Slot.unset).toArray = ls at hl ⊢
  have hl : lv_has ls 2 [(0, .ref h0), (1, .int p1)] := by exact hl
  obtain ⟨R, hRm⟩ : ∃ R : Room, R = (headSpec (zt_w yX12_makes cX12_makes 2 (some .boolean)) (zq_rm (1))).room := ⟨_, rfl⟩
  rw [← hRm]
  have hro : ∀ d q : Nat, d + 1 ≤ 1 → q ≤ 45 → zq_rok d q R := fun d q h1 h2 => by rw [hRm]; exact zq_rokI h1 h2
  generalize hQ : MQ below _ args s 0 0 (zq_A X) = Q
  obtain ⟨H, hH⟩ : ∃ H, H = s.heap := ⟨_, rfl⟩
  obtain ⟨locs, hlo⟩ : ∃ x : List Loc, x = [] := ⟨_, rfl⟩
  rw [show W p l e R s m args below meth c s.heap [] 0 0 Q = W p l e R s m args below meth c H locs 0 0 Q by rw [hH, hlo]]
  have hM : zq_hm X (zk, zn) I H := by rw [hH]; exact hM
  have hS : va_S (zq_A X) s.heap H locs := by rw [hH, hlo]; exact hS
  clear hH hlo
  have hG0 : ∀ b, zGo X h0 b 0 I I := fun b => zGo.rf q_1
  refine lv_aload_n hx hb dX12_makes_0 rfl (lv_at hl 0 rfl) ?_
  refine zq_gn E hM k_h0 (zFX12_145 E hZ) (Or.inl ⟨by decide, by decide, by decide, rfl⟩) dX12_makes_1 (fun x101 ex101 gx101 => ?_)
  replace gx101 : 0 ≤ x101.toInt ∧ x101.toInt ≤ 60 := gx101
  have := congrArg Int32.toInt ex101
  refine lv_bipush (v := 60) hx hb dX12_makes_4 (by decide +kernel) ?_
  refine lv_icmp_ne (tgt := 16) hx hb dX12_makes_6 (by decide) (fun b102 => ?_) (fun b102 => ?_)
  · have b102 := zi_ne b102 (rfl : x101.toInt = x101.toInt) (zl_60 : (60 : Int32).toInt = 60)
    refine lv_aload_n hx hb dX12_makes_16 rfl (lv_at hl 0 rfl) ?_
    refine lv_dup hx hb dX12_makes_17 rfl ?_
    refine zq_gk (v := x101) E hM k_h0 (zFX12_145 E hZ) (Or.inl ⟨by decide, by decide, by decide, rfl⟩) ex101 dX12_makes_18 ?_
    refine lv_iconst (v := 1) hx hb dX12_makes_21 (by decide +kernel) ?_
    refine lv_iadd hx hb dX12_makes_22 ?_
    refine lv_topi (fun x103 ex103 => ?_)
    have tx103 := zi_add ex103 (rfl : x101.toInt = x101.toInt) (zl_1 : (1 : Int32).toInt = 1) ⟨by omega, by omega⟩
    refine zq_pn E hM hS k_h0 (zGX12_145 E hZ) ⟨by decide, by decide, by decide, rfl⟩ (show 0 ≤ x103.toInt ∧ x103.toInt ≤ 60 from ⟨by omega, by omega⟩) dX12_makes_23 (fun I104 H locs eI104 hM hS => ?_)
    have hR := zq_fr.putE hR eI104 (zf_i k_h0 rfl rfl)
    have hG105 : ∀ b, zGo X h0 b 0 I I104 := (fun b => zGo.wk (zGo.p12 (hG0 b) L k_h0 eI104 (by rw [ex101]; omega)) (by decide))
    refine lv_iconst (v := 1) hx hb dX12_makes_26 (by decide +kernel) ?_
    subst hQ
    exact zq_zret E hr hZ hM hS (show 0 ≤ (1 : Int32).toInt ∧ (1 : Int32).toInt ≤ 1 by decide +kernel) ⟨hR, (hG105), (Or.inr (by rw [(zq_kv eI104)]; omega)), (by have := zl_1; omega)⟩ hlocks dX12_makes_27
  · have b102 := zi_eq b102 (rfl : x101.toInt = x101.toInt) (zl_60 : (60 : Int32).toInt = 60)
    refine lv_aload_n hx hb dX12_makes_9 rfl (lv_at hl 0 rfl) ?_
    refine lv_iconst (v := 3) hx hb dX12_makes_10 (by decide +kernel) ?_
    refine lv_iload_n hx hb dX12_makes_11 rfl (lv_at hl 1 rfl) ?_
    refine zq_calli (zq_rV (As := [.int (3 : Int32), .int p1]) (rest := []) E hZ hM k_h0 (c_X12_fails l X zk (zn) I L h0 k_h0 (3 : Int32) p1 (by have := zl_3; have := zi_rng p1; omega)) zmX12_105 zM_X12_fails (hro (0) 3 (by first | decide | omega) (by decide)) ⟨by decide, by decide⟩ rfl hl.1 rfl rfl (Nat.le_of_ble_eq_true rfl) dX12_makes_12) hS (fun x107 I108 H locs h106 hM hS => ?_)
    obtain ⟨fr109, p110, p111⟩ := h106
    have := zl_3
    have hR := zq_fr.call hR fr109 (zf_sub (by decide +kernel) (fun _ _ q => q.elim))
    have hG112 : ∀ b, zGo X h0 b 0 I I108 := (fun b => zGo.wk (zGo.fr (hG0 b) L k_h0 fr109 rfl rfl rfl) (by decide))
    subst hQ
    exact zq_zret E hr hZ hM hS (show 0 ≤ x107.toInt ∧ x107.toInt ≤ 1 from ⟨by omega, by omega⟩) ⟨hR, (hG112), (Or.inl (by omega)), (by omega)⟩ hlocks dX12_makes_15
def zw_X12_value : List (Nat × Nat) := [(10, 8), (10, 9), (10, 10), (10, 12), (51, 999), (52, 999)]
set_option maxHeartbeats 8000000 in
set_option maxRecDepth 100000 in
theorem c_X12_value (l : Launch) (X : zq_X) (zk zn : Nat) (I : zq_M) (L : zq_L X)  (h0 : Nat) (k_h0 : zq_k X h0 = 10) (q_0 : zk ≤ 4400 ∧ zn ≤ 4400) (q_1 : (I h0 8).toInt ≤ (I h0 1).toInt) (q_2 : (I h0 11).toInt ≤ 5) (q_3 : ((zLn X I h0 : Nat) : Int) ≤ (I h0 8).toInt) : Met l yX12_value (zt_w yX12_value cX12_value 3 (some .boolean)) (zq_rm (3)) (va_Pc [.ref h0] (zq_W X (zk, zn) I)) (va_Qi (fun (r : Int32) I2 => zq_fr (zf X zw_X12_value (fun _ => False)) I I2 ∧ (∀ b, zGo X h0 b 0 I I2) ∧ (r.toInt = 0 ∨ zQ X h0 1 I I2) ∧ (0 ≤ r.toInt ∧ r.toInt ≤ 1)) (zq_E X (zk, zn)) (zq_A X)) 0 0 (zq_A X) := by
  refine Met.ofW (cc := cX12_value) (maxL := 3) (ret := (some .boolean)) (by decide) rfl ?_
  intro p e s m args below meth c s₁ B hml hv
  obtain ⟨hargs, hM, hZ⟩ := hv
  have hown : s.vm.findClass RX12 = some m.cls := findClass_of_methodNamed B.named
  have hts := atoms_spec (ws := zt_w yX12_value cX12_value 3 (some .boolean)) B.pre
  have E : CallFix p m c cX12_value 3 s args (Cond.code yX12_value cX12_value 3 (some .boolean) :: zt) RX12 := ⟨B.exec, B.bytes, hml, hown, hts⟩
  have hx := B.exec
  have hb := B.bytes
  have hr := B.returns
  have hlocks := B.notSynchronized
  clear B
  have hS : va_S (zq_A X) s.heap s.heap [] := va_S.rf
  have hR : zq_fr (zf X zw_X12_value (fun _ => False)) I I := zq_fr.rf
  have hl := lv_entry ([.ref h0]) (n := 3) (by exact Nat.le_of_ble_eq_true rfl)
  have hg : entryFrame m args 3 = F0 m 0 ((lg_sl ([.ref h0]) ++ List.replicate (3 - (lg_sl ([.ref h0])).length) Slot.unset).toArray) [] := by rw [hargs]; exact lg_entry_eq m ([.ref h0]) 3
  rw [hg]
  clear hg hargs
  generalize (lg_sl ([.ref h0]) ++ List.replicate (3 - (lg_sl ([.ref h0])).length) Slot.unset).toArray = ls at hl ⊢
  have hl : lv_has ls 3 [(0, .ref h0)] := by exact hl
  obtain ⟨R, hRm⟩ : ∃ R : Room, R = (headSpec (zt_w yX12_value cX12_value 3 (some .boolean)) (zq_rm (3))).room := ⟨_, rfl⟩
  rw [← hRm]
  have hro : ∀ d q : Nat, d + 1 ≤ 3 → q ≤ 45 → zq_rok d q R := fun d q h1 h2 => by rw [hRm]; exact zq_rokI h1 h2
  generalize hQ : MQ below _ args s 0 0 (zq_A X) = Q
  obtain ⟨H, hH⟩ : ∃ H, H = s.heap := ⟨_, rfl⟩
  obtain ⟨locs, hlo⟩ : ∃ x : List Loc, x = [] := ⟨_, rfl⟩
  rw [show W p l e R s m args below meth c s.heap [] 0 0 Q = W p l e R s m args below meth c H locs 0 0 Q by rw [hH, hlo]]
  have hM : zq_hm X (zk, zn) I H := by rw [hH]; exact hM
  have hS : va_S (zq_A X) s.heap H locs := by rw [hH, hlo]; exact hS
  clear hH hlo
  have hG0 : ∀ b, zGo X h0 b 0 I I := fun b => zGo.rf q_1
  have hQ0 : zQ X h0 0 I I := zQ.rf
  refine lv_aload_n hx hb dX12_value_0 rfl (lv_at hl 0 rfl) ?_
  refine zq_calli (zq_rV (As := []) (rest := []) E hZ hM k_h0 (c_X12_see l X zk (zn) I L h0 k_h0 (by omega) ((hG0 true).2.2.2.1)) zmX12_87 zM_X12_see (hro (0) 1 (by first | decide | omega) (by decide)) ⟨by decide, by decide⟩ rfl hl.1 rfl rfl (Nat.le_of_ble_eq_true rfl) dX12_value_1) hS (fun x102 I103 H locs h101 hM hS => ?_)
  obtain ⟨fr104, p105, p106, p107, p108⟩ := h101
  have hR := zq_fr.call hR fr104 (zf_sub (by decide +kernel) (fun _ _ q => q.elim))
  have hG109 : ∀ b, zGo X h0 b 0 I I103 := (fun b => zGo.wk (zGo.tr (hG0 b) (p105 b)) (by decide))
  have hQ110 : zQ X h0 0 I I103 := zQ.fr hQ0 L k_h0 fr104 rfl rfl rfl (by rw [zfr_o k_h0 fr104 rfl]; exact Int.le_refl _)
  refine lv_pop hx hb dX12_value_4 rfl ?_
  refine lv_aload_n hx hb dX12_value_5 rfl (lv_at hl 0 rfl) ?_
  refine zq_gn E hM k_h0 (zFX12_84 E hZ) (Or.inl ⟨by decide, by decide, by decide, rfl⟩) dX12_value_6 (fun x111 ex111 gx111 => ?_)
  replace gx111 : 0 ≤ x111.toInt ∧ x111.toInt ≤ 400 := gx111
  have := congrArg Int32.toInt ex111
  refine lv_istore_n (lv' := [(1, .int x111), (0, .ref h0)]) hx hb dX12_value_9 rfl hl (by decide) rfl (fun ls hl => ?_)
  refine lv_aload_n hx hb dX12_value_10 rfl (lv_at hl 1 rfl) ?_
  refine lv_aload_n hx hb dX12_value_11 rfl (lv_at hl 1 rfl) ?_
  refine zq_gk (v := x111) E hM k_h0 (zFX12_84 E hZ) (Or.inl ⟨by decide, by decide, by decide, rfl⟩) ex111 dX12_value_12 ?_
  refine W.eq (g2 := F0 m 15 ls [.int x111, .ref h0]) rfl ?_
  refine zq_pcalli (zq_rV (As := [.int x111]) (rest := []) E hZ hM k_h0 (c_X12_isDigit l X zk (zn) I103 L h0 k_h0 x111 ⟨by omega, by omega⟩ (by omega)) zmX12_102 zM_X12_isDigit (hro (0) 2 (by first | decide | omega) (by decide)) ⟨by decide, by decide⟩ rfl hl.1 rfl rfl (Nat.le_of_ble_eq_true rfl) dX12_value_15) hS (fun x113 H locs h112 hM hS => ?_)
  obtain ⟨p114, p115, p116⟩ := h112
  refine lv_if_eq (tgt := 52) hx hb dX12_value_18 (by decide) (fun b117 => ?_) (fun b117 => ?_)
  · have b117 := zi_eq b117 (rfl : x113.toInt = x113.toInt) (zl_0 : (0 : Int32).toInt = 0)
    refine lv_aload_n hx hb dX12_value_52 rfl (lv_at hl 1 rfl) ?_
    refine zq_calli (zq_rV (As := []) (rest := []) E hZ hM k_h0 (c_X12_wordHere l X zk (zn) I103 L h0 k_h0 (by omega) ((hG109 true).2.2.2.1)) zmX12_169 zM_X12_wordHere (hro (2) 1 (by first | decide | omega) (by decide)) ⟨by decide, by decide⟩ rfl hl.1 rfl rfl (Nat.le_of_ble_eq_true rfl) dX12_value_53) hS (fun x119 I120 H locs h118 hM hS => ?_)
    obtain ⟨fr121, p122, p123, p124⟩ := h118
    have hR := zq_fr.call hR fr121 (zf_sub (by decide +kernel) (fun _ _ q => q.elim))
    have hG125 : ∀ b, zGo X h0 b 0 I I120 := (fun b => zGo.wk (zGo.tr (hG109 b) (p122 b)) (by decide))
    have hQ126 : zQ X h0 0 I I120 := zQ.fr hQ110 L k_h0 fr121 rfl rfl rfl (by rw [zfr_o k_h0 fr121 rfl]; exact Int.le_refl _)
    refine lv_istore_n (lv' := [(2, .int x119), (1, .int x111), (0, .ref h0)]) hx hb dX12_value_56 rfl hl (by decide) rfl (fun ls hl => ?_)
    refine lv_iload_n hx hb dX12_value_57 rfl (lv_at hl 0 rfl) ?_
    refine lv_if_ge (tgt := 68) hx hb dX12_value_58 (by decide) (fun b129 => ?_) (fun b129 => ?_)
    · have b129 := zi_le b129 (zl_0 : (0 : Int32).toInt = 0) (rfl : x119.toInt = x119.toInt)
      have hLt130 : zLt X I120 h0 := p123.resolve_left (by omega)
      refine lv_aload_n hx hb dX12_value_68 rfl (lv_at hl 2 rfl) ?_
      refine lv_iload_n hx hb dX12_value_69 rfl (lv_at hl 1 rfl) ?_
      refine zq_calli (zq_rV (As := [.int x111]) (rest := []) E hZ hM k_h0 (c_X12_makes l X zk (zn) I120 L h0 k_h0 x111 (by omega) ((hG125 true).2.2.2.1)) zmX12_166 zM_X12_makes (hro (1) 2 (by first | decide | omega) (by decide)) ⟨by decide, by decide⟩ rfl hl.1 rfl rfl (Nat.le_of_ble_eq_true rfl) dX12_value_70) hS (fun x132 I133 H locs h131 hM hS => ?_)
      obtain ⟨fr134, p135, p136, p137⟩ := h131
      have hR := zq_fr.call hR fr134 (zf_sub (by decide +kernel) (fun _ _ q => q.elim))
      have hG138 : ∀ b, zGo X h0 b 0 I I133 := (fun b => zGo.wk (zGo.tr (hG125 b) (p135 b)) (by decide))
      have hQ139 : zQ X h0 0 I I133 := zQ.fr hQ126 L k_h0 fr134 rfl rfl rfl (p135 true).2.2.2.2.2.2.1
      have hW140 : x119.toInt < 0 ∨ zLt X I133 h0 := p123.imp id (fun q9 => zLt.sm q9 (fun _ => ⟨zfr_o k_h0 fr134 rfl, zfr_o k_h0 fr134 rfl, zfr_s L k_h0 fr134 rfl (by decide) rfl⟩))
      have hH142 : zLt X I133 h0 := zLt.sm hLt130 (fun _ => ⟨zfr_o k_h0 fr134 rfl, zfr_o k_h0 fr134 rfl, zfr_s L k_h0 fr134 rfl (by decide) rfl⟩)
      refine lv_if_ne (tgt := 78) hx hb dX12_value_73 (by decide) (fun b143 => ?_) (fun b143 => ?_)
      · have b143 := zi_ne b143 (rfl : x132.toInt = x132.toInt) (zl_0 : (0 : Int32).toInt = 0)
        have hMd144 : (I h0 12).toInt + 1 ≤ (I133 h0 12).toInt := by have q := p136.resolve_left (by omega); have q2 := (hG125 true).2.2.2.2.2.2.1; omega
        refine lv_aload_n hx hb dX12_value_78 rfl (lv_at hl 2 rfl) ?_
        refine zq_callv (zq_rV (As := []) (rest := []) E hZ hM k_h0 (c_X12_passWord l X zk (zn) I133 L h0 k_h0 (by omega) ((hG138 true).2.2.2.1)) zmX12_99 zM_X12_passWord (hro (1) 1 (by first | decide | omega) (by decide)) ⟨by decide, by decide⟩ rfl hl.1 rfl rfl (Nat.le_of_ble_eq_true rfl) dX12_value_79) hS (fun I147 H locs h145 hM hS => ?_)
        obtain ⟨fr148, p149, p150, p151⟩ := h145
        have hR := zq_fr.call hR fr148 (zf_sub (by decide +kernel) (fun _ _ q => q.elim))
        have hG152 : ∀ b, zGo X h0 b 0 I I147 := (fun b => zGo.wk (zGo.tr (hG138 b) (p149 b)) (by decide))
        have hQ153 : zQ X h0 0 I I147 := zQ.fr hQ139 L k_h0 fr148 rfl rfl rfl (by rw [zfr_o k_h0 fr148 rfl]; exact Int.le_refl _)
        have hK157 : (I h0 12).toInt + 1 ≤ (I147 h0 12).toInt := by rw [show I147 h0 12 = _ from (zq_fr.kp fr148 (zf_n k_h0 rfl) rfl)]; exact hMd144
        have hG158 : ∀ b, zGo X h0 b 1 I I147 := (fun b => zGo.wk (zGo.tr (hG138 b) (p150 hH142 b)) (by decide))
        refine lv_aload_n hx hb dX12_value_82 rfl (lv_at hl 2 rfl) ?_
        refine lv_iconst (v := 1) hx hb dX12_value_83 (by decide +kernel) ?_
        refine lv_iload_n hx hb dX12_value_84 rfl (lv_at hl 0 rfl) ?_
        refine zq_callv (zq_rV (As := [.int (1 : Int32), .int x119]) (rest := []) E hZ hM k_h0 (c_X12_puts l X zk (zn) I147 L h0 k_h0 (1 : Int32) x119 (by have := zl_1; omega) (by rw [(hG158 true).1]; exact q_2) (zGo.room (hG158 false) (by decide) q_3 ((zq_rng hM k_h0 1).2))) zmX12_158 zM_X12_puts (hro (0) 3 (by first | decide | omega) (by decide)) ⟨by decide, by decide⟩ rfl hl.1 rfl rfl (Nat.le_of_ble_eq_true rfl) dX12_value_85) hS (fun I161 H locs h159 hM hS => ?_)
        obtain ⟨fr162, p163, p164⟩ := h159
        have := zl_1
        have hR := zq_fr.call hR fr162 (zf_sub (by decide +kernel) (fun _ _ q => q.elim))
        have hG165 : ∀ b, zGo X h0 b 0 I I161 := (fun b => zGo.wk (zGo.tr (hG158 b) (zPu.go p163 k_h0 fr162 rfl (hG158 b).2.2.2.1 p164)) (by decide))
        have hK167 : (I h0 12).toInt + 1 ≤ (I161 h0 12).toInt := by rw [show I161 h0 12 = _ from (zq_fr.kp fr162 (zf_n k_h0 rfl) rfl)]; exact hK157
        have h61 : (I161 h0 12).toInt ≤ 60 := (zq_rng hM k_h0 12).2
        have h60 : (I147 h0 12).toInt ≤ 60 := by rw [← zfr_o k_h0 fr162 (i := 12) rfl]; exact h61
        have hQ168 : zQ X h0 1 I I161 := zQ.wrd hQ153 (hG158 true) p163 ⟨by omega, by omega⟩ h60 h61 hK167
        refine lv_iconst (v := 1) hx hb dX12_value_88 (by decide +kernel) ?_
        subst hQ
        exact zq_zret E hr hZ hM hS (show 0 ≤ (1 : Int32).toInt ∧ (1 : Int32).toInt ≤ 1 by decide +kernel) ⟨hR, (hG165), (Or.inr hQ168), (by have := zl_1; omega)⟩ hlocks dX12_value_89
      · have b143 := zi_eq b143 (rfl : x132.toInt = x132.toInt) (zl_0 : (0 : Int32).toInt = 0)
        refine lv_iconst (v := 0) hx hb dX12_value_76 (by decide +kernel) ?_
        subst hQ
        exact zq_zret E hr hZ hM hS (show 0 ≤ (0 : Int32).toInt ∧ (0 : Int32).toInt ≤ 1 by decide +kernel) ⟨hR, (hG138), (Or.inl (by decide +kernel)), (by have := zl_0; omega)⟩ hlocks dX12_value_77
    · have b129 := zi_nle b129 (zl_0 : (0 : Int32).toInt = 0) (rfl : x119.toInt = x119.toInt)
      refine lv_aload_n hx hb dX12_value_61 rfl (lv_at hl 2 rfl) ?_
      refine lv_iconst (v := 0) hx hb dX12_value_62 (by decide +kernel) ?_
      refine lv_iload_n hx hb dX12_value_63 rfl (lv_at hl 1 rfl) ?_
      refine zq_calli (zq_rV (As := [.int (0 : Int32), .int x111]) (rest := []) E hZ hM k_h0 (c_X12_fails l X zk (zn) I120 L h0 k_h0 (0 : Int32) x111 (by have := zl_0; omega)) zmX12_105 zM_X12_fails (hro (0) 3 (by first | decide | omega) (by decide)) ⟨by decide, by decide⟩ rfl hl.1 rfl rfl (Nat.le_of_ble_eq_true rfl) dX12_value_64) hS (fun x170 I171 H locs h169 hM hS => ?_)
      obtain ⟨fr172, p173, p174⟩ := h169
      have := zl_0
      have hR := zq_fr.call hR fr172 (zf_sub (by decide +kernel) (fun _ _ q => q.elim))
      have hG175 : ∀ b, zGo X h0 b 0 I I171 := (fun b => zGo.wk (zGo.fr (hG125 b) L k_h0 fr172 rfl rfl rfl) (by decide))
      have hQ176 : zQ X h0 0 I I171 := zQ.fr hQ126 L k_h0 fr172 rfl rfl rfl (by rw [zfr_o k_h0 fr172 rfl]; exact Int.le_refl _)
      have hW177 : x119.toInt < 0 ∨ zLt X I171 h0 := p123.imp id (fun q9 => zLt.sm q9 (fun _ => ⟨zfr_o k_h0 fr172 rfl, zfr_o k_h0 fr172 rfl, zfr_s L k_h0 fr172 rfl (by decide) rfl⟩))
      subst hQ
      exact zq_zret E hr hZ hM hS (show 0 ≤ x170.toInt ∧ x170.toInt ≤ 1 from ⟨by omega, by omega⟩) ⟨hR, (hG175), (Or.inl (by omega)), (by omega)⟩ hlocks dX12_value_67
  · have b117 := zi_ne b117 (rfl : x113.toInt = x113.toInt) (zl_0 : (0 : Int32).toInt = 0)
    refine lv_aload_n hx hb dX12_value_21 rfl (lv_at hl 1 rfl) ?_
    refine lv_iconst (v := 0) hx hb dX12_value_22 (by decide +kernel) ?_
    refine W.ldc (v := 99999) hx hb hown (hts _ (List.mem_cons_of_mem _ zCX12_162)) rfl dX12_value_23 ?_
    refine W.eq (g2 := F0 m 25 ls [.int (99999 : Int32), .int (0 : Int32), .ref h0]) rfl ?_
    refine zq_calli (zq_rV (As := [.int (0 : Int32), .int (99999 : Int32)]) (rest := []) E hZ hM k_h0 (c_X12_numberHere l X zk (zn) I103 L h0 k_h0 (0 : Int32) (99999 : Int32) (by have := zl_0; have := zl_99999; omega) ((hG109 true).2.2.2.1)) zmX12_163 zM_X12_numberHere (hro (1) 5 (by first | decide | omega) (by decide)) ⟨by decide, by decide⟩ rfl hl.1 rfl rfl (Nat.le_of_ble_eq_true rfl) dX12_value_25) hS (fun x180 I181 H locs h179 hM hS => ?_)
    obtain ⟨fr182, p183, p184, p185⟩ := h179
    have := zl_0
    have := zl_99999
    have hR := zq_fr.call hR fr182 (zf_sub (by decide +kernel) (fun _ _ q => q.elim))
    have hG186 : ∀ b, zGo X h0 b 0 I I181 := (fun b => zGo.wk (zGo.tr (hG109 b) (p183 b)) (by decide))
    have hQ187 : zQ X h0 0 I I181 := zQ.fr hQ110 L k_h0 fr182 rfl rfl rfl (by rw [zfr_o k_h0 fr182 rfl]; exact Int.le_refl _)
    refine lv_if_eq (tgt := 39) hx hb dX12_value_28 (by decide) (fun b190 => ?_) (fun b190 => ?_)
    · have b190 := zi_eq b190 (rfl : x180.toInt = x180.toInt) (zl_0 : (0 : Int32).toInt = 0)
      refine lv_iconst (v := 0) hx hb dX12_value_39 (by decide +kernel) ?_
      subst hQ
      exact zq_zret E hr hZ hM hS (show 0 ≤ (0 : Int32).toInt ∧ (0 : Int32).toInt ≤ 1 by decide +kernel) ⟨hR, (hG186), (Or.inl (by decide +kernel)), (by have := zl_0; omega)⟩ hlocks dX12_value_40
    · have b190 := zi_ne b190 (rfl : x180.toInt = x180.toInt) (zl_0 : (0 : Int32).toInt = 0)
      have hG191 : ∀ b, zGo X h0 b 1 I I181 := (fun b => zGo.wk (zGo.tr (hG109 b) ((p184.resolve_left (by omega)).1 b)) (by decide))
      have hNb192 : 0 ≤ (I181 h0 10).toInt ∧ (I181 h0 10).toInt ≤ 99999 := ⟨by have q := (p184.resolve_left (by omega)).2.1; have := zl_0; omega, by have q := (p184.resolve_left (by omega)).2.2; have := zl_99999; omega⟩
      refine lv_aload_n hx hb dX12_value_31 rfl (lv_at hl 1 rfl) ?_
      refine lv_iload_n hx hb dX12_value_32 rfl (lv_at hl 0 rfl) ?_
      refine zq_calli (zq_rV (As := [.int x111]) (rest := []) E hZ hM k_h0 (c_X12_makes l X zk (zn) I181 L h0 k_h0 x111 (by omega) ((hG191 true).2.2.2.1)) zmX12_166 zM_X12_makes (hro (1) 2 (by first | decide | omega) (by decide)) ⟨by decide, by decide⟩ rfl hl.1 rfl rfl (Nat.le_of_ble_eq_true rfl) dX12_value_33) hS (fun x194 I195 H locs h193 hM hS => ?_)
      obtain ⟨fr196, p197, p198, p199⟩ := h193
      have hR := zq_fr.call hR fr196 (zf_sub (by decide +kernel) (fun _ _ q => q.elim))
      have hG200 : ∀ b, zGo X h0 b 1 I I195 := (fun b => zGo.wk (zGo.tr (hG191 b) (p197 b)) (by decide))
      have hQ201 : zQ X h0 0 I I195 := zQ.fr hQ187 L k_h0 fr196 rfl rfl rfl (p197 true).2.2.2.2.2.2.1
      have hK202 : 0 ≤ (I195 h0 10).toInt ∧ (I195 h0 10).toInt ≤ 99999 := by rw [show I195 h0 10 = _ from (zq_fr.kp fr196 (zf_n k_h0 rfl) rfl)]; exact hNb192
      refine lv_if_ne (tgt := 41) hx hb dX12_value_36 (by decide) (fun b203 => ?_) (fun b203 => ?_)
      · have b203 := zi_ne b203 (rfl : x194.toInt = x194.toInt) (zl_0 : (0 : Int32).toInt = 0)
        have hMd204 : (I h0 12).toInt + 1 ≤ (I195 h0 12).toInt := by have q := p198.resolve_left (by omega); have q2 := (hG191 true).2.2.2.2.2.2.1; omega
        refine lv_aload_n hx hb dX12_value_41 rfl (lv_at hl 1 rfl) ?_
        refine lv_iconst (v := 0) hx hb dX12_value_42 (by decide +kernel) ?_
        refine lv_aload_n hx hb dX12_value_43 rfl (lv_at hl 1 rfl) ?_
        refine zq_gn E hM k_h0 (zFX12_109 E hZ) (Or.inl ⟨by decide, by decide, by decide, rfl⟩) dX12_value_44 (fun x205 ex205 gx205 => ?_)
        clear gx205
        have fx205 : 0 ≤ x205.toInt ∧ x205.toInt ≤ 99999 := by rw [← ex205]; exact hK202
        refine zq_callv (zq_rV (As := [.int (0 : Int32), .int x205]) (rest := []) E hZ hM k_h0 (c_X12_puts l X zk (zn) I195 L h0 k_h0 (0 : Int32) x205 (by have := zl_0; omega) (by rw [(hG200 true).1]; exact q_2) (zGo.room (hG200 false) (by decide) q_3 ((zq_rng hM k_h0 1).2))) zmX12_158 zM_X12_puts (hro (0) 3 (by first | decide | omega) (by decide)) ⟨by decide, by decide⟩ rfl hl.1 rfl rfl (Nat.le_of_ble_eq_true rfl) dX12_value_47) hS (fun I208 H locs h206 hM hS => ?_)
        obtain ⟨fr209, p210, p211⟩ := h206
        have := zl_0
        have hR := zq_fr.call hR fr209 (zf_sub (by decide +kernel) (fun _ _ q => q.elim))
        have hG212 : ∀ b, zGo X h0 b 0 I I208 := (fun b => zGo.wk (zGo.tr (hG200 b) (zPu.go p210 k_h0 fr209 rfl (hG200 b).2.2.2.1 p211)) (by decide))
        have hK214 : 0 ≤ (I208 h0 10).toInt ∧ (I208 h0 10).toInt ≤ 99999 := by rw [show I208 h0 10 = _ from (zq_fr.kp fr209 (zf_n k_h0 rfl) rfl)]; exact hK202
        have hK215 : (I h0 12).toInt + 1 ≤ (I208 h0 12).toInt := by rw [show I208 h0 12 = _ from (zq_fr.kp fr209 (zf_n k_h0 rfl) rfl)]; exact hMd204
        have h61 : (I208 h0 12).toInt ≤ 60 := (zq_rng hM k_h0 12).2
        have h60 : (I195 h0 12).toInt ≤ 60 := by rw [← zfr_o k_h0 fr209 (i := 12) rfl]; exact h61
        have hQ216 : zQ X h0 1 I I208 := zQ.num hQ201 (hG200 true) p210 h60 h61 hK215
        refine lv_iconst (v := 1) hx hb dX12_value_50 (by decide +kernel) ?_
        subst hQ
        exact zq_zret E hr hZ hM hS (show 0 ≤ (1 : Int32).toInt ∧ (1 : Int32).toInt ≤ 1 by decide +kernel) ⟨hR, (hG212), (Or.inr hQ216), (by have := zl_1; omega)⟩ hlocks dX12_value_51
      · have b203 := zi_eq b203 (rfl : x194.toInt = x194.toInt) (zl_0 : (0 : Int32).toInt = 0)
        refine lv_iconst (v := 0) hx hb dX12_value_39 (by decide +kernel) ?_
        subst hQ
        exact zq_zret E hr hZ hM hS (show 0 ≤ (0 : Int32).toInt ∧ (0 : Int32).toInt ≤ 1 by decide +kernel) ⟨hR, ((fun b => zGo.wk (hG200 b) (by decide))), (Or.inl (by decide +kernel)), (by have := zl_0; omega)⟩ hlocks dX12_value_40
def zw_X12_term : List (Nat × Nat) := [(10, 8), (10, 9), (10, 10), (10, 12), (51, 999), (52, 999)]
set_option maxHeartbeats 8000000 in
set_option maxRecDepth 100000 in
theorem c_X12_term (l : Launch) (X : zq_X) (zk zn : Nat) (I : zq_M) (L : zq_L X)  (h0 : Nat) (k_h0 : zq_k X h0 = 10) (q_0 : zk ≤ 4400 ∧ zn ≤ 4400) (q_1 : (I h0 8).toInt ≤ (I h0 1).toInt) (q_2 : (I h0 11).toInt ≤ 5) (q_3 : ((zLn X I h0 : Nat) : Int) ≤ (I h0 8).toInt) : Met l yX12_term (zt_w yX12_term cX12_term 2 (some .boolean)) (zq_rm (4)) (va_Pc [.ref h0] (zq_W X (zk, zn) I)) (va_Qi (fun (r : Int32) I2 => zq_fr (zf X zw_X12_term (fun _ => False)) I I2 ∧ (∀ b, zGo X h0 b 0 I I2) ∧ (r.toInt = 0 ∨ zQ X h0 1 I I2) ∧ (0 ≤ r.toInt ∧ r.toInt ≤ 1)) (zq_E X (zk, zn)) (zq_A X)) 0 0 (zq_A X) := by
  refine Met.ofW (cc := cX12_term) (maxL := 2) (ret := (some .boolean)) (by decide) rfl ?_
  intro p e s m args below meth c s₁ B hml hv
  obtain ⟨hargs, hM, hZ⟩ := hv
  have hown : s.vm.findClass RX12 = some m.cls := findClass_of_methodNamed B.named
  have hts := atoms_spec (ws := zt_w yX12_term cX12_term 2 (some .boolean)) B.pre
  have E : CallFix p m c cX12_term 2 s args (Cond.code yX12_term cX12_term 2 (some .boolean) :: zt) RX12 := ⟨B.exec, B.bytes, hml, hown, hts⟩
  have hx := B.exec
  have hb := B.bytes
  have hr := B.returns
  have hlocks := B.notSynchronized
  clear B
  have hS : va_S (zq_A X) s.heap s.heap [] := va_S.rf
  have hR : zq_fr (zf X zw_X12_term (fun _ => False)) I I := zq_fr.rf
  have hl := lv_entry ([.ref h0]) (n := 2) (by exact Nat.le_of_ble_eq_true rfl)
  have hg : entryFrame m args 2 = F0 m 0 ((lg_sl ([.ref h0]) ++ List.replicate (2 - (lg_sl ([.ref h0])).length) Slot.unset).toArray) [] := by rw [hargs]; exact lg_entry_eq m ([.ref h0]) 2
  rw [hg]
  clear hg hargs
  generalize (lg_sl ([.ref h0]) ++ List.replicate (2 - (lg_sl ([.ref h0])).length) Slot.unset).toArray = ls at hl ⊢
  have hl : lv_has ls 2 [(0, .ref h0)] := by exact hl
  obtain ⟨R, hRm⟩ : ∃ R : Room, R = (headSpec (zt_w yX12_term cX12_term 2 (some .boolean)) (zq_rm (4))).room := ⟨_, rfl⟩
  rw [← hRm]
  have hro : ∀ d q : Nat, d + 1 ≤ 4 → q ≤ 45 → zq_rok d q R := fun d q h1 h2 => by rw [hRm]; exact zq_rokI h1 h2
  generalize hQ : MQ below _ args s 0 0 (zq_A X) = Q
  obtain ⟨H, hH⟩ : ∃ H, H = s.heap := ⟨_, rfl⟩
  obtain ⟨locs, hlo⟩ : ∃ x : List Loc, x = [] := ⟨_, rfl⟩
  rw [show W p l e R s m args below meth c s.heap [] 0 0 Q = W p l e R s m args below meth c H locs 0 0 Q by rw [hH, hlo]]
  have hM : zq_hm X (zk, zn) I H := by rw [hH]; exact hM
  have hS : va_S (zq_A X) s.heap H locs := by rw [hH, hlo]; exact hS
  clear hH hlo
  have hG0 : ∀ b, zGo X h0 b 0 I I := fun b => zGo.rf q_1
  have hQ0 : zQ X h0 0 I I := zQ.rf
  refine lv_aload_n hx hb dX12_term_0 rfl (lv_at hl 0 rfl) ?_
  refine zq_calli (zq_rV (As := []) (rest := []) E hZ hM k_h0 (c_X12_value l X zk (zn) I L h0 k_h0 (by omega) ((hG0 true).2.2.2.1) (by rw [(hG0 true).1]; exact q_2) (zGo.len (hG0 false) (by decide) q_3)) zmX12_172 zM_X12_value (hro (3) 3 (by first | decide | omega) (by decide)) ⟨by decide, by decide⟩ rfl hl.1 rfl rfl (Nat.le_of_ble_eq_true rfl) dX12_term_1) hS (fun x102 I103 H locs h101 hM hS => ?_)
  obtain ⟨fr104, p105, p106, p107⟩ := h101
  have hR := zq_fr.call hR fr104 (zf_sub (by decide +kernel) (fun _ _ q => q.elim))
  have hG108 : ∀ b, zGo X h0 b 0 I I103 := (fun b => zGo.wk (zGo.tr (hG0 b) (p105 b)) (by decide))
  refine lv_if_ne (tgt := 9) hx hb dX12_term_4 (by decide) (fun b110 => ?_) (fun b110 => ?_)
  · have b110 := zi_ne b110 (rfl : x102.toInt = x102.toInt) (zl_0 : (0 : Int32).toInt = 0)
    have hQ111 : zQ X h0 1 I I103 := zQ.tr hQ0 (hG0 true) (p105 true) (p106.resolve_left (by omega))
    have J9 : ∀ (n185 : Nat) (I182 : zq_M) (H : Heap) (locs : List Loc) (ls : Array Slot), 401 - (I182 h0 8).toInt ≤ ((n185 : Nat) : Int) → (zq_hm X (zk, zn) I182 H) → (va_S (zq_A X) s.heap H locs) → (zq_fr (zf X zw_X12_term (fun _ => False)) I I182) → (∀ b, zGo X h0 b 0 I I182) → (zQ X h0 1 I I182) → (lv_has ls 2 [(0, .ref h0)]) → W p l e R s m args below meth c H locs 0 0 Q (F0 m 9 ls []) := by
      intro n185
      induction n185 with
      | zero => intro I182 H locs ls mu186 hM hS hR F183 F184 hl; exfalso; have q9 : _ ≤ (400 : Int) := (zq_rng hM k_h0 8).2; omega
      | succ n185 ih9 =>
        intro I182 H locs ls mu186 hM hS hR F183 F184 hl
        have hNx0 : (I182 h0 8).toInt + 0 ≤ (I182 h0 8).toInt := by omega
        refine lv_aload_n hx hb dX12_term_9 rfl (lv_at hl 0 rfl) ?_
        refine zq_calli (zq_rV (As := []) (rest := []) E hZ hM k_h0 (c_X12_see l X zk (zn) I182 L h0 k_h0 (by omega) ((F183 true).2.2.2.1)) zmX12_87 zM_X12_see (hro (0) 1 (by first | decide | omega) (by decide)) ⟨by decide, by decide⟩ rfl hl.1 rfl rfl (Nat.le_of_ble_eq_true rfl) dX12_term_10) hS (fun x188 I189 H locs h187 hM hS => ?_)
        obtain ⟨fr190, p191, p192, p193, p194⟩ := h187
        have hR := zq_fr.call hR fr190 (zf_sub (by decide +kernel) (fun _ _ q => q.elim))
        have hG195 : ∀ b, zGo X h0 b 0 I I189 := (fun b => zGo.wk (zGo.tr (F183 b) (p191 b)) (by decide))
        have hQ196 : zQ X h0 1 I I189 := zQ.fr F184 L k_h0 fr190 rfl rfl rfl (by rw [zfr_o k_h0 fr190 rfl]; exact Int.le_refl _)
        have hNx197 : (I182 h0 8).toInt + 0 ≤ (I189 h0 8).toInt := Int.le_trans hNx0 (p191 true).2.2.1
        refine lv_bipush (v := 42) hx hb dX12_term_13 (by decide +kernel) ?_
        have J36 : ∀ (I224 : zq_M) (H : Heap) (locs : List Loc) (ls : Array Slot), (zq_hm X (zk, zn) I224 H) → (va_S (zq_A X) s.heap H locs) → (zq_fr (zf X zw_X12_term (fun _ => False)) I I224) → (∀ b, zGo X h0 b 0 I I224) → (zQ X h0 1 I I224) → ((I182 h0 8).toInt + 0 ≤ (I224 h0 8).toInt) → ((I224 h0 8).toInt < (I224 h0 1).toInt) → (lv_has ls 2 [(0, .ref h0)]) → W p l e R s m args below meth c H locs 0 0 Q (F0 m 36 ls []) := by
          intro I224 H locs ls hM hS hR F225 F226 F227 h36 hl
          have hN8261 : 0 ≤ (I224 h0 8).toInt ∧ (I224 h0 8).toInt ≤ 399 := ⟨(zq_rng hM k_h0 8).1, by have q : (I224 h0 1).toInt ≤ 400 := (zq_rng hM k_h0 1).2; omega⟩
          refine lv_aload_n hx hb dX12_term_36 rfl (lv_at hl 0 rfl) ?_
          refine zq_getr E hM k_h0 (zFX12_7 E hZ) ⟨by decide, by decide, by decide, rfl⟩ dX12_term_37 ?_
          have k262 : zq_k X (zq_r X h0 0) = 50 := zq_lk L.1 k_h0 rfl (by decide)
          refine lv_aload_n hx hb dX12_term_40 rfl (lv_at hl 0 rfl) ?_
          refine zq_gn E hM k_h0 (zFX12_84 E hZ) (Or.inl ⟨by decide, by decide, by decide, rfl⟩) dX12_term_41 (fun x263 ex263 gx263 => ?_)
          replace gx263 : 0 ≤ x263.toInt ∧ x263.toInt ≤ 400 := gx263
          have fx263 : 0 ≤ x263.toInt ∧ x263.toInt ≤ 399 := by rw [← ex263]; exact hN8261
          have := congrArg Int32.toInt ex263
          refine zq_ban (n := 400) (j := (x263.toNatClampNeg)) E hZ hM k262 ⟨by decide, rfl⟩ ⟨by omega, by omega⟩ rfl dX12_term_44 (fun x264 ex264 gx264 => ?_)
          clear gx264
          have := congrArg Int32.toInt ex264
          refine lv_bipush (v := 42) hx hb dX12_term_45 (by decide +kernel) ?_
          have J74 : ∀ (ls : Array Slot) (j267 : Int32), (4 ≤ j267.toInt ∧ j267.toInt ≤ 14) → (j267.toInt = 4 ∨ j267.toInt = 5 ∨ j267.toInt = 14) → (lv_has ls 2 [(0, .ref h0)]) → W p l e R s m args below meth c H locs 0 0 Q (F0 m 74 ls [.int j267]) := by
            intro ls j267 gj267 h74 hl
            refine lv_istore_n (lv' := [(1, .int j267), (0, .ref h0)]) hx hb dX12_term_74 rfl hl (by decide) rfl (fun ls hl => ?_)
            refine lv_aload_n hx hb dX12_term_75 rfl (lv_at hl 1 rfl) ?_
            refine lv_dup hx hb dX12_term_76 rfl ?_
            refine zq_gk (v := x263) E hM k_h0 (zFX12_84 E hZ) (Or.inl ⟨by decide, by decide, by decide, rfl⟩) ex263 dX12_term_77 ?_
            refine lv_iconst (v := 1) hx hb dX12_term_80 (by decide +kernel) ?_
            refine lv_iadd hx hb dX12_term_81 ?_
            refine lv_topi (fun x294 ex294 => ?_)
            have tx294 := zi_add ex294 (rfl : x263.toInt = x263.toInt) (zl_1 : (1 : Int32).toInt = 1) ⟨by omega, by omega⟩
            refine zq_pn E hM hS k_h0 (zGX12_84 E hZ) ⟨by decide, by decide, by decide, rfl⟩ (show 0 ≤ x294.toInt ∧ x294.toInt ≤ 400 from ⟨by omega, by omega⟩) dX12_term_82 (fun I295 H locs eI295 hM hS => ?_)
            have hR := zq_fr.putE hR eI295 (zf_i k_h0 rfl rfl)
            have hG296 : ∀ b, zGo X h0 b 1 I I295 := (fun b => zGo.wk (zGo.p8 (F225 b) L k_h0 eI295 1 (by rw [ex263]; omega) (by decide) (by omega)) (by decide))
            have hQ297 : zQ X h0 1 I I295 := zQ.pt F226 L k_h0 eI295 k_h0 ⟨by decide, by decide, Or.inr ⟨by decide, by decide⟩⟩
            have hNx298 : (I182 h0 8).toInt + 1 ≤ (I295 h0 8).toInt := by have q9 := F227; rw [zq_kv eI295]; omega
            refine lv_aload_n hx hb dX12_term_85 rfl (lv_at hl 1 rfl) ?_
            refine zq_calli (zq_rV (As := []) (rest := []) E hZ hM k_h0 (c_X12_value l X zk (zn) I295 L h0 k_h0 (by omega) ((hG296 true).2.2.2.1) (by rw [(hG296 true).1]; exact q_2) (zGo.len (hG296 false) (by decide) q_3)) zmX12_172 zM_X12_value (hro (3) 3 (by first | decide | omega) (by decide)) ⟨by decide, by decide⟩ rfl hl.1 rfl rfl (Nat.le_of_ble_eq_true rfl) dX12_term_86) hS (fun x300 I301 H locs h299 hM hS => ?_)
            obtain ⟨fr302, p303, p304, p305⟩ := h299
            have hR := zq_fr.call hR fr302 (zf_sub (by decide +kernel) (fun _ _ q => q.elim))
            have hG306 : ∀ b, zGo X h0 b 1 I I301 := (fun b => zGo.wk (zGo.tr (hG296 b) (p303 b)) (by decide))
            have hNx308 : (I182 h0 8).toInt + 1 ≤ (I301 h0 8).toInt := Int.le_trans hNx298 (p303 true).2.2.1
            refine W.eq (g2 := F0 m 89 ls [.int x300]) rfl ?_
            refine lv_if_ne (tgt := 94) hx hb dX12_term_89 (by decide) (fun b309 => ?_) (fun b309 => ?_)
            · have b309 := zi_ne b309 (rfl : x300.toInt = x300.toInt) (zl_0 : (0 : Int32).toInt = 0)
              have hQ310 : zQ X h0 2 I I301 := zQ.tr hQ297 (hG296 true) (p303 true) (p304.resolve_left (by omega))
              refine lv_aload_n hx hb dX12_term_94 rfl (lv_at hl 1 rfl) ?_
              refine lv_iload_n hx hb dX12_term_95 rfl (lv_at hl 0 rfl) ?_
              refine lv_iconst (v := 0) hx hb dX12_term_96 (by decide +kernel) ?_
              refine zq_callv (zq_rV (As := [.int j267, .int (0 : Int32)]) (rest := []) E hZ hM k_h0 (c_X12_puts l X zk (zn) I301 L h0 k_h0 j267 (0 : Int32) (by have := zl_0; omega) (by rw [(hG306 true).1]; exact q_2) (zGo.room (hG306 false) (by decide) q_3 ((zq_rng hM k_h0 1).2))) zmX12_158 zM_X12_puts (hro (0) 3 (by first | decide | omega) (by decide)) ⟨by decide, by decide⟩ rfl hl.1 rfl rfl (Nat.le_of_ble_eq_true rfl) dX12_term_97) hS (fun I313 H locs h311 hM hS => ?_)
              obtain ⟨fr314, p315, p316⟩ := h311
              have := zl_0
              have hR := zq_fr.call hR fr314 (zf_sub (by decide +kernel) (fun _ _ q => q.elim))
              have hG317 : ∀ b, zGo X h0 b 0 I I313 := (fun b => zGo.wk (zGo.tr (hG306 b) (zPu.go p315 k_h0 fr314 rfl (hG306 b).2.2.2.1 p316)) (by decide))
              have hNx318 : (I182 h0 8).toInt + 1 ≤ (I313 h0 8).toInt := by rw [zfr_o (i := 8) k_h0 fr314 rfl]; exact hNx308
              have h61 : (I313 h0 12).toInt ≤ 60 := (zq_rng hM k_h0 12).2
              have h60 : (I301 h0 12).toInt ≤ 60 := by rw [← zfr_o k_h0 fr314 (i := 12) rfl]; exact h61
              have hQ320 : zQ X h0 1 I I313 := zQ.bin (n := 0) hQ310 (hG306 true) p315 h60 (zfr_o k_h0 fr314 rfl) ⟨by omega, by omega, by omega⟩
              refine lv_goto (tgt := 9) hx hb dX12_term_100 (by decide) ?_
              exact ih9 I313 H locs ls (by have q9 := hNx318; omega) hM hS hR hG317 hQ320 (lv_sub hl [1] rfl)
            · have b309 := zi_eq b309 (rfl : x300.toInt = x300.toInt) (zl_0 : (0 : Int32).toInt = 0)
              refine lv_iconst (v := 0) hx hb dX12_term_92 (by decide +kernel) ?_
              subst hQ
              exact zq_zret E hr hZ hM hS (show 0 ≤ (0 : Int32).toInt ∧ (0 : Int32).toInt ≤ 1 by decide +kernel) ⟨hR, ((fun b => zGo.wk (hG306 b) (by decide))), (Or.inl (by decide +kernel)), (by have := zl_0; omega)⟩ hlocks dX12_term_93
          refine lv_icmp_ne (tgt := 54) hx hb dX12_term_47 (by decide) (fun b321 => ?_) (fun b321 => ?_)
          · have b321 := zi_ne b321 (rfl : x264.toInt = x264.toInt) (zl_42 : (42 : Int32).toInt = 42)
            refine lv_aload_n hx hb dX12_term_54 rfl (lv_at hl 0 rfl) ?_
            refine zq_getr E hM k_h0 (zFX12_7 E hZ) ⟨by decide, by decide, by decide, rfl⟩ dX12_term_55 ?_
            have k322 : zq_k X (zq_r X h0 0) = 50 := zq_lk L.1 k_h0 rfl (by decide)
            refine lv_aload_n hx hb dX12_term_58 rfl (lv_at hl 0 rfl) ?_
            refine zq_gk (v := x263) E hM k_h0 (zFX12_84 E hZ) (Or.inl ⟨by decide, by decide, by decide, rfl⟩) ex263 dX12_term_59 ?_
            refine zq_ban (n := 400) (j := (x263.toNatClampNeg)) E hZ hM k322 ⟨by decide, rfl⟩ ⟨by omega, by omega⟩ rfl dX12_term_62 (fun x323 ex323 gx323 => ?_)
            clear gx323
            have := congrArg Int32.toInt ex323
            refine lv_bipush (v := 47) hx hb dX12_term_63 (by decide +kernel) ?_
            refine lv_icmp_ne (tgt := 72) hx hb dX12_term_65 (by decide) (fun b324 => ?_) (fun b324 => ?_)
            · have b324 := zi_ne b324 (rfl : x323.toInt = x323.toInt) (zl_47 : (47 : Int32).toInt = 47)
              refine lv_bipush (v := 14) hx hb dX12_term_72 (by decide +kernel) ?_
              exact J74 ls (14 : Int32) (by rw [zl_14]; decide) (by have := zl_14; omega) (lv_sub hl [0] rfl)
            · have b324 := zi_eq b324 (rfl : x323.toInt = x323.toInt) (zl_47 : (47 : Int32).toInt = 47)
              refine lv_iconst (v := 5) hx hb dX12_term_68 (by decide +kernel) ?_
              refine lv_goto (tgt := 74) hx hb dX12_term_69 (by decide) ?_
              exact J74 ls (5 : Int32) (by rw [zl_5]; decide) (by have := zl_5; omega) (lv_sub hl [0] rfl)
          · have b321 := zi_eq b321 (rfl : x264.toInt = x264.toInt) (zl_42 : (42 : Int32).toInt = 42)
            refine lv_iconst (v := 4) hx hb dX12_term_50 (by decide +kernel) ?_
            refine lv_goto (tgt := 74) hx hb dX12_term_51 (by decide) ?_
            exact J74 ls (4 : Int32) (by rw [zl_4]; decide) (by have := zl_4; omega) (lv_sub hl [0] rfl)
        refine lv_icmp_eq (tgt := 36) hx hb dX12_term_15 (by decide) (fun b325 => ?_) (fun b325 => ?_)
        · have b325 := zi_eq b325 (rfl : x188.toInt = x188.toInt) (zl_42 : (42 : Int32).toInt = 42)
          exact J36 I189 H locs ls hM hS hR hG195 hQ196 hNx197 ((p193.resolve_left (by omega)).1) (lv_sub hl [0] rfl)
        · have b325 := zi_ne b325 (rfl : x188.toInt = x188.toInt) (zl_42 : (42 : Int32).toInt = 42)
          refine lv_aload_n hx hb dX12_term_18 rfl (lv_at hl 0 rfl) ?_
          refine zq_calli (zq_rV (As := []) (rest := []) E hZ hM k_h0 (c_X12_see l X zk (zn) I189 L h0 k_h0 (by omega) ((hG195 true).2.2.2.1)) zmX12_87 zM_X12_see (hro (0) 1 (by first | decide | omega) (by decide)) ⟨by decide, by decide⟩ rfl hl.1 rfl rfl (Nat.le_of_ble_eq_true rfl) dX12_term_19) hS (fun x327 I328 H locs h326 hM hS => ?_)
          obtain ⟨fr329, p330, p331, p332, p333⟩ := h326
          have hR := zq_fr.call hR fr329 (zf_sub (by decide +kernel) (fun _ _ q => q.elim))
          have hG334 : ∀ b, zGo X h0 b 0 I I328 := (fun b => zGo.wk (zGo.tr (hG195 b) (p330 b)) (by decide))
          have hQ335 : zQ X h0 1 I I328 := zQ.fr hQ196 L k_h0 fr329 rfl rfl rfl (by rw [zfr_o k_h0 fr329 rfl]; exact Int.le_refl _)
          have hNx336 : (I182 h0 8).toInt + 0 ≤ (I328 h0 8).toInt := Int.le_trans hNx197 (p330 true).2.2.1
          have hE337 : x188.toInt = -1 ∨ zAt X I328 h0 := p193.imp id (fun q9 => zAt.sm q9 p331)
          refine lv_bipush (v := 47) hx hb dX12_term_22 (by decide +kernel) ?_
          refine lv_icmp_eq (tgt := 36) hx hb dX12_term_24 (by decide) (fun b339 => ?_) (fun b339 => ?_)
          · have b339 := zi_eq b339 (rfl : x327.toInt = x327.toInt) (zl_47 : (47 : Int32).toInt = 47)
            exact J36 I328 H locs ls hM hS hR hG334 hQ335 hNx336 ((p332.resolve_left (by omega)).1) (lv_sub hl [0] rfl)
          · have b339 := zi_ne b339 (rfl : x327.toInt = x327.toInt) (zl_47 : (47 : Int32).toInt = 47)
            refine lv_aload_n hx hb dX12_term_27 rfl (lv_at hl 0 rfl) ?_
            refine zq_calli (zq_rV (As := []) (rest := []) E hZ hM k_h0 (c_X12_see l X zk (zn) I328 L h0 k_h0 (by omega) ((hG334 true).2.2.2.1)) zmX12_87 zM_X12_see (hro (0) 1 (by first | decide | omega) (by decide)) ⟨by decide, by decide⟩ rfl hl.1 rfl rfl (Nat.le_of_ble_eq_true rfl) dX12_term_28) hS (fun x341 I342 H locs h340 hM hS => ?_)
            obtain ⟨fr343, p344, p345, p346, p347⟩ := h340
            have hR := zq_fr.call hR fr343 (zf_sub (by decide +kernel) (fun _ _ q => q.elim))
            have hG348 : ∀ b, zGo X h0 b 0 I I342 := (fun b => zGo.wk (zGo.tr (hG334 b) (p344 b)) (by decide))
            have hQ349 : zQ X h0 1 I I342 := zQ.fr hQ335 L k_h0 fr343 rfl rfl rfl (by rw [zfr_o k_h0 fr343 rfl]; exact Int.le_refl _)
            have hNx350 : (I182 h0 8).toInt + 0 ≤ (I342 h0 8).toInt := Int.le_trans hNx336 (p344 true).2.2.1
            have hE351 : x327.toInt = -1 ∨ zAt X I342 h0 := p332.imp id (fun q9 => zAt.sm q9 p345)
            refine lv_bipush (v := 37) hx hb dX12_term_31 (by decide +kernel) ?_
            refine lv_icmp_ne (tgt := 103) hx hb dX12_term_33 (by decide) (fun b353 => ?_) (fun b353 => ?_)
            · have b353 := zi_ne b353 (rfl : x341.toInt = x341.toInt) (zl_37 : (37 : Int32).toInt = 37)
              refine lv_iconst (v := 1) hx hb dX12_term_103 (by decide +kernel) ?_
              subst hQ
              exact zq_zret E hr hZ hM hS (show 0 ≤ (1 : Int32).toInt ∧ (1 : Int32).toInt ≤ 1 by decide +kernel) ⟨hR, (hG348), (Or.inr hQ349), (by have := zl_1; omega)⟩ hlocks dX12_term_104
            · have b353 := zi_eq b353 (rfl : x341.toInt = x341.toInt) (zl_37 : (37 : Int32).toInt = 37)
              exact J36 I342 H locs ls hM hS hR hG348 hQ349 hNx350 ((p346.resolve_left (by omega)).1) (lv_sub hl [0] rfl)
    exact J9 (401 - (I103 h0 8).toInt).toNat I103 H locs ls (by omega) hM hS hR hG108 hQ111 (lv_sub hl [0] rfl)
  · have b110 := zi_eq b110 (rfl : x102.toInt = x102.toInt) (zl_0 : (0 : Int32).toInt = 0)
    refine lv_iconst (v := 0) hx hb dX12_term_7 (by decide +kernel) ?_
    subst hQ
    exact zq_zret E hr hZ hM hS (show 0 ≤ (0 : Int32).toInt ∧ (0 : Int32).toInt ≤ 1 by decide +kernel) ⟨hR, (hG108), (Or.inl (by decide +kernel)), (by have := zl_0; omega)⟩ hlocks dX12_term_8
def zw_X12_sum : List (Nat × Nat) := [(10, 8), (10, 9), (10, 10), (10, 12), (51, 999), (52, 999)]
set_option maxHeartbeats 8000000 in
set_option maxRecDepth 100000 in
theorem c_X12_sum (l : Launch) (X : zq_X) (zk zn : Nat) (I : zq_M) (L : zq_L X)  (h0 : Nat) (k_h0 : zq_k X h0 = 10) (q_0 : zk ≤ 4400 ∧ zn ≤ 4400) (q_1 : (I h0 8).toInt ≤ (I h0 1).toInt) (q_2 : (I h0 11).toInt ≤ 5) (q_3 : ((zLn X I h0 : Nat) : Int) ≤ (I h0 8).toInt) : Met l yX12_sum (zt_w yX12_sum cX12_sum 2 (some .boolean)) (zq_rm (5)) (va_Pc [.ref h0] (zq_W X (zk, zn) I)) (va_Qi (fun (r : Int32) I2 => zq_fr (zf X zw_X12_sum (fun _ => False)) I I2 ∧ (∀ b, zGo X h0 b 0 I I2) ∧ (r.toInt = 0 ∨ zQ X h0 1 I I2) ∧ (0 ≤ r.toInt ∧ r.toInt ≤ 1)) (zq_E X (zk, zn)) (zq_A X)) 0 0 (zq_A X) := by
  refine Met.ofW (cc := cX12_sum) (maxL := 2) (ret := (some .boolean)) (by decide) rfl ?_
  intro p e s m args below meth c s₁ B hml hv
  obtain ⟨hargs, hM, hZ⟩ := hv
  have hown : s.vm.findClass RX12 = some m.cls := findClass_of_methodNamed B.named
  have hts := atoms_spec (ws := zt_w yX12_sum cX12_sum 2 (some .boolean)) B.pre
  have E : CallFix p m c cX12_sum 2 s args (Cond.code yX12_sum cX12_sum 2 (some .boolean) :: zt) RX12 := ⟨B.exec, B.bytes, hml, hown, hts⟩
  have hx := B.exec
  have hb := B.bytes
  have hr := B.returns
  have hlocks := B.notSynchronized
  clear B
  have hS : va_S (zq_A X) s.heap s.heap [] := va_S.rf
  have hR : zq_fr (zf X zw_X12_sum (fun _ => False)) I I := zq_fr.rf
  have hl := lv_entry ([.ref h0]) (n := 2) (by exact Nat.le_of_ble_eq_true rfl)
  have hg : entryFrame m args 2 = F0 m 0 ((lg_sl ([.ref h0]) ++ List.replicate (2 - (lg_sl ([.ref h0])).length) Slot.unset).toArray) [] := by rw [hargs]; exact lg_entry_eq m ([.ref h0]) 2
  rw [hg]
  clear hg hargs
  generalize (lg_sl ([.ref h0]) ++ List.replicate (2 - (lg_sl ([.ref h0])).length) Slot.unset).toArray = ls at hl ⊢
  have hl : lv_has ls 2 [(0, .ref h0)] := by exact hl
  obtain ⟨R, hRm⟩ : ∃ R : Room, R = (headSpec (zt_w yX12_sum cX12_sum 2 (some .boolean)) (zq_rm (5))).room := ⟨_, rfl⟩
  rw [← hRm]
  have hro : ∀ d q : Nat, d + 1 ≤ 5 → q ≤ 45 → zq_rok d q R := fun d q h1 h2 => by rw [hRm]; exact zq_rokI h1 h2
  generalize hQ : MQ below _ args s 0 0 (zq_A X) = Q
  obtain ⟨H, hH⟩ : ∃ H, H = s.heap := ⟨_, rfl⟩
  obtain ⟨locs, hlo⟩ : ∃ x : List Loc, x = [] := ⟨_, rfl⟩
  rw [show W p l e R s m args below meth c s.heap [] 0 0 Q = W p l e R s m args below meth c H locs 0 0 Q by rw [hH, hlo]]
  have hM : zq_hm X (zk, zn) I H := by rw [hH]; exact hM
  have hS : va_S (zq_A X) s.heap H locs := by rw [hH, hlo]; exact hS
  clear hH hlo
  have hG0 : ∀ b, zGo X h0 b 0 I I := fun b => zGo.rf q_1
  have hQ0 : zQ X h0 0 I I := zQ.rf
  refine lv_aload_n hx hb dX12_sum_0 rfl (lv_at hl 0 rfl) ?_
  refine zq_calli (zq_rV (As := []) (rest := []) E hZ hM k_h0 (c_X12_term l X zk (zn) I L h0 k_h0 (by omega) ((hG0 true).2.2.2.1) (by rw [(hG0 true).1]; exact q_2) (zGo.len (hG0 false) (by decide) q_3)) zmX12_176 zM_X12_term (hro (4) 2 (by first | decide | omega) (by decide)) ⟨by decide, by decide⟩ rfl hl.1 rfl rfl (Nat.le_of_ble_eq_true rfl) dX12_sum_1) hS (fun x102 I103 H locs h101 hM hS => ?_)
  obtain ⟨fr104, p105, p106, p107⟩ := h101
  have hR := zq_fr.call hR fr104 (zf_sub (by decide +kernel) (fun _ _ q => q.elim))
  have hG108 : ∀ b, zGo X h0 b 0 I I103 := (fun b => zGo.wk (zGo.tr (hG0 b) (p105 b)) (by decide))
  refine lv_if_ne (tgt := 9) hx hb dX12_sum_4 (by decide) (fun b110 => ?_) (fun b110 => ?_)
  · have b110 := zi_ne b110 (rfl : x102.toInt = x102.toInt) (zl_0 : (0 : Int32).toInt = 0)
    have hQ111 : zQ X h0 1 I I103 := zQ.tr hQ0 (hG0 true) (p105 true) (p106.resolve_left (by omega))
    have J9 : ∀ (n171 : Nat) (I168 : zq_M) (H : Heap) (locs : List Loc) (ls : Array Slot), 401 - (I168 h0 8).toInt ≤ ((n171 : Nat) : Int) → (zq_hm X (zk, zn) I168 H) → (va_S (zq_A X) s.heap H locs) → (zq_fr (zf X zw_X12_sum (fun _ => False)) I I168) → (∀ b, zGo X h0 b 0 I I168) → (zQ X h0 1 I I168) → (lv_has ls 2 [(0, .ref h0)]) → W p l e R s m args below meth c H locs 0 0 Q (F0 m 9 ls []) := by
      intro n171
      induction n171 with
      | zero => intro I168 H locs ls mu172 hM hS hR F169 F170 hl; exfalso; have q9 : _ ≤ (400 : Int) := (zq_rng hM k_h0 8).2; omega
      | succ n171 ih9 =>
        intro I168 H locs ls mu172 hM hS hR F169 F170 hl
        have hNx0 : (I168 h0 8).toInt + 0 ≤ (I168 h0 8).toInt := by omega
        refine lv_aload_n hx hb dX12_sum_9 rfl (lv_at hl 0 rfl) ?_
        refine zq_calli (zq_rV (As := []) (rest := []) E hZ hM k_h0 (c_X12_see l X zk (zn) I168 L h0 k_h0 (by omega) ((F169 true).2.2.2.1)) zmX12_87 zM_X12_see (hro (0) 1 (by first | decide | omega) (by decide)) ⟨by decide, by decide⟩ rfl hl.1 rfl rfl (Nat.le_of_ble_eq_true rfl) dX12_sum_10) hS (fun x174 I175 H locs h173 hM hS => ?_)
        obtain ⟨fr176, p177, p178, p179, p180⟩ := h173
        have hR := zq_fr.call hR fr176 (zf_sub (by decide +kernel) (fun _ _ q => q.elim))
        have hG181 : ∀ b, zGo X h0 b 0 I I175 := (fun b => zGo.wk (zGo.tr (F169 b) (p177 b)) (by decide))
        have hQ182 : zQ X h0 1 I I175 := zQ.fr F170 L k_h0 fr176 rfl rfl rfl (by rw [zfr_o k_h0 fr176 rfl]; exact Int.le_refl _)
        have hNx183 : (I168 h0 8).toInt + 0 ≤ (I175 h0 8).toInt := Int.le_trans hNx0 (p177 true).2.2.1
        refine lv_bipush (v := 43) hx hb dX12_sum_13 (by decide +kernel) ?_
        have J27 : ∀ (I197 : zq_M) (H : Heap) (locs : List Loc) (ls : Array Slot), (zq_hm X (zk, zn) I197 H) → (va_S (zq_A X) s.heap H locs) → (zq_fr (zf X zw_X12_sum (fun _ => False)) I I197) → (∀ b, zGo X h0 b 0 I I197) → (zQ X h0 1 I I197) → ((I168 h0 8).toInt + 0 ≤ (I197 h0 8).toInt) → ((I197 h0 8).toInt < (I197 h0 1).toInt) → (lv_has ls 2 [(0, .ref h0)]) → W p l e R s m args below meth c H locs 0 0 Q (F0 m 27 ls []) := by
          intro I197 H locs ls hM hS hR F198 F199 F200 h27 hl
          have hN8232 : 0 ≤ (I197 h0 8).toInt ∧ (I197 h0 8).toInt ≤ 399 := ⟨(zq_rng hM k_h0 8).1, by have q : (I197 h0 1).toInt ≤ 400 := (zq_rng hM k_h0 1).2; omega⟩
          refine lv_aload_n hx hb dX12_sum_27 rfl (lv_at hl 0 rfl) ?_
          refine zq_getr E hM k_h0 (zFX12_7 E hZ) ⟨by decide, by decide, by decide, rfl⟩ dX12_sum_28 ?_
          have k233 : zq_k X (zq_r X h0 0) = 50 := zq_lk L.1 k_h0 rfl (by decide)
          refine lv_aload_n hx hb dX12_sum_31 rfl (lv_at hl 0 rfl) ?_
          refine zq_gn E hM k_h0 (zFX12_84 E hZ) (Or.inl ⟨by decide, by decide, by decide, rfl⟩) dX12_sum_32 (fun x234 ex234 gx234 => ?_)
          replace gx234 : 0 ≤ x234.toInt ∧ x234.toInt ≤ 400 := gx234
          have fx234 : 0 ≤ x234.toInt ∧ x234.toInt ≤ 399 := by rw [← ex234]; exact hN8232
          have := congrArg Int32.toInt ex234
          refine zq_ban (n := 400) (j := (x234.toNatClampNeg)) E hZ hM k233 ⟨by decide, rfl⟩ ⟨by omega, by omega⟩ rfl dX12_sum_35 (fun x235 ex235 gx235 => ?_)
          clear gx235
          have := congrArg Int32.toInt ex235
          refine lv_bipush (v := 43) hx hb dX12_sum_36 (by decide +kernel) ?_
          have J46 : ∀ (ls : Array Slot) (j236 : Int32), (2 ≤ j236.toInt ∧ j236.toInt ≤ 3) → (lv_has ls 2 [(0, .ref h0)]) → W p l e R s m args below meth c H locs 0 0 Q (F0 m 46 ls [.int j236]) := by
            intro ls j236 gj236 hl
            refine lv_istore_n (lv' := [(1, .int j236), (0, .ref h0)]) hx hb dX12_sum_46 rfl hl (by decide) rfl (fun ls hl => ?_)
            refine lv_aload_n hx hb dX12_sum_47 rfl (lv_at hl 1 rfl) ?_
            refine lv_dup hx hb dX12_sum_48 rfl ?_
            refine zq_gk (v := x234) E hM k_h0 (zFX12_84 E hZ) (Or.inl ⟨by decide, by decide, by decide, rfl⟩) ex234 dX12_sum_49 ?_
            refine lv_iconst (v := 1) hx hb dX12_sum_52 (by decide +kernel) ?_
            refine lv_iadd hx hb dX12_sum_53 ?_
            refine lv_topi (fun x263 ex263 => ?_)
            have tx263 := zi_add ex263 (rfl : x234.toInt = x234.toInt) (zl_1 : (1 : Int32).toInt = 1) ⟨by omega, by omega⟩
            refine zq_pn E hM hS k_h0 (zGX12_84 E hZ) ⟨by decide, by decide, by decide, rfl⟩ (show 0 ≤ x263.toInt ∧ x263.toInt ≤ 400 from ⟨by omega, by omega⟩) dX12_sum_54 (fun I264 H locs eI264 hM hS => ?_)
            have hR := zq_fr.putE hR eI264 (zf_i k_h0 rfl rfl)
            have hG265 : ∀ b, zGo X h0 b 1 I I264 := (fun b => zGo.wk (zGo.p8 (F198 b) L k_h0 eI264 1 (by rw [ex234]; omega) (by decide) (by omega)) (by decide))
            have hQ266 : zQ X h0 1 I I264 := zQ.pt F199 L k_h0 eI264 k_h0 ⟨by decide, by decide, Or.inr ⟨by decide, by decide⟩⟩
            have hNx267 : (I168 h0 8).toInt + 1 ≤ (I264 h0 8).toInt := by have q9 := F200; rw [zq_kv eI264]; omega
            refine lv_aload_n hx hb dX12_sum_57 rfl (lv_at hl 1 rfl) ?_
            refine zq_calli (zq_rV (As := []) (rest := []) E hZ hM k_h0 (c_X12_term l X zk (zn) I264 L h0 k_h0 (by omega) ((hG265 true).2.2.2.1) (by rw [(hG265 true).1]; exact q_2) (zGo.len (hG265 false) (by decide) q_3)) zmX12_176 zM_X12_term (hro (4) 2 (by first | decide | omega) (by decide)) ⟨by decide, by decide⟩ rfl hl.1 rfl rfl (Nat.le_of_ble_eq_true rfl) dX12_sum_58) hS (fun x269 I270 H locs h268 hM hS => ?_)
            obtain ⟨fr271, p272, p273, p274⟩ := h268
            have hR := zq_fr.call hR fr271 (zf_sub (by decide +kernel) (fun _ _ q => q.elim))
            have hG275 : ∀ b, zGo X h0 b 1 I I270 := (fun b => zGo.wk (zGo.tr (hG265 b) (p272 b)) (by decide))
            have hNx277 : (I168 h0 8).toInt + 1 ≤ (I270 h0 8).toInt := Int.le_trans hNx267 (p272 true).2.2.1
            refine W.eq (g2 := F0 m 61 ls [.int x269]) rfl ?_
            refine lv_if_ne (tgt := 66) hx hb dX12_sum_61 (by decide) (fun b278 => ?_) (fun b278 => ?_)
            · have b278 := zi_ne b278 (rfl : x269.toInt = x269.toInt) (zl_0 : (0 : Int32).toInt = 0)
              have hQ279 : zQ X h0 2 I I270 := zQ.tr hQ266 (hG265 true) (p272 true) (p273.resolve_left (by omega))
              refine lv_aload_n hx hb dX12_sum_66 rfl (lv_at hl 1 rfl) ?_
              refine lv_iload_n hx hb dX12_sum_67 rfl (lv_at hl 0 rfl) ?_
              refine lv_iconst (v := 0) hx hb dX12_sum_68 (by decide +kernel) ?_
              refine zq_callv (zq_rV (As := [.int j236, .int (0 : Int32)]) (rest := []) E hZ hM k_h0 (c_X12_puts l X zk (zn) I270 L h0 k_h0 j236 (0 : Int32) (by have := zl_0; omega) (by rw [(hG275 true).1]; exact q_2) (zGo.room (hG275 false) (by decide) q_3 ((zq_rng hM k_h0 1).2))) zmX12_158 zM_X12_puts (hro (0) 3 (by first | decide | omega) (by decide)) ⟨by decide, by decide⟩ rfl hl.1 rfl rfl (Nat.le_of_ble_eq_true rfl) dX12_sum_69) hS (fun I282 H locs h280 hM hS => ?_)
              obtain ⟨fr283, p284, p285⟩ := h280
              have := zl_0
              have hR := zq_fr.call hR fr283 (zf_sub (by decide +kernel) (fun _ _ q => q.elim))
              have hG286 : ∀ b, zGo X h0 b 0 I I282 := (fun b => zGo.wk (zGo.tr (hG275 b) (zPu.go p284 k_h0 fr283 rfl (hG275 b).2.2.2.1 p285)) (by decide))
              have hNx287 : (I168 h0 8).toInt + 1 ≤ (I282 h0 8).toInt := by rw [zfr_o (i := 8) k_h0 fr283 rfl]; exact hNx277
              have h61 : (I282 h0 12).toInt ≤ 60 := (zq_rng hM k_h0 12).2
              have h60 : (I270 h0 12).toInt ≤ 60 := by rw [← zfr_o k_h0 fr283 (i := 12) rfl]; exact h61
              have hQ289 : zQ X h0 1 I I282 := zQ.bin (n := 0) hQ279 (hG275 true) p284 h60 (zfr_o k_h0 fr283 rfl) ⟨by omega, by omega, by omega⟩
              refine lv_goto (tgt := 9) hx hb dX12_sum_72 (by decide) ?_
              exact ih9 I282 H locs ls (by have q9 := hNx287; omega) hM hS hR hG286 hQ289 (lv_sub hl [1] rfl)
            · have b278 := zi_eq b278 (rfl : x269.toInt = x269.toInt) (zl_0 : (0 : Int32).toInt = 0)
              refine lv_iconst (v := 0) hx hb dX12_sum_64 (by decide +kernel) ?_
              subst hQ
              exact zq_zret E hr hZ hM hS (show 0 ≤ (0 : Int32).toInt ∧ (0 : Int32).toInt ≤ 1 by decide +kernel) ⟨hR, ((fun b => zGo.wk (hG275 b) (by decide))), (Or.inl (by decide +kernel)), (by have := zl_0; omega)⟩ hlocks dX12_sum_65
          refine lv_icmp_ne (tgt := 45) hx hb dX12_sum_38 (by decide) (fun b290 => ?_) (fun b290 => ?_)
          · have b290 := zi_ne b290 (rfl : x235.toInt = x235.toInt) (zl_43 : (43 : Int32).toInt = 43)
            refine lv_iconst (v := 3) hx hb dX12_sum_45 (by decide +kernel) ?_
            exact J46 ls (3 : Int32) (by rw [zl_3]; decide) (lv_sub hl [0] rfl)
          · have b290 := zi_eq b290 (rfl : x235.toInt = x235.toInt) (zl_43 : (43 : Int32).toInt = 43)
            refine lv_iconst (v := 2) hx hb dX12_sum_41 (by decide +kernel) ?_
            refine lv_goto (tgt := 46) hx hb dX12_sum_42 (by decide) ?_
            exact J46 ls (2 : Int32) (by rw [zl_2]; decide) (lv_sub hl [0] rfl)
        refine lv_icmp_eq (tgt := 27) hx hb dX12_sum_15 (by decide) (fun b291 => ?_) (fun b291 => ?_)
        · have b291 := zi_eq b291 (rfl : x174.toInt = x174.toInt) (zl_43 : (43 : Int32).toInt = 43)
          exact J27 I175 H locs ls hM hS hR hG181 hQ182 hNx183 ((p179.resolve_left (by omega)).1) (lv_sub hl [0] rfl)
        · have b291 := zi_ne b291 (rfl : x174.toInt = x174.toInt) (zl_43 : (43 : Int32).toInt = 43)
          refine lv_aload_n hx hb dX12_sum_18 rfl (lv_at hl 0 rfl) ?_
          refine zq_calli (zq_rV (As := []) (rest := []) E hZ hM k_h0 (c_X12_see l X zk (zn) I175 L h0 k_h0 (by omega) ((hG181 true).2.2.2.1)) zmX12_87 zM_X12_see (hro (0) 1 (by first | decide | omega) (by decide)) ⟨by decide, by decide⟩ rfl hl.1 rfl rfl (Nat.le_of_ble_eq_true rfl) dX12_sum_19) hS (fun x293 I294 H locs h292 hM hS => ?_)
          obtain ⟨fr295, p296, p297, p298, p299⟩ := h292
          have hR := zq_fr.call hR fr295 (zf_sub (by decide +kernel) (fun _ _ q => q.elim))
          have hG300 : ∀ b, zGo X h0 b 0 I I294 := (fun b => zGo.wk (zGo.tr (hG181 b) (p296 b)) (by decide))
          have hQ301 : zQ X h0 1 I I294 := zQ.fr hQ182 L k_h0 fr295 rfl rfl rfl (by rw [zfr_o k_h0 fr295 rfl]; exact Int.le_refl _)
          have hNx302 : (I168 h0 8).toInt + 0 ≤ (I294 h0 8).toInt := Int.le_trans hNx183 (p296 true).2.2.1
          have hE303 : x174.toInt = -1 ∨ zAt X I294 h0 := p179.imp id (fun q9 => zAt.sm q9 p297)
          refine lv_bipush (v := 45) hx hb dX12_sum_22 (by decide +kernel) ?_
          refine lv_icmp_ne (tgt := 75) hx hb dX12_sum_24 (by decide) (fun b305 => ?_) (fun b305 => ?_)
          · have b305 := zi_ne b305 (rfl : x293.toInt = x293.toInt) (zl_45 : (45 : Int32).toInt = 45)
            refine lv_iconst (v := 1) hx hb dX12_sum_75 (by decide +kernel) ?_
            subst hQ
            exact zq_zret E hr hZ hM hS (show 0 ≤ (1 : Int32).toInt ∧ (1 : Int32).toInt ≤ 1 by decide +kernel) ⟨hR, (hG300), (Or.inr hQ301), (by have := zl_1; omega)⟩ hlocks dX12_sum_76
          · have b305 := zi_eq b305 (rfl : x293.toInt = x293.toInt) (zl_45 : (45 : Int32).toInt = 45)
            exact J27 I294 H locs ls hM hS hR hG300 hQ301 hNx302 ((p298.resolve_left (by omega)).1) (lv_sub hl [0] rfl)
    exact J9 (401 - (I103 h0 8).toInt).toNat I103 H locs ls (by omega) hM hS hR hG108 hQ111 (lv_sub hl [0] rfl)
  · have b110 := zi_eq b110 (rfl : x102.toInt = x102.toInt) (zl_0 : (0 : Int32).toInt = 0)
    refine lv_iconst (v := 0) hx hb dX12_sum_7 (by decide +kernel) ?_
    subst hQ
    exact zq_zret E hr hZ hM hS (show 0 ≤ (0 : Int32).toInt ∧ (0 : Int32).toInt ≤ 1 by decide +kernel) ⟨hR, (hG108), (Or.inl (by decide +kernel)), (by have := zl_0; omega)⟩ hlocks dX12_sum_8
def zw_X12_compare : List (Nat × Nat) := [(10, 8), (10, 9), (10, 10), (10, 12), (51, 999), (52, 999)]
set_option maxHeartbeats 8000000 in
set_option maxRecDepth 100000 in
theorem c_X12_compare (l : Launch) (X : zq_X) (zk zn : Nat) (I : zq_M) (L : zq_L X)  (h0 : Nat) (k_h0 : zq_k X h0 = 10) (q_0 : zk ≤ 4400 ∧ zn ≤ 4400) (q_1 : (I h0 8).toInt ≤ (I h0 1).toInt) (q_2 : (I h0 11).toInt ≤ 5) (q_3 : ((zLn X I h0 : Nat) : Int) ≤ (I h0 8).toInt) : Met l yX12_compare (zt_w yX12_compare cX12_compare 5 (some .boolean)) (zq_rm (6)) (va_Pc [.ref h0] (zq_W X (zk, zn) I)) (va_Qi (fun (r : Int32) I2 => zq_fr (zf X zw_X12_compare (fun _ => False)) I I2 ∧ (∀ b, zGo X h0 b 0 I I2) ∧ (r.toInt = 0 ∨ zQ X h0 1 I I2) ∧ (0 ≤ r.toInt ∧ r.toInt ≤ 1)) (zq_E X (zk, zn)) (zq_A X)) 0 0 (zq_A X) := by
  refine Met.ofW (cc := cX12_compare) (maxL := 5) (ret := (some .boolean)) (by decide) rfl ?_
  intro p e s m args below meth c s₁ B hml hv
  obtain ⟨hargs, hM, hZ⟩ := hv
  have hown : s.vm.findClass RX12 = some m.cls := findClass_of_methodNamed B.named
  have hts := atoms_spec (ws := zt_w yX12_compare cX12_compare 5 (some .boolean)) B.pre
  have E : CallFix p m c cX12_compare 5 s args (Cond.code yX12_compare cX12_compare 5 (some .boolean) :: zt) RX12 := ⟨B.exec, B.bytes, hml, hown, hts⟩
  have hx := B.exec
  have hb := B.bytes
  have hr := B.returns
  have hlocks := B.notSynchronized
  clear B
  have hS : va_S (zq_A X) s.heap s.heap [] := va_S.rf
  have hR : zq_fr (zf X zw_X12_compare (fun _ => False)) I I := zq_fr.rf
  have hl := lv_entry ([.ref h0]) (n := 5) (by exact Nat.le_of_ble_eq_true rfl)
  have hg : entryFrame m args 5 = F0 m 0 ((lg_sl ([.ref h0]) ++ List.replicate (5 - (lg_sl ([.ref h0])).length) Slot.unset).toArray) [] := by rw [hargs]; exact lg_entry_eq m ([.ref h0]) 5
  rw [hg]
  clear hg hargs
  generalize (lg_sl ([.ref h0]) ++ List.replicate (5 - (lg_sl ([.ref h0])).length) Slot.unset).toArray = ls at hl ⊢
  have hl : lv_has ls 5 [(0, .ref h0)] := by exact hl
  obtain ⟨R, hRm⟩ : ∃ R : Room, R = (headSpec (zt_w yX12_compare cX12_compare 5 (some .boolean)) (zq_rm (6))).room := ⟨_, rfl⟩
  rw [← hRm]
  have hro : ∀ d q : Nat, d + 1 ≤ 6 → q ≤ 45 → zq_rok d q R := fun d q h1 h2 => by rw [hRm]; exact zq_rokI h1 h2
  generalize hQ : MQ below _ args s 0 0 (zq_A X) = Q
  obtain ⟨H, hH⟩ : ∃ H, H = s.heap := ⟨_, rfl⟩
  obtain ⟨locs, hlo⟩ : ∃ x : List Loc, x = [] := ⟨_, rfl⟩
  rw [show W p l e R s m args below meth c s.heap [] 0 0 Q = W p l e R s m args below meth c H locs 0 0 Q by rw [hH, hlo]]
  have hM : zq_hm X (zk, zn) I H := by rw [hH]; exact hM
  have hS : va_S (zq_A X) s.heap H locs := by rw [hH, hlo]; exact hS
  clear hH hlo
  have hG0 : ∀ b, zGo X h0 b 0 I I := fun b => zGo.rf q_1
  have hQ0 : zQ X h0 0 I I := zQ.rf
  refine lv_aload_n hx hb dX12_compare_0 rfl (lv_at hl 0 rfl) ?_
  refine zq_calli (zq_rV (As := []) (rest := []) E hZ hM k_h0 (c_X12_sum l X zk (zn) I L h0 k_h0 (by omega) ((hG0 true).2.2.2.1) (by rw [(hG0 true).1]; exact q_2) (zGo.len (hG0 false) (by decide) q_3)) zmX12_179 zM_X12_sum (hro (5) 2 (by first | decide | omega) (by decide)) ⟨by decide, by decide⟩ rfl hl.1 rfl rfl (Nat.le_of_ble_eq_true rfl) dX12_compare_1) hS (fun x102 I103 H locs h101 hM hS => ?_)
  obtain ⟨fr104, p105, p106, p107⟩ := h101
  have hR := zq_fr.call hR fr104 (zf_sub (by decide +kernel) (fun _ _ q => q.elim))
  have hG108 : ∀ b, zGo X h0 b 0 I I103 := (fun b => zGo.wk (zGo.tr (hG0 b) (p105 b)) (by decide))
  refine lv_if_ne (tgt := 9) hx hb dX12_compare_4 (by decide) (fun b110 => ?_) (fun b110 => ?_)
  · have b110 := zi_ne b110 (rfl : x102.toInt = x102.toInt) (zl_0 : (0 : Int32).toInt = 0)
    have hQ111 : zQ X h0 1 I I103 := zQ.tr hQ0 (hG0 true) (p105 true) (p106.resolve_left (by omega))
    refine lv_aload_n hx hb dX12_compare_9 rfl (lv_at hl 0 rfl) ?_
    refine zq_calli (zq_rV (As := []) (rest := []) E hZ hM k_h0 (c_X12_see l X zk (zn) I103 L h0 k_h0 (by omega) ((hG108 true).2.2.2.1)) zmX12_87 zM_X12_see (hro (0) 1 (by first | decide | omega) (by decide)) ⟨by decide, by decide⟩ rfl hl.1 rfl rfl (Nat.le_of_ble_eq_true rfl) dX12_compare_10) hS (fun x113 I114 H locs h112 hM hS => ?_)
    obtain ⟨fr115, p116, p117, p118, p119⟩ := h112
    have hR := zq_fr.call hR fr115 (zf_sub (by decide +kernel) (fun _ _ q => q.elim))
    have hG120 : ∀ b, zGo X h0 b 0 I I114 := (fun b => zGo.wk (zGo.tr (hG108 b) (p116 b)) (by decide))
    have hQ121 : zQ X h0 1 I I114 := zQ.fr hQ111 L k_h0 fr115 rfl rfl rfl (by rw [zfr_o k_h0 fr115 rfl]; exact Int.le_refl _)
    refine lv_istore_n (lv' := [(1, .int x113), (0, .ref h0)]) hx hb dX12_compare_13 rfl hl (by decide) rfl (fun ls hl => ?_)
    refine lv_aload_n hx hb dX12_compare_14 rfl (lv_at hl 1 rfl) ?_
    refine zq_gn E hM k_h0 (zFX12_84 E hZ) (Or.inl ⟨by decide, by decide, by decide, rfl⟩) dX12_compare_15 (fun x122 ex122 gx122 => ?_)
    replace gx122 : 0 ≤ x122.toInt ∧ x122.toInt ≤ 400 := gx122
    have := congrArg Int32.toInt ex122
    refine lv_istore_n (lv' := [(2, .int x122), (1, .int x113), (0, .ref h0)]) hx hb dX12_compare_18 rfl hl (by decide) rfl (fun ls hl => ?_)
    refine lv_iload_n hx hb dX12_compare_19 rfl (lv_at hl 1 rfl) ?_
    refine lv_bipush (v := 60) hx hb dX12_compare_20 (by decide +kernel) ?_
    have J44 : ∀ (ls : Array Slot), (60 ≤ x113.toInt ∧ x113.toInt ≤ 62) → ((I114 h0 8).toInt < (I114 h0 1).toInt) → (lv_has ls 5 [(2, .int x122), (1, .int x113), (0, .ref h0)]) → W p l e R s m args below meth c H locs 0 0 Q (F0 m 44 ls []) := by
      intro ls gm182 h44 hl
      have hN8183 : 0 ≤ (I114 h0 8).toInt ∧ (I114 h0 8).toInt ≤ 399 := ⟨(zq_rng hM k_h0 8).1, by have q : (I114 h0 1).toInt ≤ 400 := (zq_rng hM k_h0 1).2; omega⟩
      refine lv_aload_n hx hb dX12_compare_44 rfl (lv_at hl 2 rfl) ?_
      refine lv_dup hx hb dX12_compare_45 rfl ?_
      refine zq_gk (v := x122) E hM k_h0 (zFX12_84 E hZ) (Or.inl ⟨by decide, by decide, by decide, rfl⟩) ex122 dX12_compare_46 ?_
      refine lv_iconst (v := 1) hx hb dX12_compare_49 (by decide +kernel) ?_
      refine lv_iadd hx hb dX12_compare_50 ?_
      refine lv_topi (fun x184 ex184 => ?_)
      have tx184 := zi_add ex184 (rfl : x122.toInt = x122.toInt) (zl_1 : (1 : Int32).toInt = 1) ⟨by omega, by omega⟩
      refine zq_pn E hM hS k_h0 (zGX12_84 E hZ) ⟨by decide, by decide, by decide, rfl⟩ (show 0 ≤ x184.toInt ∧ x184.toInt ≤ 400 from ⟨by omega, by omega⟩) dX12_compare_51 (fun I185 H locs eI185 hM hS => ?_)
      have hR := zq_fr.putE hR eI185 (zf_i k_h0 rfl rfl)
      have hG186 : ∀ b, zGo X h0 b 1 I I185 := (fun b => zGo.wk (zGo.p8 (hG120 b) L k_h0 eI185 1 (by rw [ex122]; omega) (by decide) (by omega)) (by decide))
      have hQ187 : zQ X h0 1 I I185 := zQ.pt hQ121 L k_h0 eI185 k_h0 ⟨by decide, by decide, Or.inr ⟨by decide, by decide⟩⟩
      refine lv_iload_n hx hb dX12_compare_54 rfl (lv_at hl 1 rfl) ?_
      refine lv_bipush (v := 61) hx hb dX12_compare_55 (by decide +kernel) ?_
      have J90 : ∀ (ls : Array Slot) (j193 : Int32), (0 ≤ j193.toInt ∧ j193.toInt ≤ 1) → (j193.toInt = 0 ∨ (I185 h0 8).toInt < (I185 h0 1).toInt) → (lv_has ls 5 [(2, .int x122), (1, .int x113), (0, .ref h0)]) → W p l e R s m args below meth c H locs 0 0 Q (F0 m 90 ls [.int j193]) := by
        intro ls j193 gj193 h90 hl
        refine lv_istore_n (lv' := [(3, .int j193), (2, .int x122), (1, .int x113), (0, .ref h0)]) hx hb dX12_compare_90 rfl hl (by decide) rfl (fun ls hl => ?_)
        refine lv_iload_n hx hb dX12_compare_91 rfl (lv_at hl 0 rfl) ?_
        have J105 : ∀ (I236 : zq_M) (H : Heap) (locs : List Loc) (ls : Array Slot), (zq_hm X (zk, zn) I236 H) → (va_S (zq_A X) s.heap H locs) → (zq_fr (zf X zw_X12_compare (fun _ => False)) I I236) → (∀ b, zGo X h0 b 1 I I236) → (zQ X h0 1 I I236) → (lv_has ls 5 [(3, .int j193), (2, .int x122), (1, .int x113), (0, .ref h0)]) → W p l e R s m args below meth c H locs 0 0 Q (F0 m 105 ls []) := by
          intro I236 H locs ls hM hS hR F237 F238 hl
          refine lv_aload_n hx hb dX12_compare_105 rfl (lv_at hl 3 rfl) ?_
          refine lv_iload_n hx hb dX12_compare_106 rfl (lv_at hl 1 rfl) ?_
          refine zq_calli (zq_rV (As := [.int x122]) (rest := []) E hZ hM k_h0 (c_X12_makes l X zk (zn) I236 L h0 k_h0 x122 (by omega) ((F237 true).2.2.2.1)) zmX12_166 zM_X12_makes (hro (1) 2 (by first | decide | omega) (by decide)) ⟨by decide, by decide⟩ rfl hl.1 rfl rfl (Nat.le_of_ble_eq_true rfl) dX12_compare_107) hS (fun x271 I272 H locs h270 hM hS => ?_)
          obtain ⟨fr273, p274, p275, p276⟩ := h270
          have hR := zq_fr.call hR fr273 (zf_sub (by decide +kernel) (fun _ _ q => q.elim))
          have hG277 : ∀ b, zGo X h0 b 1 I I272 := (fun b => zGo.wk (zGo.tr (F237 b) (p274 b)) (by decide))
          have hQ278 : zQ X h0 1 I I272 := zQ.fr F238 L k_h0 fr273 rfl rfl rfl (p274 true).2.2.2.2.2.2.1
          refine lv_if_ne (tgt := 115) hx hb dX12_compare_110 (by decide) (fun b279 => ?_) (fun b279 => ?_)
          · have b279 := zi_ne b279 (rfl : x271.toInt = x271.toInt) (zl_0 : (0 : Int32).toInt = 0)
            have hMd280 : (I h0 12).toInt + 1 ≤ (I272 h0 12).toInt := by have q := p275.resolve_left (by omega); have q2 := (F237 true).2.2.2.2.2.2.1; omega
            refine lv_iload_n hx hb dX12_compare_115 rfl (lv_at hl 2 rfl) ?_
            refine lv_bipush (v := 60) hx hb dX12_compare_116 (by decide +kernel) ?_
            have J152 : ∀ (ls : Array Slot) (j281 : Int32), (0 ≤ j281.toInt ∧ j281.toInt ≤ 4) → (lv_has ls 5 [(3, .int j193), (2, .int x122), (1, .int x113), (0, .ref h0)]) → W p l e R s m args below meth c H locs 0 0 Q (F0 m 152 ls [.int j281]) := by
              intro ls j281 gj281 hl
              refine lv_istore (lv' := [(4, .int j281), (3, .int j193), (2, .int x122), (1, .int x113), (0, .ref h0)]) hx hb dX12_compare_152 hl (by decide) rfl (fun ls hl => ?_)
              refine lv_aload_n hx hb dX12_compare_154 rfl (lv_at hl 4 rfl) ?_
              refine zq_calli (zq_rV (As := []) (rest := []) E hZ hM k_h0 (c_X12_sum l X zk (zn) I272 L h0 k_h0 (by omega) ((hG277 true).2.2.2.1) (by rw [(hG277 true).1]; exact q_2) (zGo.len (hG277 false) (by decide) q_3)) zmX12_179 zM_X12_sum (hro (5) 2 (by first | decide | omega) (by decide)) ⟨by decide, by decide⟩ rfl hl.1 rfl rfl (Nat.le_of_ble_eq_true rfl) dX12_compare_155) hS (fun x303 I304 H locs h302 hM hS => ?_)
              obtain ⟨fr305, p306, p307, p308⟩ := h302
              have hR := zq_fr.call hR fr305 (zf_sub (by decide +kernel) (fun _ _ q => q.elim))
              have hG309 : ∀ b, zGo X h0 b 1 I I304 := (fun b => zGo.wk (zGo.tr (hG277 b) (p306 b)) (by decide))
              refine lv_if_ne (tgt := 163) hx hb dX12_compare_158 (by decide) (fun b311 => ?_) (fun b311 => ?_)
              · have b311 := zi_ne b311 (rfl : x303.toInt = x303.toInt) (zl_0 : (0 : Int32).toInt = 0)
                have hQ312 : zQ X h0 2 I I304 := zQ.tr hQ278 (hG277 true) (p306 true) (p307.resolve_left (by omega))
                refine lv_aload_n hx hb dX12_compare_163 rfl (lv_at hl 4 rfl) ?_
                refine lv_bipush (v := 6) hx hb dX12_compare_164 (by decide +kernel) ?_
                refine lv_iload hx hb dX12_compare_166 (lv_at hl 0 rfl) ?_
                refine lv_iadd hx hb dX12_compare_168 ?_
                refine lv_topi (fun x313 ex313 => ?_)
                have tx313 := zi_add ex313 (zl_6 : (6 : Int32).toInt = 6) (rfl : j281.toInt = j281.toInt) ⟨by omega, by omega⟩
                refine lv_iconst (v := 0) hx hb dX12_compare_169 (by decide +kernel) ?_
                refine zq_callv (zq_rV (As := [.int x313, .int (0 : Int32)]) (rest := []) E hZ hM k_h0 (c_X12_puts l X zk (zn) I304 L h0 k_h0 x313 (0 : Int32) (by have := zl_0; omega) (by rw [(hG309 true).1]; exact q_2) (zGo.room (hG309 false) (by decide) q_3 ((zq_rng hM k_h0 1).2))) zmX12_158 zM_X12_puts (hro (0) 3 (by first | decide | omega) (by decide)) ⟨by decide, by decide⟩ rfl hl.1 rfl rfl (Nat.le_of_ble_eq_true rfl) dX12_compare_170) hS (fun I316 H locs h314 hM hS => ?_)
                obtain ⟨fr317, p318, p319⟩ := h314
                have := zl_0
                have hR := zq_fr.call hR fr317 (zf_sub (by decide +kernel) (fun _ _ q => q.elim))
                have hG320 : ∀ b, zGo X h0 b 0 I I316 := (fun b => zGo.wk (zGo.tr (hG309 b) (zPu.go p318 k_h0 fr317 rfl (hG309 b).2.2.2.1 p319)) (by decide))
                have h61 : (I316 h0 12).toInt ≤ 60 := (zq_rng hM k_h0 12).2
                have h60 : (I304 h0 12).toInt ≤ 60 := by rw [← zfr_o k_h0 fr317 (i := 12) rfl]; exact h61
                have hQ322 : zQ X h0 1 I I316 := zQ.bin (n := 0) hQ312 (hG309 true) p318 h60 (zfr_o k_h0 fr317 rfl) ⟨by omega, by omega, by omega⟩
                refine lv_iconst (v := 1) hx hb dX12_compare_173 (by decide +kernel) ?_
                subst hQ
                exact zq_zret E hr hZ hM hS (show 0 ≤ (1 : Int32).toInt ∧ (1 : Int32).toInt ≤ 1 by decide +kernel) ⟨hR, (hG320), (Or.inr hQ322), (by have := zl_1; omega)⟩ hlocks dX12_compare_174
              · have b311 := zi_eq b311 (rfl : x303.toInt = x303.toInt) (zl_0 : (0 : Int32).toInt = 0)
                refine lv_iconst (v := 0) hx hb dX12_compare_161 (by decide +kernel) ?_
                subst hQ
                exact zq_zret E hr hZ hM hS (show 0 ≤ (0 : Int32).toInt ∧ (0 : Int32).toInt ≤ 1 by decide +kernel) ⟨hR, ((fun b => zGo.wk (hG309 b) (by decide))), (Or.inl (by decide +kernel)), (by have := zl_0; omega)⟩ hlocks dX12_compare_162
            refine lv_icmp_ne (tgt := 133) hx hb dX12_compare_118 (by decide) (fun b323 => ?_) (fun b323 => ?_)
            · have b323 := zi_ne b323 (rfl : x113.toInt = x113.toInt) (zl_60 : (60 : Int32).toInt = 60)
              refine lv_iload_n hx hb dX12_compare_133 rfl (lv_at hl 2 rfl) ?_
              refine lv_bipush (v := 61) hx hb dX12_compare_134 (by decide +kernel) ?_
              refine lv_icmp_ne (tgt := 143) hx hb dX12_compare_136 (by decide) (fun b324 => ?_) (fun b324 => ?_)
              · have b324 := zi_ne b324 (rfl : x113.toInt = x113.toInt) (zl_61 : (61 : Int32).toInt = 61)
                refine lv_iload_n hx hb dX12_compare_143 rfl (lv_at hl 0 rfl) ?_
                refine lv_if_eq (tgt := 151) hx hb dX12_compare_144 (by decide) (fun b325 => ?_) (fun b325 => ?_)
                · have b325 := zi_eq b325 (rfl : j193.toInt = j193.toInt) (zl_0 : (0 : Int32).toInt = 0)
                  refine lv_iconst (v := 4) hx hb dX12_compare_151 (by decide +kernel) ?_
                  exact J152 ls (4 : Int32) (by rw [zl_4]; decide) (lv_sub hl [0, 1, 2, 3] rfl)
                · have b325 := zi_ne b325 (rfl : j193.toInt = j193.toInt) (zl_0 : (0 : Int32).toInt = 0)
                  refine lv_iconst (v := 3) hx hb dX12_compare_147 (by decide +kernel) ?_
                  refine lv_goto (tgt := 152) hx hb dX12_compare_148 (by decide) ?_
                  exact J152 ls (3 : Int32) (by rw [zl_3]; decide) (lv_sub hl [0, 1, 2, 3] rfl)
              · have b324 := zi_eq b324 (rfl : x113.toInt = x113.toInt) (zl_61 : (61 : Int32).toInt = 61)
                refine lv_iconst (v := 2) hx hb dX12_compare_139 (by decide +kernel) ?_
                refine lv_goto (tgt := 152) hx hb dX12_compare_140 (by decide) ?_
                exact J152 ls (2 : Int32) (by rw [zl_2]; decide) (lv_sub hl [0, 1, 2, 3] rfl)
            · have b323 := zi_eq b323 (rfl : x113.toInt = x113.toInt) (zl_60 : (60 : Int32).toInt = 60)
              refine lv_iload_n hx hb dX12_compare_121 rfl (lv_at hl 0 rfl) ?_
              refine lv_if_eq (tgt := 129) hx hb dX12_compare_122 (by decide) (fun b326 => ?_) (fun b326 => ?_)
              · have b326 := zi_eq b326 (rfl : j193.toInt = j193.toInt) (zl_0 : (0 : Int32).toInt = 0)
                refine lv_iconst (v := 0) hx hb dX12_compare_129 (by decide +kernel) ?_
                refine lv_goto (tgt := 152) hx hb dX12_compare_130 (by decide) ?_
                exact J152 ls (0 : Int32) (by rw [zl_0]; decide) (lv_sub hl [0, 1, 2, 3] rfl)
              · have b326 := zi_ne b326 (rfl : j193.toInt = j193.toInt) (zl_0 : (0 : Int32).toInt = 0)
                refine lv_iconst (v := 1) hx hb dX12_compare_125 (by decide +kernel) ?_
                refine lv_goto (tgt := 152) hx hb dX12_compare_126 (by decide) ?_
                exact J152 ls (1 : Int32) (by rw [zl_1]; decide) (lv_sub hl [0, 1, 2, 3] rfl)
          · have b279 := zi_eq b279 (rfl : x271.toInt = x271.toInt) (zl_0 : (0 : Int32).toInt = 0)
            refine lv_iconst (v := 0) hx hb dX12_compare_113 (by decide +kernel) ?_
            subst hQ
            exact zq_zret E hr hZ hM hS (show 0 ≤ (0 : Int32).toInt ∧ (0 : Int32).toInt ≤ 1 by decide +kernel) ⟨hR, ((fun b => zGo.wk (hG277 b) (by decide))), (Or.inl (by decide +kernel)), (by have := zl_0; omega)⟩ hlocks dX12_compare_114
        refine lv_if_eq (tgt := 105) hx hb dX12_compare_92 (by decide) (fun b327 => ?_) (fun b327 => ?_)
        · have b327 := zi_eq b327 (rfl : j193.toInt = j193.toInt) (zl_0 : (0 : Int32).toInt = 0)
          exact J105 I185 H locs ls hM hS hR hG186 hQ187 (lv_sub hl [0, 1, 2, 3] rfl)
        · have b327 := zi_ne b327 (rfl : j193.toInt = j193.toInt) (zl_0 : (0 : Int32).toInt = 0)
          have h400 : (I185 h0 1).toInt ≤ 400 := (zq_rng hM k_h0 1).2
          have h95 : (I185 h0 8).toInt < (I185 h0 1).toInt := h90.resolve_left (by omega)
          rw [(zq_kv eI185)] at h95
          refine lv_aload_n hx hb dX12_compare_95 rfl (lv_at hl 3 rfl) ?_
          refine lv_dup hx hb dX12_compare_96 rfl ?_
          refine zq_gk (v := x184) E hM k_h0 (zFX12_84 E hZ) (Or.inl ⟨by decide, by decide, by decide, rfl⟩) (zq_kv eI185) dX12_compare_97 ?_
          refine lv_iconst (v := 1) hx hb dX12_compare_100 (by decide +kernel) ?_
          refine lv_iadd hx hb dX12_compare_101 ?_
          refine lv_topi (fun x328 ex328 => ?_)
          have tx328 := zi_add ex328 (rfl : x184.toInt = x184.toInt) (zl_1 : (1 : Int32).toInt = 1) ⟨by omega, by omega⟩
          refine zq_pn E hM hS k_h0 (zGX12_84 E hZ) ⟨by decide, by decide, by decide, rfl⟩ (show 0 ≤ x328.toInt ∧ x328.toInt ≤ 400 from ⟨by omega, by omega⟩) dX12_compare_102 (fun I329 H locs eI329 hM hS => ?_)
          have hR := zq_fr.putE hR eI329 (zf_i k_h0 rfl rfl)
          have hG330 : ∀ b, zGo X h0 b 2 I I329 := (fun b => zGo.wk (zGo.p8 (hG186 b) L k_h0 eI329 1 (by rw [(zq_kv eI185)]; omega) (by decide) (by omega)) (by decide))
          have hQ331 : zQ X h0 1 I I329 := zQ.pt hQ187 L k_h0 eI329 k_h0 ⟨by decide, by decide, Or.inr ⟨by decide, by decide⟩⟩
          exact J105 I329 H locs ls hM hS hR (fun b => zGo.wk (hG330 b) (by decide)) hQ331 (lv_sub hl [0, 1, 2, 3] rfl)
      have J89 : ∀ (ls : Array Slot), (lv_has ls 5 [(2, .int x122), (1, .int x113), (0, .ref h0)]) → W p l e R s m args below meth c H locs 0 0 Q (F0 m 89 ls []) := by
        intro ls hl
        refine lv_iconst (v := 0) hx hb dX12_compare_89 (by decide +kernel) ?_
        exact J90 ls (0 : Int32) (by rw [zl_0]; decide) (Or.inl zl_0) (lv_sub hl [0, 1, 2] rfl)
      refine lv_icmp_eq (tgt := 89) hx hb dX12_compare_57 (by decide) (fun b332 => ?_) (fun b332 => ?_)
      · have b332 := zi_eq b332 (rfl : x113.toInt = x113.toInt) (zl_61 : (61 : Int32).toInt = 61)
        exact J89 ls (lv_sub hl [0, 1, 2] rfl)
      · have b332 := zi_ne b332 (rfl : x113.toInt = x113.toInt) (zl_61 : (61 : Int32).toInt = 61)
        refine lv_aload_n hx hb dX12_compare_60 rfl (lv_at hl 2 rfl) ?_
        refine zq_gk (v := x184) E hM k_h0 (zFX12_84 E hZ) (Or.inl ⟨by decide, by decide, by decide, rfl⟩) (zq_kv eI185) dX12_compare_61 ?_
        refine lv_aload_n hx hb dX12_compare_64 rfl (lv_at hl 2 rfl) ?_
        refine zq_gn E hM k_h0 (zFX12_74 E hZ) (Or.inl ⟨by decide, by decide, by decide, rfl⟩) dX12_compare_65 (fun x333 ex333 gx333 => ?_)
        replace gx333 : 0 ≤ x333.toInt ∧ x333.toInt ≤ 400 := gx333
        have := congrArg Int32.toInt ex333
        refine lv_icmp_ge (tgt := 89) hx hb dX12_compare_68 (by decide) (fun b334 => ?_) (fun b334 => ?_)
        · have b334 := zi_le b334 (rfl : x333.toInt = x333.toInt) (rfl : x184.toInt = x184.toInt)
          exact J89 ls (lv_sub hl [0, 1, 2] rfl)
        · have b334 := zi_nle b334 (rfl : x333.toInt = x333.toInt) (rfl : x184.toInt = x184.toInt)
          refine lv_aload_n hx hb dX12_compare_71 rfl (lv_at hl 2 rfl) ?_
          refine zq_getr E hM k_h0 (zFX12_7 E hZ) ⟨by decide, by decide, by decide, rfl⟩ dX12_compare_72 ?_
          have k335 : zq_k X (zq_r X h0 0) = 50 := zq_lk L.1 k_h0 rfl (by decide)
          refine lv_aload_n hx hb dX12_compare_75 rfl (lv_at hl 2 rfl) ?_
          refine zq_gk (v := x184) E hM k_h0 (zFX12_84 E hZ) (Or.inl ⟨by decide, by decide, by decide, rfl⟩) (zq_kv eI185) dX12_compare_76 ?_
          refine zq_ban (n := 400) (j := (x184.toNatClampNeg)) E hZ hM k335 ⟨by decide, rfl⟩ ⟨by omega, by omega⟩ rfl dX12_compare_79 (fun x336 ex336 gx336 => ?_)
          clear gx336
          have := congrArg Int32.toInt ex336
          refine lv_bipush (v := 61) hx hb dX12_compare_80 (by decide +kernel) ?_
          refine lv_icmp_ne (tgt := 89) hx hb dX12_compare_82 (by decide) (fun b337 => ?_) (fun b337 => ?_)
          · have b337 := zi_ne b337 (rfl : x336.toInt = x336.toInt) (zl_61 : (61 : Int32).toInt = 61)
            exact J89 ls (lv_sub hl [0, 1, 2] rfl)
          · have b337 := zi_eq b337 (rfl : x336.toInt = x336.toInt) (zl_61 : (61 : Int32).toInt = 61)
            refine lv_iconst (v := 1) hx hb dX12_compare_85 (by decide +kernel) ?_
            refine lv_goto (tgt := 90) hx hb dX12_compare_86 (by decide) ?_
            exact J90 ls (1 : Int32) (by rw [zl_1]; decide) (Or.inr (by rw [(zq_kv eI185)]; omega)) (lv_sub hl [0, 1, 2] rfl)
    refine lv_icmp_eq (tgt := 44) hx hb dX12_compare_22 (by decide) (fun b338 => ?_) (fun b338 => ?_)
    · have b338 := zi_eq b338 (rfl : x113.toInt = x113.toInt) (zl_60 : (60 : Int32).toInt = 60)
      exact J44 ls (⟨by omega, by omega⟩) ((p118.resolve_left (by omega)).1) (lv_sub hl [0, 1, 2] rfl)
    · have b338 := zi_ne b338 (rfl : x113.toInt = x113.toInt) (zl_60 : (60 : Int32).toInt = 60)
      refine lv_iload_n hx hb dX12_compare_25 rfl (lv_at hl 1 rfl) ?_
      refine lv_bipush (v := 61) hx hb dX12_compare_26 (by decide +kernel) ?_
      refine lv_icmp_eq (tgt := 44) hx hb dX12_compare_28 (by decide) (fun b339 => ?_) (fun b339 => ?_)
      · have b339 := zi_eq b339 (rfl : x113.toInt = x113.toInt) (zl_61 : (61 : Int32).toInt = 61)
        exact J44 ls (⟨by omega, by omega⟩) ((p118.resolve_left (by omega)).1) (lv_sub hl [0, 1, 2] rfl)
      · have b339 := zi_ne b339 (rfl : x113.toInt = x113.toInt) (zl_61 : (61 : Int32).toInt = 61)
        refine lv_iload_n hx hb dX12_compare_31 rfl (lv_at hl 1 rfl) ?_
        refine lv_bipush (v := 62) hx hb dX12_compare_32 (by decide +kernel) ?_
        refine lv_icmp_eq (tgt := 44) hx hb dX12_compare_34 (by decide) (fun b340 => ?_) (fun b340 => ?_)
        · have b340 := zi_eq b340 (rfl : x113.toInt = x113.toInt) (zl_62 : (62 : Int32).toInt = 62)
          exact J44 ls (⟨by omega, by omega⟩) ((p118.resolve_left (by omega)).1) (lv_sub hl [0, 1, 2] rfl)
        · have b340 := zi_ne b340 (rfl : x113.toInt = x113.toInt) (zl_62 : (62 : Int32).toInt = 62)
          refine lv_aload_n hx hb dX12_compare_37 rfl (lv_at hl 2 rfl) ?_
          refine lv_iconst (v := 0) hx hb dX12_compare_38 (by decide +kernel) ?_
          refine lv_iload_n hx hb dX12_compare_39 rfl (lv_at hl 0 rfl) ?_
          refine zq_calli (zq_rV (As := [.int (0 : Int32), .int x122]) (rest := []) E hZ hM k_h0 (c_X12_fails l X zk (zn) I114 L h0 k_h0 (0 : Int32) x122 (by have := zl_0; omega)) zmX12_105 zM_X12_fails (hro (0) 3 (by first | decide | omega) (by decide)) ⟨by decide, by decide⟩ rfl hl.1 rfl rfl (Nat.le_of_ble_eq_true rfl) dX12_compare_40) hS (fun x342 I343 H locs h341 hM hS => ?_)
          obtain ⟨fr344, p345, p346⟩ := h341
          have := zl_0
          have hR := zq_fr.call hR fr344 (zf_sub (by decide +kernel) (fun _ _ q => q.elim))
          have hG347 : ∀ b, zGo X h0 b 0 I I343 := (fun b => zGo.wk (zGo.fr (hG120 b) L k_h0 fr344 rfl rfl rfl) (by decide))
          have hQ348 : zQ X h0 1 I I343 := zQ.fr hQ121 L k_h0 fr344 rfl rfl rfl (by rw [zfr_o k_h0 fr344 rfl]; exact Int.le_refl _)
          have hE349 : x113.toInt = -1 ∨ zAt X I343 h0 := p118.imp id (fun q9 => zAt.sm q9 (fun _ => ⟨zfr_o k_h0 fr344 rfl, zfr_o k_h0 fr344 rfl, zfr_s L k_h0 fr344 rfl (by decide) rfl⟩))
          subst hQ
          exact zq_zret E hr hZ hM hS (show 0 ≤ x342.toInt ∧ x342.toInt ≤ 1 from ⟨by omega, by omega⟩) ⟨hR, (hG347), (Or.inl (by omega)), (by omega)⟩ hlocks dX12_compare_43
  · have b110 := zi_eq b110 (rfl : x102.toInt = x102.toInt) (zl_0 : (0 : Int32).toInt = 0)
    refine lv_iconst (v := 0) hx hb dX12_compare_7 (by decide +kernel) ?_
    subst hQ
    exact zq_zret E hr hZ hM hS (show 0 ≤ (0 : Int32).toInt ∧ (0 : Int32).toInt ≤ 1 by decide +kernel) ⟨hR, (hG108), (Or.inl (by decide +kernel)), (by have := zl_0; omega)⟩ hlocks dX12_compare_8
