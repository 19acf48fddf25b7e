def zw_X12_keeps : List (Nat × Nat) := [(61, 999)]
set_option maxHeartbeats 8000000 in
set_option maxRecDepth 100000 in
theorem c_X12_keeps (l : Launch) (X : zq_X) (zk zn : Nat) (I : zq_M) (L : zq_L X)  (h0 : Nat) (k_h0 : zq_k X h0 = 10) (q_0 : zk ≤ 2900 ∧ zn ≤ 2900) (q_1 : zn ≤ zk) : Met l yX12_keeps (zt_w yX12_keeps cX12_keeps 2 none) (zq_rm (0)) (va_Pc [.ref h0] (zq_W X (zk, zn) I)) (va_Qv (fun I2 => zq_fr (zf X zw_X12_keeps (fun _ => False)) I I2) (zq_E X (zk, zn)) (zq_A X)) 0 0 (zq_A X) := by
  refine Met.ofW (cc := cX12_keeps) (maxL := 2) (ret := none) (by decide) rfl ?_
  intro p e s m args below meth c s₁ B hml hv
  obtain ⟨hargs, hM, hZ⟩ := hv
  have hown : s.vm.findClass RX12 = some m.cls := findClass_of_methodNamed B.named
  have hts := atoms_spec (ws := zt_w yX12_keeps cX12_keeps 2 none) B.pre
  have E : CallFix p m c cX12_keeps 2 s args (Cond.code yX12_keeps cX12_keeps 2 none :: zt) RX12 := ⟨B.exec, B.bytes, hml, hown, hts⟩
  have hx := B.exec
  have hb := B.bytes
  have hr := B.returns
  have hlocks := B.notSynchronized
  clear B
  have hS : va_S (zq_A X) s.heap s.heap [] := va_S.rf
  have hR : zq_fr (zf X zw_X12_keeps (fun _ => False)) I I := zq_fr.rf
  have hl := lv_entry ([.ref h0]) (n := 2) (by exact Nat.le_of_ble_eq_true rfl)
  have hg : entryFrame m args 2 = F0 m 0 ((lg_sl ([.ref h0]) ++ List.replicate (2 - (lg_sl ([.ref h0])).length) Slot.unset).toArray) [] := by rw [hargs]; exact lg_entry_eq m ([.ref h0]) 2
  rw [hg]
  clear hg hargs
  generalize (lg_sl ([.ref h0]) ++ List.replicate (2 - (lg_sl ([.ref h0])).length) Slot.unset).toArray = ls at hl ⊢
  have hl : lv_has ls 2 [(0, .ref h0)] := by exact hl
  obtain ⟨R, hRm⟩ : ∃ R : Room, R = (headSpec (zt_w yX12_keeps cX12_keeps 2 none) (zq_rm (0))).room := ⟨_, rfl⟩
  rw [← hRm]
  generalize hQ : MQ below _ args s 0 0 (zq_A X) = Q
  obtain ⟨H, hH⟩ : ∃ H, H = s.heap := ⟨_, rfl⟩
  obtain ⟨locs, hlo⟩ : ∃ x : List Loc, x = [] := ⟨_, rfl⟩
  rw [show W p l e R s m args below meth c s.heap [] 0 0 Q = W p l e R s m args below meth c H locs 0 0 Q by rw [hH, hlo]]
  have hM : zq_hm X (zk, zn) I H := by rw [hH]; exact hM
  have hS : va_S (zq_A X) s.heap H locs := by rw [hH, hlo]; exact hS
  clear hH hlo
  refine lv_iconst (v := 0) hx hb dX12_keeps_0 (by decide +kernel) ?_
  refine lv_istore_n (lv' := [(1, .int (0 : Int32)), (0, .ref h0)]) hx hb dX12_keeps_1 rfl hl (by decide) rfl (fun ls hl => ?_)
  have J2 : ∀ (n135 : Nat) (I134 : zq_M) (H : Heap) (locs : List Loc) (ls : Array Slot) (j133 : Int32), 35 + 1 - j133.toInt ≤ ((n135 : Nat) : Int) → (zq_hm X (zk, zn) I134 H) → (va_S (zq_A X) s.heap H locs) → (zq_fr (zf X zw_X12_keeps (fun _ => False)) I I134) → (0 ≤ j133.toInt ∧ j133.toInt ≤ 35) → (lv_has ls 2 [(1, .int j133), (0, .ref h0)]) → W p l e R s m args below meth c H locs 0 0 Q (F0 m 2 ls []) := by
    intro n135
    induction n135 with
    | zero => intro I134 H locs ls j133 mu136 hM hS hR gj133 hl; exfalso; have := zi_rng j133; omega
    | succ n135 ih2 =>
      intro I134 H locs ls j133 mu136 hM hS hR gj133 hl
      refine lv_iload_n hx hb dX12_keeps_2 rfl (lv_at hl 0 rfl) ?_
      refine lv_bipush (v := 35) hx hb dX12_keeps_3 (by decide +kernel) ?_
      refine lv_icmp_ge (tgt := 29) hx hb dX12_keeps_5 (by decide) (fun b137 => ?_) (fun b137 => ?_)
      · have b137 := zi_le b137 (zl_35 : (35 : Int32).toInt = 35) (rfl : j133.toInt = j133.toInt)
        subst hQ
        exact zq_vret E hr hZ hM hS hR hlocks dX12_keeps_29
      · have b137 := zi_nle b137 (zl_35 : (35 : Int32).toInt = 35) (rfl : j133.toInt = j133.toInt)
        refine lv_aload_n hx hb dX12_keeps_8 rfl (lv_at hl 1 rfl) ?_
        refine zq_getr E hM k_h0 (zFX12_52 E hZ) ⟨by decide, by decide, by decide, rfl⟩ dX12_keeps_9 ?_
        have k138 : zq_k X (zq_r X h0 26) = 61 := zq_lk L.1 k_h0 rfl (by decide)
        refine lv_iload_n hx hb dX12_keeps_12 rfl (lv_at hl 0 rfl) ?_
        refine lv_aload_n hx hb dX12_keeps_13 rfl (lv_at hl 1 rfl) ?_
        refine zq_getr E hM k_h0 (zFX12_39 E hZ) ⟨by decide, by decide, by decide, rfl⟩ dX12_keeps_14 ?_
        have k139 : zq_k X (zq_r X h0 20) = 59 := zq_lk L.1 k_h0 rfl (by decide)
        refine lv_bipush (v := 10) hx hb dX12_keeps_17 (by decide +kernel) ?_
        refine lv_iload_n hx hb dX12_keeps_19 rfl (lv_at hl 0 rfl) ?_
        refine lv_iadd hx hb dX12_keeps_20 ?_
        refine lv_topi (fun x140 ex140 => ?_)
        have tx140 := zi_add ex140 (zl_10 : (10 : Int32).toInt = 10) (rfl : j133.toInt = j133.toInt) ⟨by omega, by omega⟩
        refine zq_ian (n := 106) (j := (x140.toNatClampNeg)) E hZ hM k139 ⟨by decide, rfl⟩ ⟨by omega, by omega⟩ rfl dX12_keeps_21 (fun x141 ex141 gx141 => ?_)
        refine W.eq (g2 := F0 m 22 ls [.int x141, .int j133, .ref (zq_r X h0 26)]) rfl ?_
        refine zq_isn (n := 35) (j := (j133.toNatClampNeg)) E hZ hM hS k138 ⟨by decide, rfl⟩ ⟨by omega, by omega⟩ rfl (zk_a gx141 (by have := zq_cl (i := j133) (by omega); have := zq_cl (i := x140) (by omega); omega) (by omega)) dX12_keeps_22 (fun I142 H locs eI142 hM hS => ?_)
        have hR := zq_fr.putE hR eI142 (zf_ia k138 (by decide) rfl)
        obtain ⟨x143, ex143⟩ : ∃ y : Int32, y = j133 + 1 := ⟨_, rfl⟩
        have tx143 := zi_add ex143 (rfl : j133.toInt = j133.toInt) zl_1 ⟨by omega, by omega⟩
        refine lv_iinc (v := x143) (lv' := [(1, .int x143), (0, .ref h0)]) hx hb dX12_keeps_23 hl (k := 0) rfl (by rw [ex143]; rfl) (by decide) rfl (fun ls hl => ?_)
        refine lv_goto (tgt := 2) hx hb dX12_keeps_26 (by decide) ?_
        exact ih2 I142 H locs ls x143 (by omega) hM hS hR (⟨by omega, by omega⟩) (lv_sub hl [0, 1] rfl)
  exact J2 (35 + 1 - (0 : Int32).toInt).toNat I H locs ls (0 : Int32) (by omega) hM hS hR (by rw [zl_0]; decide) (lv_sub hl [0, 1] rfl)
def zw_X12_laysBack : List (Nat × Nat) := [(59, 999)]
set_option maxHeartbeats 8000000 in
set_option maxRecDepth 100000 in
theorem c_X12_laysBack (l : Launch) (X : zq_X) (zk zn : Nat) (I : zq_M) (L : zq_L X)  (h0 : Nat) (k_h0 : zq_k X h0 = 10) (q_0 : zk ≤ 2900 ∧ zn ≤ 2900) : Met l yX12_laysBack (zt_w yX12_laysBack cX12_laysBack 2 none) (zq_rm (0)) (va_Pc [.ref h0] (zq_W X (zk, zn) I)) (va_Qv (fun I2 => zq_fr (zf X zw_X12_laysBack (fun _ => False)) I I2) (zq_E X (zk, zk)) (zq_A X)) 0 0 (zq_A X) := by
  refine Met.ofW (cc := cX12_laysBack) (maxL := 2) (ret := none) (by decide) rfl ?_
  intro p e s m args below meth c s₁ B hml hv
  obtain ⟨hargs, hM, hZ⟩ := hv
  have hown : s.vm.findClass RX12 = some m.cls := findClass_of_methodNamed B.named
  have hts := atoms_spec (ws := zt_w yX12_laysBack cX12_laysBack 2 none) B.pre
  have E : CallFix p m c cX12_laysBack 2 s args (Cond.code yX12_laysBack cX12_laysBack 2 none :: zt) RX12 := ⟨B.exec, B.bytes, hml, hown, hts⟩
  have hx := B.exec
  have hb := B.bytes
  have hr := B.returns
  have hlocks := B.notSynchronized
  clear B
  have hS : va_S (zq_A X) s.heap s.heap [] := va_S.rf
  have hR : zq_fr (zf X zw_X12_laysBack (fun _ => False)) I I := zq_fr.rf
  have hl := lv_entry ([.ref h0]) (n := 2) (by exact Nat.le_of_ble_eq_true rfl)
  have hg : entryFrame m args 2 = F0 m 0 ((lg_sl ([.ref h0]) ++ List.replicate (2 - (lg_sl ([.ref h0])).length) Slot.unset).toArray) [] := by rw [hargs]; exact lg_entry_eq m ([.ref h0]) 2
  rw [hg]
  clear hg hargs
  generalize (lg_sl ([.ref h0]) ++ List.replicate (2 - (lg_sl ([.ref h0])).length) Slot.unset).toArray = ls at hl ⊢
  have hl : lv_has ls 2 [(0, .ref h0)] := by exact hl
  obtain ⟨R, hRm⟩ : ∃ R : Room, R = (headSpec (zt_w yX12_laysBack cX12_laysBack 2 none) (zq_rm (0))).room := ⟨_, rfl⟩
  rw [← hRm]
  generalize hQ : MQ below _ args s 0 0 (zq_A X) = Q
  obtain ⟨H, hH⟩ : ∃ H, H = s.heap := ⟨_, rfl⟩
  obtain ⟨locs, hlo⟩ : ∃ x : List Loc, x = [] := ⟨_, rfl⟩
  rw [show W p l e R s m args below meth c s.heap [] 0 0 Q = W p l e R s m args below meth c H locs 0 0 Q by rw [hH, hlo]]
  have hM : zq_hm X (zk, zn) I H := by rw [hH]; exact hM
  have hS : va_S (zq_A X) s.heap H locs := by rw [hH, hlo]; exact hS
  clear hH hlo
  have hL9 : zLB I (zq_r X h0 20) zk 0 := zLB.none (by omega)
  have hM : zq_hm X (zk, (zn + zk)) I H := zq_hm.mono hM (Nat.le_refl _) (by omega)
  refine lv_iconst (v := 0) hx hb dX12_laysBack_0 (by decide +kernel) ?_
  refine lv_istore_n (lv' := [(1, .int (0 : Int32)), (0, .ref h0)]) hx hb dX12_laysBack_1 rfl hl (by decide) rfl (fun ls hl => ?_)
  have J2 : ∀ (n144 : Nat) (I142 : zq_M) (H : Heap) (locs : List Loc) (ls : Array Slot) (j141 : Int32), 35 + 1 - j141.toInt ≤ ((n144 : Nat) : Int) → (zq_hm X (zk, (zn + zk)) I142 H) → (va_S (zq_A X) s.heap H locs) → (zq_fr (zf X zw_X12_laysBack (fun _ => False)) I I142) → (0 ≤ j141.toInt ∧ j141.toInt ≤ 35) → (zLB I142 (zq_r X h0 20) zk (j141.toInt)) → (lv_has ls 2 [(1, .int j141), (0, .ref h0)]) → W p l e R s m args below meth c H locs 0 0 Q (F0 m 2 ls []) := by
    intro n144
    induction n144 with
    | zero => intro I142 H locs ls j141 mu145 hM hS hR gj141 F143 hl; exfalso; have := zi_rng j141; omega
    | succ n144 ih2 =>
      intro I142 H locs ls j141 mu145 hM hS hR gj141 F143 hl
      refine lv_iload_n hx hb dX12_laysBack_2 rfl (lv_at hl 0 rfl) ?_
      refine lv_bipush (v := 35) hx hb dX12_laysBack_3 (by decide +kernel) ?_
      refine lv_icmp_ge (tgt := 29) hx hb dX12_laysBack_5 (by decide) (fun b146 => ?_) (fun b146 => ?_)
      · have b146 := zi_le b146 (zl_35 : (35 : Int32).toInt = 35) (rfl : j141.toInt = j141.toInt)
        have hM := zq_hm.low hM L (zq_lk L.1 k_h0 rfl (by decide) : zq_k X (zq_r X h0 20) = 59) (by have q := F143; rw [show j141.toInt = 35 by omega] at q; exact q)
        subst hQ
        exact zq_vret E hr hZ hM hS hR hlocks dX12_laysBack_29
      · have b146 := zi_nle b146 (zl_35 : (35 : Int32).toInt = 35) (rfl : j141.toInt = j141.toInt)
        refine lv_aload_n hx hb dX12_laysBack_8 rfl (lv_at hl 1 rfl) ?_
        refine zq_getr E hM k_h0 (zFX12_39 E hZ) ⟨by decide, by decide, by decide, rfl⟩ dX12_laysBack_9 ?_
        have k147 : zq_k X (zq_r X h0 20) = 59 := zq_lk L.1 k_h0 rfl (by decide)
        refine lv_bipush (v := 10) hx hb dX12_laysBack_12 (by decide +kernel) ?_
        refine lv_iload_n hx hb dX12_laysBack_14 rfl (lv_at hl 0 rfl) ?_
        refine lv_iadd hx hb dX12_laysBack_15 ?_
        refine lv_topi (fun x148 ex148 => ?_)
        have tx148 := zi_add ex148 (zl_10 : (10 : Int32).toInt = 10) (rfl : j141.toInt = j141.toInt) ⟨by omega, by omega⟩
        refine lv_aload_n hx hb dX12_laysBack_16 rfl (lv_at hl 1 rfl) ?_
        refine zq_getr E hM k_h0 (zFX12_52 E hZ) ⟨by decide, by decide, by decide, rfl⟩ dX12_laysBack_17 ?_
        have k149 : zq_k X (zq_r X h0 26) = 61 := zq_lk L.1 k_h0 rfl (by decide)
        refine lv_iload_n hx hb dX12_laysBack_20 rfl (lv_at hl 0 rfl) ?_
        refine zq_ian (n := 35) (j := (j141.toNatClampNeg)) E hZ hM k149 ⟨by decide, rfl⟩ ⟨by omega, by omega⟩ rfl dX12_laysBack_21 (fun x150 ex150 gx150 => ?_)
        refine W.eq (g2 := F0 m 22 ls [.int x150, .int x148, .ref (zq_r X h0 20)]) rfl ?_
        refine zq_isn (n := 106) (j := (x148.toNatClampNeg)) E hZ hM hS k147 ⟨by decide, rfl⟩ ⟨by omega, by omega⟩ rfl (zk_b gx150 (by have := zq_cl (i := x148) (by omega); have := zq_cl (i := j141) (by omega); omega) (by omega)) dX12_laysBack_22 (fun I151 H locs eI151 hM hS => ?_)
        have hR := zq_fr.putE hR eI151 (zf_ia k147 (by decide) rfl)
        have hL152 : zLB I151 (zq_r X h0 20) zk (j141.toInt + 1) := zLB.put F143 eI151 (by have := zq_cl (i := x148) (by omega); omega) rfl (by rw [show x148.toNatClampNeg = 10 + j141.toNatClampNeg by have := zq_cl (i := x148) (by omega); have := zq_cl (i := j141) (by omega); omega]; exact gx150)
        obtain ⟨x153, ex153⟩ : ∃ y : Int32, y = j141 + 1 := ⟨_, rfl⟩
        have tx153 := zi_add ex153 (rfl : j141.toInt = j141.toInt) zl_1 ⟨by omega, by omega⟩
        refine lv_iinc (v := x153) (lv' := [(1, .int x153), (0, .ref h0)]) hx hb dX12_laysBack_23 hl (k := 0) rfl (by rw [ex153]; rfl) (by decide) rfl (fun ls hl => ?_)
        refine lv_goto (tgt := 2) hx hb dX12_laysBack_26 (by decide) ?_
        have hL154 : zLB I151 (zq_r X h0 20) zk (x153.toInt) := by rw [show x153.toInt = j141.toInt + 1 by omega]; exact hL152
        exact ih2 I151 H locs ls x153 (by omega) hM hS hR (⟨by omega, by omega⟩) hL154 (lv_sub hl [0, 1] rfl)
  exact J2 (35 + 1 - (0 : Int32).toInt).toNat I H locs ls (0 : Int32) (by omega) hM hS hR (by rw [zl_0]; decide) (zLB.none (by have := zl_0; omega)) (lv_sub hl [0, 1] rfl)
def zw_X12_moneyIn : List (Nat × Nat) := [(10, 18), (59, 999)]
set_option maxHeartbeats 8000000 in
set_option maxRecDepth 100000 in
theorem c_X12_moneyIn (l : Launch) (X : zq_X) (zk zn : Nat) (I : zq_M) (L : zq_L X)  (h0 : Nat) (k_h0 : zq_k X h0 = 10) (p1 : Int32) (g_p1 : 0 ≤ p1.toInt ∧ p1.toInt ≤ 60) (q_0 : zk ≤ 2900 ∧ zn ≤ 2900) (q_1 : zWF X I h0) (q_2 : zn ≤ 2600) : Met l yX12_moneyIn (zt_w yX12_moneyIn cX12_moneyIn 3 (some .int)) (zq_rm (5)) (va_Pc [.ref h0, .int p1] (zq_W X (zk, zn) I)) (va_Qi (fun (r : Int32) I2 => zq_fr (zf X zw_X12_moneyIn (fun _ => False)) I I2) (zq_E X (zk, zk)) (zq_A X)) 0 0 (zq_A X) := by
  refine Met.ofW (cc := cX12_moneyIn) (maxL := 3) (ret := (some .int)) (by decide) rfl ?_
  intro p e s m args below meth c s₁ B hml hv
  obtain ⟨hargs, hM, hZ⟩ := hv
  have hown : s.vm.findClass RX12 = some m.cls := findClass_of_methodNamed B.named
  have hts := atoms_spec (ws := zt_w yX12_moneyIn cX12_moneyIn 3 (some .int)) B.pre
  have E : CallFix p m c cX12_moneyIn 3 s args (Cond.code yX12_moneyIn cX12_moneyIn 3 (some .int) :: zt) RX12 := ⟨B.exec, B.bytes, hml, hown, hts⟩
  have hx := B.exec
  have hb := B.bytes
  have hr := B.returns
  have hlocks := B.notSynchronized
  clear B
  have hS : va_S (zq_A X) s.heap s.heap [] := va_S.rf
  have hR : zq_fr (zf X zw_X12_moneyIn (fun _ => False)) I I := zq_fr.rf
  have hl := lv_entry ([.ref h0, .int p1]) (n := 3) (by exact Nat.le_of_ble_eq_true rfl)
  have hg : entryFrame m args 3 = F0 m 0 ((lg_sl ([.ref h0, .int p1]) ++ List.replicate (3 - (lg_sl ([.ref h0, .int p1])).length) Slot.unset).toArray) [] := by rw [hargs]; exact lg_entry_eq m ([.ref h0, .int p1]) 3
  rw [hg]
  clear hg hargs
  generalize (lg_sl ([.ref h0, .int p1]) ++ List.replicate (3 - (lg_sl ([.ref h0, .int p1])).length) Slot.unset).toArray = ls at hl ⊢
  have hl : lv_has ls 3 [(0, .ref h0), (1, .int p1)] := by exact hl
  obtain ⟨R, hRm⟩ : ∃ R : Room, R = (headSpec (zt_w yX12_moneyIn cX12_moneyIn 3 (some .int)) (zq_rm (5))).room := ⟨_, rfl⟩
  rw [← hRm]
  have hro : ∀ d q : Nat, d + 1 ≤ 5 → q ≤ 45 → zq_rok d q R := fun d q h1 h2 => by rw [hRm]; exact zq_rokI h1 h2
  generalize hQ : MQ below _ args s 0 0 (zq_A X) = Q
  obtain ⟨H, hH⟩ : ∃ H, H = s.heap := ⟨_, rfl⟩
  obtain ⟨locs, hlo⟩ : ∃ x : List Loc, x = [] := ⟨_, rfl⟩
  rw [show W p l e R s m args below meth c s.heap [] 0 0 Q = W p l e R s m args below meth c H locs 0 0 Q by rw [hH, hlo]]
  have hM : zq_hm X (zk, zn) I H := by rw [hH]; exact hM
  have hS : va_S (zq_A X) s.heap H locs := by rw [hH, hlo]; exact hS
  clear hH hlo
  refine lv_iconst (v := 0) hx hb dX12_moneyIn_0 (by decide +kernel) ?_
  refine lv_istore_n (lv' := [(2, .int (0 : Int32)), (0, .ref h0), (1, .int p1)]) hx hb dX12_moneyIn_1 rfl hl (by decide) rfl (fun ls hl => ?_)
  have J2 : ∀ (n172 : Nat) (I169 : zq_M) (H : Heap) (locs : List Loc) (ls : Array Slot) (zv171 : Nat) (j168 : Int32), 60 + 1 - j168.toInt ≤ ((n172 : Nat) : Int) → (zq_hm X (zk, zv171) I169 H) → (va_S (zq_A X) s.heap H locs) → (zq_fr (zf X zw_X12_moneyIn (fun _ => False)) I I169) → (0 ≤ j168.toInt ∧ j168.toInt ≤ 60) → (zWF X I169 h0) → (((zv171 : Nat) : Int) ≤ ((zn : Nat) : Int) + 4 * j168.toInt) → (lv_has ls 3 [(2, .int j168), (0, .ref h0), (1, .int p1)]) → W p l e R s m args below meth c H locs 0 0 Q (F0 m 2 ls []) := by
    intro n172
    induction n172 with
    | zero => intro I169 H locs ls zv171 j168 mu173 hM hS hR gj168 F170 hz2 hl; exfalso; have := zi_rng j168; omega
    | succ n172 ih2 =>
      intro I169 H locs ls zv171 j168 mu173 hM hS hR gj168 F170 hz2 hl
      refine lv_iload_n hx hb dX12_moneyIn_2 rfl (lv_at hl 0 rfl) ?_
      refine lv_iload_n hx hb dX12_moneyIn_3 rfl (lv_at hl 2 rfl) ?_
      refine lv_icmp_ge (tgt := 18) hx hb dX12_moneyIn_4 (by decide) (fun b174 => ?_) (fun b174 => ?_)
      · have b174 := zi_le b174 (rfl : p1.toInt = p1.toInt) (rfl : j168.toInt = j168.toInt)
        refine lv_aload_n hx hb dX12_moneyIn_18 rfl (lv_at hl 1 rfl) ?_
        refine zq_getr E hM k_h0 (zFX12_39 E hZ) ⟨by decide, by decide, by decide, rfl⟩ dX12_moneyIn_19 ?_
        have k175 : zq_k X (zq_r X h0 20) = 59 := zq_lk L.1 k_h0 rfl (by decide)
        refine lv_bipush (v := 10) hx hb dX12_moneyIn_22 (by decide +kernel) ?_
        refine zq_ian (n := 106) (j := 10) E hZ hM k175 ⟨by decide, rfl⟩ (by rw [zl_10]; decide) (by decide +kernel) dX12_moneyIn_24 (fun x176 ex176 gx176 => ?_)
        clear gx176
        refine lv_istore_n (lv' := [(2, .int x176), (0, .ref h0), (1, .int p1)]) hx hb dX12_moneyIn_25 rfl hl (by decide) rfl (fun ls hl => ?_)
        refine lv_aload_n hx hb dX12_moneyIn_26 rfl (lv_at hl 1 rfl) ?_
        refine zq_callv (zq_rV (As := []) (rest := []) E hZ hM k_h0 (c_X12_laysBack l X zk (zv171) I169 L h0 k_h0 (by omega)) zmX12_391 zM_X12_laysBack (hro (0) 2 (by first | decide | omega) (by decide)) ⟨by decide, by decide⟩ rfl hl.1 rfl rfl (Nat.le_of_ble_eq_true rfl) dX12_moneyIn_27) hS (fun I179 H locs h177 hM hS => ?_)
        have fr180 := h177
        have hR := zq_fr.call hR fr180 (zf_sub (by decide +kernel) (fun _ _ q => q.elim))
        have hWF181 := zWF.fr F170 L k_h0 fr180 (by decide)
        refine lv_iload_n hx hb dX12_moneyIn_30 rfl (lv_at hl 0 rfl) ?_
        subst hQ
        exact zq_iret E hr hZ hM hS hR hlocks dX12_moneyIn_31
      · have b174 := zi_nle b174 (rfl : p1.toInt = p1.toInt) (rfl : j168.toInt = j168.toInt)
        refine lv_aload_n hx hb dX12_moneyIn_7 rfl (lv_at hl 1 rfl) ?_
        refine zq_calli (zq_rV (As := []) (rest := []) E hZ hM k_h0 (c_X12_passes l X zk (zv171) I169 L h0 k_h0 (by omega) (F170) (by omega)) zmX12_363 zM_X12_passes (hro (4) 3 (by first | decide | omega) (by decide)) ⟨by decide, by decide⟩ rfl hl.1 rfl rfl (Nat.le_of_ble_eq_true rfl) dX12_moneyIn_8) hS (fun x183 I184 H locs h182 hM hS => ?_)
        have fr185 := h182
        have hR := zq_fr.call hR fr185 (zf_sub (by decide +kernel) (fun _ _ q => q.elim))
        have hWF186 := zWF.fr F170 L k_h0 fr185 (by decide)
        refine lv_pop hx hb dX12_moneyIn_11 rfl ?_
        obtain ⟨x187, ex187⟩ : ∃ y : Int32, y = j168 + 1 := ⟨_, rfl⟩
        have tx187 := zi_add ex187 (rfl : j168.toInt = j168.toInt) zl_1 ⟨by omega, by omega⟩
        refine lv_iinc (v := x187) (lv' := [(2, .int x187), (0, .ref h0), (1, .int p1)]) hx hb dX12_moneyIn_12 hl (k := 0) rfl (by rw [ex187]; rfl) (by decide) rfl (fun ls hl => ?_)
        refine lv_goto (tgt := 2) hx hb dX12_moneyIn_15 (by decide) ?_
        exact ih2 I184 H locs ls ((zv171 + 4)) x187 (by omega) hM hS hR (⟨by omega, by omega⟩) hWF186 (by have := zl_0; omega) (lv_sub hl [0, 1, 2] rfl)
  exact J2 (60 + 1 - (0 : Int32).toInt).toNat I H locs ls (zn) (0 : Int32) (by omega) hM hS hR (by rw [zl_0]; decide) q_1 (by have := zl_0; omega) (lv_sub hl [0, 1, 2] rfl)
