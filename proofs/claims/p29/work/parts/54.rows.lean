def zw_X12_keeps : List (Nat × Nat) := [(61, 999)]
set_option maxHeartbeats 8000000 in
set_option maxRecDepth 100000 in
theorem c_X12_keeps (l : Launch) (X : zq_X) (zk zn : Nat) (I : zq_M) (L : zq_L X)  (h0 : Nat) (k_h0 : zq_k X h0 = 10) (q_0 : zk ≤ 2900 ∧ zn ≤ 2900) (q_1 : zn ≤ zk) : Met l yX12_keeps (zt_w yX12_keeps cX12_keeps 2 none) (zq_rm (0)) (va_Pc [.ref h0] (zq_W X (zk, zn) I)) (va_Qv (fun I2 => zq_fr (zf X zw_X12_keeps (fun _ => False)) I I2) (zq_E X (zk, zn)) (zq_A X)) 0 0 (zq_A X) := by
  refine Met.ofW (cc := cX12_keeps) (maxL := 2) (ret := none) (by decide) rfl ?_
  intro p e s m args below meth c s₁ B hml hv
  obtain ⟨hargs, hM, hZ⟩ := hv
  have hown : s.vm.findClass RX12 = some m.cls := findClass_of_methodNamed B.named
  have hts := atoms_spec (ws := zt_w yX12_keeps cX12_keeps 2 none) B.pre
  have E : CallFix p m c cX12_keeps 2 s args (Cond.code yX12_keeps cX12_keeps 2 none :: zt) RX12 := ⟨B.exec, B.bytes, hml, hown, hts⟩
  have hx := B.exec
  have hb := B.bytes
  have hr := B.returns
  have hlocks := B.notSynchronized
  clear B
  have hS : va_S (zq_A X) s.heap s.heap [] := va_S.rf
  have hR : zq_fr (zf X zw_X12_keeps (fun _ => False)) I I := zq_fr.rf
  have hl := lv_entry ([.ref h0]) (n := 2) (by exact Nat.le_of_ble_eq_true rfl)
  have hg : entryFrame m args 2 = F0 m 0 ((lg_sl ([.ref h0]) ++ List.replicate (2 - (lg_sl ([.ref h0])).length) Slot.unset).toArray) [] := by rw [hargs]; exact lg_entry_eq m ([.ref h0]) 2
  rw [hg]
  clear hg hargs
  generalize (lg_sl ([.ref h0]) ++ List.replicate (2 - (lg_sl ([.ref h0])).length) Slot.unset).toArray = ls at hl ⊢
  have hl : lv_has ls 2 [(0, .ref h0)] := by exact hl
  obtain ⟨R, hRm⟩ : ∃ R : Room, R = (headSpec (zt_w yX12_keeps cX12_keeps 2 none) (zq_rm (0))).room := ⟨_, rfl⟩
  rw [← hRm]
  generalize hQ : MQ below _ args s 0 0 (zq_A X) = Q
  obtain ⟨H, hH⟩ : ∃ H, H = s.heap := ⟨_, rfl⟩
  obtain ⟨locs, hlo⟩ : ∃ x : List Loc, x = [] := ⟨_, rfl⟩
  rw [show W p l e R s m args below meth c s.heap [] 0 0 Q = W p l e R s m args below meth c H locs 0 0 Q by rw [hH, hlo]]
  have hM : zq_hm X (zk, zn) I H := by rw [hH]; exact hM
  have hS : va_S (zq_A X) s.heap H locs := by rw [hH, hlo]; exact hS
  clear hH hlo
  refine lv_iconst (v := 0) hx hb dX12_keeps_0 (by decide +kernel) ?_
  refine lv_istore_n (lv' := [(1, .int (0 : Int32)), (0, .ref h0)]) hx hb dX12_keeps_1 rfl hl (by decide) rfl (fun ls hl => ?_)
  have J2 : ∀ (n135 : Nat) (I134 : zq_M) (H : Heap) (locs : List Loc) (ls : Array Slot) (j133 : Int32), 35 + 1 - j133.toInt ≤ ((n135 : Nat) : Int) → (zq_hm X (zk, zn) I134 H) → (va_S (zq_A X) s.heap H locs) → (zq_fr (zf X zw_X12_keeps (fun _ => False)) I I134) → (0 ≤ j133.toInt ∧ j133.toInt ≤ 35) → (lv_has ls 2 [(1, .int j133), (0, .ref h0)]) → W p l e R s m args below meth c H locs 0 0 Q (F0 m 2 ls []) := by
    intro n135
    induction n135 with
    | zero => intro I134 H locs ls j133 mu136 hM hS hR gj133 hl; exfalso; have := zi_rng j133; omega
    | succ n135 ih2 =>
      intro I134 H locs ls j133 mu136 hM hS hR gj133 hl
      refine lv_iload_n hx hb dX12_keeps_2 rfl (lv_at hl 0 rfl) ?_
      refine lv_bipush (v := 35) hx hb dX12_keeps_3 (by decide +kernel) ?_
      refine lv_icmp_ge (tgt := 29) hx hb dX12_keeps_5 (by decide) (fun b137 => ?_) (fun b137 => ?_)
      · have b137 := zi_le b137 (zl_35 : (35 : Int32).toInt = 35) (rfl : j133.toInt = j133.toInt)
        subst hQ
        exact zq_vret E hr hZ hM hS hR hlocks dX12_keeps_29
      · have b137 := zi_nle b137 (zl_35 : (35 : Int32).toInt = 35) (rfl : j133.toInt = j133.toInt)
        refine lv_aload_n hx hb dX12_keeps_8 rfl (lv_at hl 1 rfl) ?_
        refine zq_getr E hM k_h0 (zFX12_52 E hZ) ⟨by decide, by decide, by decide, rfl⟩ dX12_keeps_9 ?_
        have k138 : zq_k X (zq_r X h0 26) = 61 := zq_lk L.1 k_h0 rfl (by decide)
        refine lv_iload_n hx hb dX12_keeps_12 rfl (lv_at hl 0 rfl) ?_
        refine lv_aload_n hx hb dX12_keeps_13 rfl (lv_at hl 1 rfl) ?_
        refine zq_getr E hM k_h0 (zFX12_39 E hZ) ⟨by decide, by decide, by decide, rfl⟩ dX12_keeps_14 ?_
        have k139 : zq_k X (zq_r X h0 20) = 59 := zq_lk L.1 k_h0 rfl (by decide)
        refine lv_bipush (v := 10) hx hb dX12_keeps_17 (by decide +kernel) ?_
        refine lv_iload_n hx hb dX12_keeps_19 rfl (lv_at hl 0 rfl) ?_
        refine lv_iadd hx hb dX12_keeps_20 ?_
        refine lv_topi (fun x140 ex140 => ?_)
        have tx140 := zi_add ex140 (zl_10 : (10 : Int32).toInt = 10) (rfl : j133.toInt = j133.toInt) ⟨by omega, by omega⟩
        refine zq_ian (n := 106) (j := (x140.toNatClampNeg)) E hZ hM k139 ⟨by decide, rfl⟩ ⟨by omega, by omega⟩ rfl dX12_keeps_21 (fun x141 ex141 gx141 => ?_)
        refine W.eq (g2 := F0 m 22 ls [.int x141, .int j133, .ref (zq_r X h0 26)]) rfl ?_
        refine zq_isn (n := 35) (j := (j133.toNatClampNeg)) E hZ hM hS k138 ⟨by decide, rfl⟩ ⟨by omega, by omega⟩ rfl (zk_a gx141 (by have := zq_cl (i := j133) (by omega); have := zq_cl (i := x140) (by omega); omega) (by omega)) dX12_keeps_22 (fun I142 H locs eI142 hM hS => ?_)
        have hR := zq_fr.putE hR eI142 (zf_ia k138 (by decide) rfl)
        obtain ⟨x143, ex143⟩ : ∃ y : Int32, y = j133 + 1 := ⟨_, rfl⟩
        have tx143 := zi_add ex143 (rfl : j133.toInt = j133.toInt) zl_1 ⟨by omega, by omega⟩
        refine lv_iinc (v := x143) (lv' := [(1, .int x143), (0, .ref h0)]) hx hb dX12_keeps_23 hl (k := 0) rfl (by rw [ex143]; rfl) (by decide) rfl (fun ls hl => ?_)
        refine lv_goto (tgt := 2) hx hb dX12_keeps_26 (by decide) ?_
        exact ih2 I142 H locs ls x143 (by omega) hM hS hR (⟨by omega, by omega⟩) (lv_sub hl [0, 1] rfl)
  exact J2 (35 + 1 - (0 : Int32).toInt).toNat I H locs ls (0 : Int32) (by omega) hM hS hR (by rw [zl_0]; decide) (lv_sub hl [0, 1] rfl)
def zw_X12_laysBack : List (Nat × Nat) := [(59, 999)]
set_option maxHeartbeats 8000000 in
set_option maxRecDepth 100000 in
theorem c_X12_laysBack (l : Launch) (X : zq_X) (zk zn : Nat) (I : zq_M) (L : zq_L X)  (h0 : Nat) (k_h0 : zq_k X h0 = 10) (q_0 : zk ≤ 2900 ∧ zn ≤ 2900) : Met l yX12_laysBack (zt_w yX12_laysBack cX12_laysBack 2 none) (zq_rm (0)) (va_Pc [.ref h0] (zq_W X (zk, zn) I)) (va_Qv (fun I2 => zq_fr (zf X zw_X12_laysBack (fun _ => False)) I I2) (zq_E X (zk, zk)) (zq_A X)) 0 0 (zq_A X) := by
  refine Met.ofW (cc := cX12_laysBack) (maxL := 2) (ret := none) (by decide) rfl ?_
  intro p e s m args below meth c s₁ B hml hv
  obtain ⟨hargs, hM, hZ⟩ := hv
  have hown : s.vm.findClass RX12 = some m.cls := findClass_of_methodNamed B.named
  have hts := atoms_spec (ws := zt_w yX12_laysBack cX12_laysBack 2 none) B.pre
  have E : CallFix p m c cX12_laysBack 2 s args (Cond.code yX12_laysBack cX12_laysBack 2 none :: zt) RX12 := ⟨B.exec, B.bytes, hml, hown, hts⟩
  have hx := B.exec
  have hb := B.bytes
  have hr := B.returns
  have hlocks := B.notSynchronized
  clear B
  have hS : va_S (zq_A X) s.heap s.heap [] := va_S.rf
  have hR : zq_fr (zf X zw_X12_laysBack (fun _ => False)) I I := zq_fr.rf
  have hl := lv_entry ([.ref h0]) (n := 2) (by exact Nat.le_of_ble_eq_true rfl)
  have hg : entryFrame m args 2 = F0 m 0 ((lg_sl ([.ref h0]) ++ List.replicate (2 - (lg_sl ([.ref h0])).length) Slot.unset).toArray) [] := by rw [hargs]; exact lg_entry_eq m ([.ref h0]) 2
  rw [hg]
  clear hg hargs
  generalize (lg_sl ([.ref h0]) ++ List.replicate (2 - (lg_sl ([.ref h0])).length) Slot.unset).toArray = ls at hl ⊢
  have hl : lv_has ls 2 [(0, .ref h0)] := by exact hl
  obtain ⟨R, hRm⟩ : ∃ R : Room, R = (headSpec (zt_w yX12_laysBack cX12_laysBack 2 none) (zq_rm (0))).room := ⟨_, rfl⟩
  rw [← hRm]
  generalize hQ : MQ below _ args s 0 0 (zq_A X) = Q
  obtain ⟨H, hH⟩ : ∃ H, H = s.heap := ⟨_, rfl⟩
  obtain ⟨locs, hlo⟩ : ∃ x : List Loc, x = [] := ⟨_, rfl⟩
  rw [show W p l e R s m args below meth c s.heap [] 0 0 Q = W p l e R s m args below meth c H locs 0 0 Q by rw [hH, hlo]]
  have hM : zq_hm X (zk, zn) I H := by rw [hH]; exact hM
  have hS : va_S (zq_A X) s.heap H locs := by rw [hH, hlo]; exact hS
  clear hH hlo
  have hL9 : zLB I (zq_r X h0 20) zk 0 := zLB.none (by omega)
  have hM : zq_hm X (zk, (zn + zk)) I H := zq_hm.mono hM (Nat.le_refl _) (by omega)
  refine lv_iconst (v := 0) hx hb dX12_laysBack_0 (by decide +kernel) ?_
  refine lv_istore_n (lv' := [(1, .int (0 : Int32)), (0, .ref h0)]) hx hb dX12_laysBack_1 rfl hl (by decide) rfl (fun ls hl => ?_)
  have J2 : ∀ (n144 : Nat) (I142 : zq_M) (H : Heap) (locs : List Loc) (ls : Array Slot) (j141 : Int32), 35 + 1 - j141.toInt ≤ ((n144 : Nat) : Int) → (zq_hm X (zk, (zn + zk)) I142 H) → (va_S (zq_A X) s.heap H locs) → (zq_fr (zf X zw_X12_laysBack (fun _ => False)) I I142) → (0 ≤ j141.toInt ∧ j141.toInt ≤ 35) → (zLB I142 (zq_r X h0 20) zk (j141.toInt)) → (lv_has ls 2 [(1, .int j141), (0, .ref h0)]) → W p l e R s m args below meth c H locs 0 0 Q (F0 m 2 ls []) := by
    intro n144
    induction n144 with
    | zero => intro I142 H locs ls j141 mu145 hM hS hR gj141 F143 hl; exfalso; have := zi_rng j141; omega
    | succ n144 ih2 =>
      intro I142 H locs ls j141 mu145 hM hS hR gj141 F143 hl
      refine lv_iload_n hx hb dX12_laysBack_2 rfl (lv_at hl 0 rfl) ?_
      refine lv_bipush (v := 35) hx hb dX12_laysBack_3 (by decide +kernel) ?_
      refine lv_icmp_ge (tgt := 29) hx hb dX12_laysBack_5 (by decide) (fun b146 => ?_) (fun b146 => ?_)
      · have b146 := zi_le b146 (zl_35 : (35 : Int32).toInt = 35) (rfl : j141.toInt = j141.toInt)
        have hM := zq_hm.low hM L (zq_lk L.1 k_h0 rfl (by decide) : zq_k X (zq_r X h0 20) = 59) (by have q := F143; rw [show j141.toInt = 35 by omega] at q; exact q)
        subst hQ
        exact zq_vret E hr hZ hM hS hR hlocks dX12_laysBack_29
      · have b146 := zi_nle b146 (zl_35 : (35 : Int32).toInt = 35) (rfl : j141.toInt = j141.toInt)
        refine lv_aload_n hx hb dX12_laysBack_8 rfl (lv_at hl 1 rfl) ?_
        refine zq_getr E hM k_h0 (zFX12_39 E hZ) ⟨by decide, by decide, by decide, rfl⟩ dX12_laysBack_9 ?_
        have k147 : zq_k X (zq_r X h0 20) = 59 := zq_lk L.1 k_h0 rfl (by decide)
        refine lv_bipush (v := 10) hx hb dX12_laysBack_12 (by decide +kernel) ?_
        refine lv_iload_n hx hb dX12_laysBack_14 rfl (lv_at hl 0 rfl) ?_
        refine lv_iadd hx hb dX12_laysBack_15 ?_
        refine lv_topi (fun x148 ex148 => ?_)
        have tx148 := zi_add ex148 (zl_10 : (10 : Int32).toInt = 10) (rfl : j141.toInt = j141.toInt) ⟨by omega, by omega⟩
        refine lv_aload_n hx hb dX12_laysBack_16 rfl (lv_at hl 1 rfl) ?_
        refine zq_getr E hM k_h0 (zFX12_52 E hZ) ⟨by decide, by decide, by decide, rfl⟩ dX12_laysBack_17 ?_
        have k149 : zq_k X (zq_r X h0 26) = 61 := zq_lk L.1 k_h0 rfl (by decide)
        refine lv_iload_n hx hb dX12_laysBack_20 rfl (lv_at hl 0 rfl) ?_
        refine zq_ian (n := 35) (j := (j141.toNatClampNeg)) E hZ hM k149 ⟨by decide, rfl⟩ ⟨by omega, by omega⟩ rfl dX12_laysBack_21 (fun x150 ex150 gx150 => ?_)
        refine W.eq (g2 := F0 m 22 ls [.int x150, .int x148, .ref (zq_r X h0 20)]) rfl ?_
        refine zq_isn (n := 106) (j := (x148.toNatClampNeg)) E hZ hM hS k147 ⟨by decide, rfl⟩ ⟨by omega, by omega⟩ rfl (zk_b gx150 (by have := zq_cl (i := x148) (by omega); have := zq_cl (i := j141) (by omega); omega) (by omega)) dX12_laysBack_22 (fun I151 H locs eI151 hM hS => ?_)
        have hR := zq_fr.putE hR eI151 (zf_ia k147 (by decide) rfl)
        have hL152 : zLB I151 (zq_r X h0 20) zk (j141.toInt + 1) := zLB.put F143 eI151 (by have := zq_cl (i := x148) (by omega); omega) rfl (by rw [show x148.toNatClampNeg = 10 + j141.toNatClampNeg by have := zq_cl (i := x148) (by omega); have := zq_cl (i := j141) (by omega); omega]; exact gx150)
        obtain ⟨x153, ex153⟩ : ∃ y : Int32, y = j141 + 1 := ⟨_, rfl⟩
        have tx153 := zi_add ex153 (rfl : j141.toInt = j141.toInt) zl_1 ⟨by omega, by omega⟩
        refine lv_iinc (v := x153) (lv' := [(1, .int x153), (0, .ref h0)]) hx hb dX12_laysBack_23 hl (k := 0) rfl (by rw [ex153]; rfl) (by decide) rfl (fun ls hl => ?_)
        refine lv_goto (tgt := 2) hx hb dX12_laysBack_26 (by decide) ?_
        have hL154 : zLB I151 (zq_r X h0 20) zk (x153.toInt) := by rw [show x153.toInt = j141.toInt + 1 by omega]; exact hL152
        exact ih2 I151 H locs ls x153 (by omega) hM hS hR (⟨by omega, by omega⟩) hL154 (lv_sub hl [0, 1] rfl)
  exact J2 (35 + 1 - (0 : Int32).toInt).toNat I H locs ls (0 : Int32) (by omega) hM hS hR (by rw [zl_0]; decide) (zLB.none (by have := zl_0; omega)) (lv_sub hl [0, 1] rfl)
def zw_X12_moneyIn : List (Nat × Nat) := [(10, 18), (59, 999)]
set_option maxHeartbeats 8000000 in
set_option maxRecDepth 100000 in
theorem c_X12_moneyIn (l : Launch) (X : zq_X) (zk zn : Nat) (I : zq_M) (L : zq_L X)  (h0 : Nat) (k_h0 : zq_k X h0 = 10) (p1 : Int32) (g_p1 : 0 ≤ p1.toInt ∧ p1.toInt ≤ 60) (q_0 : zk ≤ 2900 ∧ zn ≤ 2900) (q_1 : zWF X I h0) (q_2 : zn ≤ 2600) : Met l yX12_moneyIn (zt_w yX12_moneyIn cX12_moneyIn 3 (some .int)) (zq_rm (5)) (va_Pc [.ref h0, .int p1] (zq_W X (zk, zn) I)) (va_Qi (fun (r : Int32) I2 => zq_fr (zf X zw_X12_moneyIn (fun _ => False)) I I2) (zq_E X (zk, zk)) (zq_A X)) 0 0 (zq_A X) := by
  refine Met.ofW (cc := cX12_moneyIn) (maxL := 3) (ret := (some .int)) (by decide) rfl ?_
  intro p e s m args below meth c s₁ B hml hv
  obtain ⟨hargs, hM, hZ⟩ := hv
  have hown : s.vm.findClass RX12 = some m.cls := findClass_of_methodNamed B.named
  have hts := atoms_spec (ws := zt_w yX12_moneyIn cX12_moneyIn 3 (some .int)) B.pre
  have E : CallFix p m c cX12_moneyIn 3 s args (Cond.code yX12_moneyIn cX12_moneyIn 3 (some .int) :: zt) RX12 := ⟨B.exec, B.bytes, hml, hown, hts⟩
  have hx := B.exec
  have hb := B.bytes
  have hr := B.returns
  have hlocks := B.notSynchronized
  clear B
  have hS : va_S (zq_A X) s.heap s.heap [] := va_S.rf
  have hR : zq_fr (zf X zw_X12_moneyIn (fun _ => False)) I I := zq_fr.rf
  have hl := lv_entry ([.ref h0, .int p1]) (n := 3) (by exact Nat.le_of_ble_eq_true rfl)
  have hg : entryFrame m args 3 = F0 m 0 ((lg_sl ([.ref h0, .int p1]) ++ List.replicate (3 - (lg_sl ([.ref h0, .int p1])).length) Slot.unset).toArray) [] := by rw [hargs]; exact lg_entry_eq m ([.ref h0, .int p1]) 3
  rw [hg]
  clear hg hargs
  generalize (lg_sl ([.ref h0, .int p1]) ++ List.replicate (3 - (lg_sl ([.ref h0, .int p1])).length) Slot.unset).toArray = ls at hl ⊢
  have hl : lv_has ls 3 [(0, .ref h0), (1, .int p1)] := by exact hl
  obtain ⟨R, hRm⟩ : ∃ R : Room, R = (headSpec (zt_w yX12_moneyIn cX12_moneyIn 3 (some .int)) (zq_rm (5))).room := ⟨_, rfl⟩
  rw [← hRm]
  have hro : ∀ d q : Nat, d + 1 ≤ 5 → q ≤ 45 → zq_rok d q R := fun d q h1 h2 => by rw [hRm]; exact zq_rokI h1 h2
  generalize hQ : MQ below _ args s 0 0 (zq_A X) = Q
  obtain ⟨H, hH⟩ : ∃ H, H = s.heap := ⟨_, rfl⟩
  obtain ⟨locs, hlo⟩ : ∃ x : List Loc, x = [] := ⟨_, rfl⟩
  rw [show W p l e R s m args below meth c s.heap [] 0 0 Q = W p l e R s m args below meth c H locs 0 0 Q by rw [hH, hlo]]
  have hM : zq_hm X (zk, zn) I H := by rw [hH]; exact hM
  have hS : va_S (zq_A X) s.heap H locs := by rw [hH, hlo]; exact hS
  clear hH hlo
  refine lv_iconst (v := 0) hx hb dX12_moneyIn_0 (by decide +kernel) ?_
  refine lv_istore_n (lv' := [(2, .int (0 : Int32)), (0, .ref h0), (1, .int p1)]) hx hb dX12_moneyIn_1 rfl hl (by decide) rfl (fun ls hl => ?_)
  have J2 : ∀ (n172 : Nat) (I169 : zq_M) (H : Heap) (locs : List Loc) (ls : Array Slot) (zv171 : Nat) (j168 : Int32), 60 + 1 - j168.toInt ≤ ((n172 : Nat) : Int) → (zq_hm X (zk, zv171) I169 H) → (va_S (zq_A X) s.heap H locs) → (zq_fr (zf X zw_X12_moneyIn (fun _ => False)) I I169) → (0 ≤ j168.toInt ∧ j168.toInt ≤ 60) → (zWF X I169 h0) → (((zv171 : Nat) : Int) ≤ ((zn : Nat) : Int) + 4 * j168.toInt) → (lv_has ls 3 [(2, .int j168), (0, .ref h0), (1, .int p1)]) → W p l e R s m args below meth c H locs 0 0 Q (F0 m 2 ls []) := by
    intro n172
    induction n172 with
    | zero => intro I169 H locs ls zv171 j168 mu173 hM hS hR gj168 F170 hz2 hl; exfalso; have := zi_rng j168; omega
    | succ n172 ih2 =>
      intro I169 H locs ls zv171 j168 mu173 hM hS hR gj168 F170 hz2 hl
      refine lv_iload_n hx hb dX12_moneyIn_2 rfl (lv_at hl 0 rfl) ?_
      refine lv_iload_n hx hb dX12_moneyIn_3 rfl (lv_at hl 2 rfl) ?_
      refine lv_icmp_ge (tgt := 18) hx hb dX12_moneyIn_4 (by decide) (fun b174 => ?_) (fun b174 => ?_)
      · have b174 := zi_le b174 (rfl : p1.toInt = p1.toInt) (rfl : j168.toInt = j168.toInt)
        refine lv_aload_n hx hb dX12_moneyIn_18 rfl (lv_at hl 1 rfl) ?_
        refine zq_getr E hM k_h0 (zFX12_39 E hZ) ⟨by decide, by decide, by decide, rfl⟩ dX12_moneyIn_19 ?_
        have k175 : zq_k X (zq_r X h0 20) = 59 := zq_lk L.1 k_h0 rfl (by decide)
        refine lv_bipush (v := 10) hx hb dX12_moneyIn_22 (by decide +kernel) ?_
        refine zq_ian (n := 106) (j := 10) E hZ hM k175 ⟨by decide, rfl⟩ (by rw [zl_10]; decide) (by decide +kernel) dX12_moneyIn_24 (fun x176 ex176 gx176 => ?_)
        clear gx176
        refine lv_istore_n (lv' := [(2, .int x176), (0, .ref h0), (1, .int p1)]) hx hb dX12_moneyIn_25 rfl hl (by decide) rfl (fun ls hl => ?_)
        refine lv_aload_n hx hb dX12_moneyIn_26 rfl (lv_at hl 1 rfl) ?_
        refine zq_callv (zq_rV (As := []) (rest := []) E hZ hM k_h0 (c_X12_laysBack l X zk (zv171) I169 L h0 k_h0 (by omega)) zmX12_391 zM_X12_laysBack (hro (0) 2 (by first | decide | omega) (by decide)) ⟨by decide, by decide⟩ rfl hl.1 rfl rfl (Nat.le_of_ble_eq_true rfl) dX12_moneyIn_27) hS (fun I179 H locs h177 hM hS => ?_)
        have fr180 := h177
        have hR := zq_fr.call hR fr180 (zf_sub (by decide +kernel) (fun _ _ q => q.elim))
        have hWF181 := zWF.fr F170 L k_h0 fr180 (by decide)
        refine lv_iload_n hx hb dX12_moneyIn_30 rfl (lv_at hl 0 rfl) ?_
        subst hQ
        exact zq_iret E hr hZ hM hS hR hlocks dX12_moneyIn_31
      · have b174 := zi_nle b174 (rfl : p1.toInt = p1.toInt) (rfl : j168.toInt = j168.toInt)
        refine lv_aload_n hx hb dX12_moneyIn_7 rfl (lv_at hl 1 rfl) ?_
        refine zq_calli (zq_rV (As := []) (rest := []) E hZ hM k_h0 (c_X12_passes l X zk (zv171) I169 L h0 k_h0 (by omega) (F170) (by omega)) zmX12_363 zM_X12_passes (hro (4) 3 (by first | decide | omega) (by decide)) ⟨by decide, by decide⟩ rfl hl.1 rfl rfl (Nat.le_of_ble_eq_true rfl) dX12_moneyIn_8) hS (fun x183 I184 H locs h182 hM hS => ?_)
        have fr185 := h182
        have hR := zq_fr.call hR fr185 (zf_sub (by decide +kernel) (fun _ _ q => q.elim))
        have hWF186 := zWF.fr F170 L k_h0 fr185 (by decide)
        refine lv_pop hx hb dX12_moneyIn_11 rfl ?_
        obtain ⟨x187, ex187⟩ : ∃ y : Int32, y = j168 + 1 := ⟨_, rfl⟩
        have tx187 := zi_add ex187 (rfl : j168.toInt = j168.toInt) zl_1 ⟨by omega, by omega⟩
        refine lv_iinc (v := x187) (lv' := [(2, .int x187), (0, .ref h0), (1, .int p1)]) hx hb dX12_moneyIn_12 hl (k := 0) rfl (by rw [ex187]; rfl) (by decide) rfl (fun ls hl => ?_)
        refine lv_goto (tgt := 2) hx hb dX12_moneyIn_15 (by decide) ?_
        exact ih2 I184 H locs ls ((zv171 + 4)) x187 (by omega) hM hS hR (⟨by omega, by omega⟩) hWF186 (by have := zl_0; omega) (lv_sub hl [0, 1, 2] rfl)
  exact J2 (60 + 1 - (0 : Int32).toInt).toNat I H locs ls (zn) (0 : Int32) (by omega) hM hS hR (by rw [zl_0]; decide) q_1 (by have := zl_0; omega) (lv_sub hl [0, 1, 2] rfl)
def zw_X12_ahead : List (Nat × Nat) := [(10, 18), (59, 999), (61, 999)]
set_option maxHeartbeats 8000000 in
set_option maxRecDepth 100000 in
theorem c_X12_ahead (l : Launch) (X : zq_X) (zk zn : Nat) (I : zq_M) (L : zq_L X)  (h0 : Nat) (k_h0 : zq_k X h0 = 10) (p1 : Int32) (p2 : Int32) (p3 : Int32) (q_0 : zk ≤ 2900 ∧ zn ≤ 2900) (q_1 : zWF X I h0) (q_2 : zk ≤ 2200) : Met l yX12_ahead (zt_w yX12_ahead cX12_ahead 5 (some .int)) (zq_rm (5)) (va_Pc [.ref h0, .int p1, .int p2, .int p3] (zq_W X (zk, zk) I)) (va_Qi (fun (r : Int32) I2 => zq_fr (zf X zw_X12_ahead (fun _ => False)) I I2) (zq_E X (zk, zk)) (zq_A X)) 0 0 (zq_A X) := by
  refine Met.ofW (cc := cX12_ahead) (maxL := 5) (ret := (some .int)) (by decide) rfl ?_
  intro p e s m args below meth c s₁ B hml hv
  obtain ⟨hargs, hM, hZ⟩ := hv
  have hown : s.vm.findClass RX12 = some m.cls := findClass_of_methodNamed B.named
  have hts := atoms_spec (ws := zt_w yX12_ahead cX12_ahead 5 (some .int)) B.pre
  have E : CallFix p m c cX12_ahead 5 s args (Cond.code yX12_ahead cX12_ahead 5 (some .int) :: zt) RX12 := ⟨B.exec, B.bytes, hml, hown, hts⟩
  have hx := B.exec
  have hb := B.bytes
  have hr := B.returns
  have hlocks := B.notSynchronized
  clear B
  have hS : va_S (zq_A X) s.heap s.heap [] := va_S.rf
  have hR : zq_fr (zf X zw_X12_ahead (fun _ => False)) I I := zq_fr.rf
  have hl := lv_entry ([.ref h0, .int p1, .int p2, .int p3]) (n := 5) (by exact Nat.le_of_ble_eq_true rfl)
  have hg : entryFrame m args 5 = F0 m 0 ((lg_sl ([.ref h0, .int p1, .int p2, .int p3]) ++ List.replicate (5 - (lg_sl ([.ref h0, .int p1, .int p2, .int p3])).length) Slot.unset).toArray) [] := by rw [hargs]; exact lg_entry_eq m ([.ref h0, .int p1, .int p2, .int p3]) 5
  rw [hg]
  clear hg hargs
  generalize (lg_sl ([.ref h0, .int p1, .int p2, .int p3]) ++ List.replicate (5 - (lg_sl ([.ref h0, .int p1, .int p2, .int p3])).length) Slot.unset).toArray = ls at hl ⊢
  have hl : lv_has ls 5 [(0, .ref h0), (1, .int p1), (2, .int p2), (3, .int p3)] := by exact hl
  obtain ⟨R, hRm⟩ : ∃ R : Room, R = (headSpec (zt_w yX12_ahead cX12_ahead 5 (some .int)) (zq_rm (5))).room := ⟨_, rfl⟩
  rw [← hRm]
  have hro : ∀ d q : Nat, d + 1 ≤ 5 → q ≤ 45 → zq_rok d q R := fun d q h1 h2 => by rw [hRm]; exact zq_rokI h1 h2
  generalize hQ : MQ below _ args s 0 0 (zq_A X) = Q
  obtain ⟨H, hH⟩ : ∃ H, H = s.heap := ⟨_, rfl⟩
  obtain ⟨locs, hlo⟩ : ∃ x : List Loc, x = [] := ⟨_, rfl⟩
  rw [show W p l e R s m args below meth c s.heap [] 0 0 Q = W p l e R s m args below meth c H locs 0 0 Q by rw [hH, hlo]]
  have hM : zq_hm X (zk, zk) I H := by rw [hH]; exact hM
  have hS : va_S (zq_A X) s.heap H locs := by rw [hH, hlo]; exact hS
  clear hH hlo
  refine lv_aload_n hx hb dX12_ahead_0 rfl (lv_at hl 0 rfl) ?_
  refine zq_pcalli (zq_rV (As := []) (rest := []) E hZ hM k_h0 (c_X12_isTrade l X zk (zk) I L h0 k_h0 (by omega)) zmX12_357 zM_X12_isTrade (hro (0) 1 (by first | decide | omega) (by decide)) ⟨by decide, by decide⟩ rfl hl.1 rfl rfl (Nat.le_of_ble_eq_true rfl) dX12_ahead_1) hS (fun x102 H locs h101 hM hS => ?_)
  have p103 := h101
  refine lv_if_eq (tgt := 44) hx hb dX12_ahead_4 (by decide) (fun b104 => ?_) (fun b104 => ?_)
  · have b104 := zi_eq b104 (rfl : x102.toInt = x102.toInt) (zl_0 : (0 : Int32).toInt = 0)
    refine lv_iconst (v := (-1)) hx hb dX12_ahead_44 (by decide +kernel) ?_
    subst hQ
    exact zq_iret E hr hZ hM hS hR hlocks dX12_ahead_45
  · have b104 := zi_ne b104 (rfl : x102.toInt = x102.toInt) (zl_0 : (0 : Int32).toInt = 0)
    refine lv_iload_n hx hb dX12_ahead_7 rfl (lv_at hl 2 rfl) ?_
    refine lv_i2l hx hb dX12_ahead_8 rfl ?_
    refine lv_topl (fun y105 ey105 => ?_)
    have ty105 := zi_i2l ey105
    have := zi_rng p2
    refine lv_lconst (v := 0) hx hb dX12_ahead_9 (by decide +kernel) ?_
    refine W.ldc2 (v := 60) hx hb hown (hts _ (List.mem_cons_of_mem _ zCX12_384)) rfl dX12_ahead_10 ?_
    refine W.eq (g2 := F0 m 13 ls [.long (60 : Int64), .long (0 : Int64), .long y105]) rfl ?_
    refine zq_pcalli (zq_rS (As := [.long y105, .long (0 : Int64), .long (60 : Int64)]) (rest := []) E hZ hM (c_X12_in l X zk (zk) I L y105 (0 : Int64) (60 : Int64)) zmX12_112 zM_X12_in (hro (0) 6 (by first | decide | omega) (by decide)) hl.1 rfl rfl (Nat.le_of_ble_eq_true rfl) dX12_ahead_13) hS (fun x107 H locs h106 hM hS => ?_)
    obtain ⟨p108, p109⟩ := h106
    have : (0 : Int64).toInt = 0 := by decide +kernel
    have : (60 : Int64).toInt = 60 := by decide +kernel
    refine lv_if_eq (tgt := 44) hx hb dX12_ahead_16 (by decide) (fun b110 => ?_) (fun b110 => ?_)
    · have b110 := zi_eq b110 (rfl : x107.toInt = x107.toInt) (zl_0 : (0 : Int32).toInt = 0)
      refine lv_iconst (v := (-1)) hx hb dX12_ahead_44 (by decide +kernel) ?_
      subst hQ
      exact zq_iret E hr hZ hM hS hR hlocks dX12_ahead_45
    · have b110 := zi_ne b110 (rfl : x107.toInt = x107.toInt) (zl_0 : (0 : Int32).toInt = 0)
      refine lv_iload_n hx hb dX12_ahead_19 rfl (lv_at hl 3 rfl) ?_
      refine lv_i2l hx hb dX12_ahead_20 rfl ?_
      refine lv_topl (fun y111 ey111 => ?_)
      have ty111 := zi_i2l ey111
      have := zi_rng p3
      refine lv_lconst (v := 0) hx hb dX12_ahead_21 (by decide +kernel) ?_
      refine W.ldc2 (v := 3) hx hb hown (hts _ (List.mem_cons_of_mem _ zCX12_386)) rfl dX12_ahead_22 ?_
      refine W.eq (g2 := F0 m 25 ls [.long (3 : Int64), .long (0 : Int64), .long y111]) rfl ?_
      refine zq_pcalli (zq_rS (As := [.long y111, .long (0 : Int64), .long (3 : Int64)]) (rest := []) E hZ hM (c_X12_in l X zk (zk) I L y111 (0 : Int64) (3 : Int64)) zmX12_112 zM_X12_in (hro (0) 6 (by first | decide | omega) (by decide)) hl.1 rfl rfl (Nat.le_of_ble_eq_true rfl) dX12_ahead_25) hS (fun x113 H locs h112 hM hS => ?_)
      obtain ⟨p114, p115⟩ := h112
      have : (0 : Int64).toInt = 0 := by decide +kernel
      have : (3 : Int64).toInt = 3 := by decide +kernel
      refine lv_if_eq (tgt := 44) hx hb dX12_ahead_28 (by decide) (fun b116 => ?_) (fun b116 => ?_)
      · have b116 := zi_eq b116 (rfl : x113.toInt = x113.toInt) (zl_0 : (0 : Int32).toInt = 0)
        refine lv_iconst (v := (-1)) hx hb dX12_ahead_44 (by decide +kernel) ?_
        subst hQ
        exact zq_iret E hr hZ hM hS hR hlocks dX12_ahead_45
      · have b116 := zi_ne b116 (rfl : x113.toInt = x113.toInt) (zl_0 : (0 : Int32).toInt = 0)
        refine lv_iload_n hx hb dX12_ahead_31 rfl (lv_at hl 3 rfl) ?_
        refine lv_iconst (v := 1) hx hb dX12_ahead_32 (by decide +kernel) ?_
        have J46 : ∀ (H : Heap) (locs : List Loc) (ls : Array Slot), (zq_hm X (zk, zk) I H) → (va_S (zq_A X) s.heap H locs) → (p3.toInt < 2 ∨ (0 ≤ p1.toInt ∧ p1.toInt ≤ 3)) → (lv_has ls 5 [(0, .ref h0), (1, .int p1), (2, .int p2), (3, .int p3)]) → W p l e R s m args below meth c H locs 0 0 Q (F0 m 46 ls []) := by
          intro H locs ls hM hS hA9 hl
          refine lv_aload_n hx hb dX12_ahead_46 rfl (lv_at hl 0 rfl) ?_
          refine zq_callv (zq_rV (As := []) (rest := []) E hZ hM k_h0 (c_X12_keeps l X zk (zk) I L h0 k_h0 (by omega) (by omega)) zmX12_388 zM_X12_keeps (hro (0) 2 (by first | decide | omega) (by decide)) ⟨by decide, by decide⟩ rfl hl.1 rfl rfl (Nat.le_of_ble_eq_true rfl) dX12_ahead_47) hS (fun I257 H locs h255 hM hS => ?_)
          have fr258 := h255
          have hR := zq_fr.call hR fr258 (zf_sub (by decide +kernel) (fun _ _ q => q.elim))
          have hWF259 := zWF.fr q_1 L k_h0 fr258 (by decide)
          refine lv_iconst (v := 0) hx hb dX12_ahead_50 (by decide +kernel) ?_
          refine lv_istore (lv' := [(4, .int (0 : Int32)), (0, .ref h0), (1, .int p1), (2, .int p2), (3, .int p3)]) hx hb dX12_ahead_51 hl (by decide) rfl (fun ls hl => ?_)
          have J53 : ∀ (n367 : Nat) (I364 : zq_M) (H : Heap) (locs : List Loc) (ls : Array Slot) (zv366 : Nat) (j363 : Int32), 60 + 1 - j363.toInt ≤ ((n367 : Nat) : Int) → (zq_hm X (zk, zv366) I364 H) → (va_S (zq_A X) s.heap H locs) → (zq_fr (zf X zw_X12_ahead (fun _ => False)) I I364) → (0 ≤ j363.toInt ∧ j363.toInt ≤ 60) → (zWF X I364 h0) → (((zv366 : Nat) : Int) ≤ ((zk : Nat) : Int) + 4 * j363.toInt) → (lv_has ls 5 [(4, .int j363), (0, .ref h0), (1, .int p1), (2, .int p2), (3, .int p3)]) → W p l e R s m args below meth c H locs 0 0 Q (F0 m 53 ls []) := by
            intro n367
            induction n367 with
            | zero => intro I364 H locs ls zv366 j363 mu368 hM hS hR gj363 F365 hz9 hl; exfalso; have := zi_rng j363; omega
            | succ n367 ih53 =>
              intro I364 H locs ls zv366 j363 mu368 hM hS hR gj363 F365 hz9 hl
              refine lv_iload hx hb dX12_ahead_53 (lv_at hl 0 rfl) ?_
              refine lv_iload_n hx hb dX12_ahead_55 rfl (lv_at hl 3 rfl) ?_
              refine lv_icmp_ge (tgt := 70) hx hb dX12_ahead_56 (by decide) (fun b369 => ?_) (fun b369 => ?_)
              · have b369 := zi_le b369 (rfl : p2.toInt = p2.toInt) (rfl : j363.toInt = j363.toInt)
                refine lv_iload_n hx hb dX12_ahead_70 rfl (lv_at hl 4 rfl) ?_
                have J114 : ∀ (H : Heap) (locs : List Loc) (ls : Array Slot) (j380 : Int32), (zq_hm X (zk, zv366) I364 H) → (va_S (zq_A X) s.heap H locs) → (lv_has ls 5 [(4, .int j363), (0, .ref h0), (1, .int p1), (2, .int p2), (3, .int p3)]) → W p l e R s m args below meth c H locs 0 0 Q (F0 m 114 ls [.int j380]) := by
                  intro H locs ls j380 hM hS hl
                  refine lv_istore (lv' := [(4, .int j380), (0, .ref h0), (1, .int p1), (2, .int p2), (3, .int p3)]) hx hb dX12_ahead_114 hl (by decide) rfl (fun ls hl => ?_)
                  refine lv_aload_n hx hb dX12_ahead_116 rfl (lv_at hl 1 rfl) ?_
                  refine zq_callv (zq_rV (As := []) (rest := []) E hZ hM k_h0 (c_X12_laysBack l X zk (zv366) I364 L h0 k_h0 (by omega)) zmX12_391 zM_X12_laysBack (hro (0) 2 (by first | decide | omega) (by decide)) ⟨by decide, by decide⟩ rfl hl.1 rfl rfl (Nat.le_of_ble_eq_true rfl) dX12_ahead_117) hS (fun I388 H locs h386 hM hS => ?_)
                  have fr389 := h386
                  have hR := zq_fr.call hR fr389 (zf_sub (by decide +kernel) (fun _ _ q => q.elim))
                  have hWF390 := zWF.fr F365 L k_h0 fr389 (by decide)
                  refine lv_iload hx hb dX12_ahead_120 (lv_at hl 0 rfl) ?_
                  subst hQ
                  exact zq_iret E hr hZ hM hS hR hlocks dX12_ahead_122
                refine lv_if_ne (tgt := 84) hx hb dX12_ahead_71 (by decide) (fun b391 => ?_) (fun b391 => ?_)
                · have b391 := zi_ne b391 (rfl : p3.toInt = p3.toInt) (zl_0 : (0 : Int32).toInt = 0)
                  refine lv_iload_n hx hb dX12_ahead_84 rfl (lv_at hl 4 rfl) ?_
                  refine lv_iconst (v := 1) hx hb dX12_ahead_85 (by decide +kernel) ?_
                  refine lv_icmp_ne (tgt := 99) hx hb dX12_ahead_86 (by decide) (fun b392 => ?_) (fun b392 => ?_)
                  · have b392 := zi_ne b392 (rfl : p3.toInt = p3.toInt) (zl_1 : (1 : Int32).toInt = 1)
                    refine lv_aload_n hx hb dX12_ahead_99 rfl (lv_at hl 1 rfl) ?_
                    refine lv_iload_n hx hb dX12_ahead_100 rfl (lv_at hl 2 rfl) ?_
                    refine lv_iload_n hx hb dX12_ahead_101 rfl (lv_at hl 4 rfl) ?_
                    refine lv_iconst (v := 2) hx hb dX12_ahead_102 (by decide +kernel) ?_
                    have J111 : ∀ (ls : Array Slot) (j393 : Int32), (0 ≤ j393.toInt ∧ j393.toInt ≤ 2) → (lv_has ls 5 [(4, .int j363), (0, .ref h0), (1, .int p1), (2, .int p2), (3, .int p3)]) → W p l e R s m args below meth c H locs 0 0 Q (F0 m 111 ls [.int j393, .int p1, .ref h0]) := by
                      intro ls j393 gj393 hl
                      refine zq_pcalli (zq_rV (As := [.int p1, .int j393]) (rest := []) E hZ hM k_h0 (c_X12_townOf l X zk (zv366) I364 L h0 k_h0 p1 j393 ⟨by omega, by omega⟩ ⟨by omega, by omega⟩ (by omega)) zmX12_308 zM_X12_townOf (hro (0) 3 (by first | decide | omega) (by decide)) ⟨by decide, by decide⟩ rfl hl.1 rfl rfl (Nat.le_of_ble_eq_true rfl) dX12_ahead_111) hS (fun x400 H locs h399 hM hS => ?_)
                      obtain ⟨p401, p402, p403⟩ := h399
                      exact J114 H locs ls x400 hM hS (lv_sub hl [0, 1, 2, 3, 4] rfl)
                    refine lv_icmp_ne (tgt := 110) hx hb dX12_ahead_103 (by decide) (fun b404 => ?_) (fun b404 => ?_)
                    · have b404 := zi_ne b404 (rfl : p3.toInt = p3.toInt) (zl_2 : (2 : Int32).toInt = 2)
                      refine lv_iconst (v := 0) hx hb dX12_ahead_110 (by decide +kernel) ?_
                      exact J111 ls (0 : Int32) (by rw [zl_0]; decide) (lv_sub hl [0, 1, 2, 3, 4] rfl)
                    · have b404 := zi_eq b404 (rfl : p3.toInt = p3.toInt) (zl_2 : (2 : Int32).toInt = 2)
                      refine lv_iconst (v := 2) hx hb dX12_ahead_106 (by decide +kernel) ?_
                      refine lv_goto (tgt := 111) hx hb dX12_ahead_107 (by decide) ?_
                      exact J111 ls (2 : Int32) (by rw [zl_2]; decide) (lv_sub hl [0, 1, 2, 3, 4] rfl)
                  · have b392 := zi_eq b392 (rfl : p3.toInt = p3.toInt) (zl_1 : (1 : Int32).toInt = 1)
                    refine lv_aload_n hx hb dX12_ahead_89 rfl (lv_at hl 1 rfl) ?_
                    refine zq_getr E hM k_h0 (zFX12_39 E hZ) ⟨by decide, by decide, by decide, rfl⟩ dX12_ahead_90 ?_
                    have k405 : zq_k X (zq_r X h0 20) = 59 := zq_lk L.1 k_h0 rfl (by decide)
                    refine lv_bipush (v := 11) hx hb dX12_ahead_93 (by decide +kernel) ?_
                    refine zq_ian (n := 106) (j := 11) E hZ hM k405 ⟨by decide, rfl⟩ (by rw [zl_11]; decide) (by decide +kernel) dX12_ahead_95 (fun x406 ex406 gx406 => ?_)
                    replace gx406 : 0 ≤ x406.toInt ∧ x406.toInt ≤ 999 := gx406
                    refine lv_goto (tgt := 114) hx hb dX12_ahead_96 (by decide) ?_
                    exact J114 H locs ls x406 hM hS (lv_sub hl [0, 1, 2, 3, 4] rfl)
                · have b391 := zi_eq b391 (rfl : p3.toInt = p3.toInt) (zl_0 : (0 : Int32).toInt = 0)
                  refine lv_aload_n hx hb dX12_ahead_74 rfl (lv_at hl 1 rfl) ?_
                  refine zq_getr E hM k_h0 (zFX12_39 E hZ) ⟨by decide, by decide, by decide, rfl⟩ dX12_ahead_75 ?_
                  have k407 : zq_k X (zq_r X h0 20) = 59 := zq_lk L.1 k_h0 rfl (by decide)
                  refine lv_bipush (v := 10) hx hb dX12_ahead_78 (by decide +kernel) ?_
                  refine zq_ian (n := 106) (j := 10) E hZ hM k407 ⟨by decide, rfl⟩ (by rw [zl_10]; decide) (by decide +kernel) dX12_ahead_80 (fun x408 ex408 gx408 => ?_)
                  clear gx408
                  refine lv_goto (tgt := 114) hx hb dX12_ahead_81 (by decide) ?_
                  exact J114 H locs ls x408 hM hS (lv_sub hl [0, 1, 2, 3, 4] rfl)
              · have b369 := zi_nle b369 (rfl : p2.toInt = p2.toInt) (rfl : j363.toInt = j363.toInt)
                refine lv_aload_n hx hb dX12_ahead_59 rfl (lv_at hl 1 rfl) ?_
                refine zq_calli (zq_rV (As := []) (rest := []) E hZ hM k_h0 (c_X12_passes l X zk (zv366) I364 L h0 k_h0 (by omega) (F365) (by omega)) zmX12_363 zM_X12_passes (hro (4) 3 (by first | decide | omega) (by decide)) ⟨by decide, by decide⟩ rfl hl.1 rfl rfl (Nat.le_of_ble_eq_true rfl) dX12_ahead_60) hS (fun x410 I411 H locs h409 hM hS => ?_)
                have fr412 := h409
                have hR := zq_fr.call hR fr412 (zf_sub (by decide +kernel) (fun _ _ q => q.elim))
                have hWF413 := zWF.fr F365 L k_h0 fr412 (by decide)
                refine lv_pop hx hb dX12_ahead_63 rfl ?_
                obtain ⟨x414, ex414⟩ : ∃ y : Int32, y = j363 + 1 := ⟨_, rfl⟩
                have tx414 := zi_add ex414 (rfl : j363.toInt = j363.toInt) zl_1 ⟨by omega, by omega⟩
                refine lv_iinc (v := x414) (lv' := [(4, .int x414), (0, .ref h0), (1, .int p1), (2, .int p2), (3, .int p3)]) hx hb dX12_ahead_64 hl (k := 0) rfl (by rw [ex414]; rfl) (by decide) rfl (fun ls hl => ?_)
                refine lv_goto (tgt := 53) hx hb dX12_ahead_67 (by decide) ?_
                exact ih53 I411 H locs ls ((zv366 + 4)) x414 (by omega) hM hS hR (⟨by omega, by omega⟩) hWF413 (by have := zl_0; omega) (lv_sub hl [0, 1, 2, 3, 4] rfl)
          exact J53 (60 + 1 - (0 : Int32).toInt).toNat I257 H locs ls (zk) (0 : Int32) (by omega) hM hS hR (by rw [zl_0]; decide) hWF259 (by have := zl_0; omega) (lv_sub hl [0, 1, 2, 3, 4] rfl)
        refine lv_icmp_le (tgt := 46) hx hb dX12_ahead_33 (by decide) (fun b415 => ?_) (fun b415 => ?_)
        · have b415 := zi_le b415 (rfl : p3.toInt = p3.toInt) (zl_1 : (1 : Int32).toInt = 1)
          exact J46 H locs ls hM hS (by omega) (lv_sub hl [0, 1, 2, 3] rfl)
        · have b415 := zi_nle b415 (rfl : p3.toInt = p3.toInt) (zl_1 : (1 : Int32).toInt = 1)
          refine lv_aload_n hx hb dX12_ahead_36 rfl (lv_at hl 0 rfl) ?_
          refine lv_iload_n hx hb dX12_ahead_37 rfl (lv_at hl 1 rfl) ?_
          refine zq_pcalli (zq_rV (As := [.int p1]) (rest := []) E hZ hM k_h0 (c_X12_isTown l X zk (zk) I L h0 k_h0 p1 (by have := zi_rng p1; omega)) zmX12_299 zM_X12_isTown (hro (0) 2 (by first | decide | omega) (by decide)) ⟨by decide, by decide⟩ rfl hl.1 rfl rfl (Nat.le_of_ble_eq_true rfl) dX12_ahead_38) hS (fun x417 H locs h416 hM hS => ?_)
          obtain ⟨p418, p419⟩ := h416
          refine lv_if_ne (tgt := 46) hx hb dX12_ahead_41 (by decide) (fun b420 => ?_) (fun b420 => ?_)
          · have b420 := zi_ne b420 (rfl : x417.toInt = x417.toInt) (zl_0 : (0 : Int32).toInt = 0)
            exact J46 H locs ls hM hS (by omega) (lv_sub hl [0, 1, 2, 3] rfl)
          · have b420 := zi_eq b420 (rfl : x417.toInt = x417.toInt) (zl_0 : (0 : Int32).toInt = 0)
            refine lv_iconst (v := (-1)) hx hb dX12_ahead_44 (by decide +kernel) ?_
            subst hQ
            exact zq_iret E hr hZ hM hS hR hlocks dX12_ahead_45
def zw_X12_site : List (Nat × Nat) := [(10, 18), (59, 999), (61, 999)]
set_option maxHeartbeats 8000000 in
set_option maxRecDepth 100000 in
theorem c_X12_site (l : Launch) (X : zq_X) (zk zn : Nat) (I : zq_M) (L : zq_L X)  (h0 : Nat) (k_h0 : zq_k X h0 = 10) (p1 : Int32) (p2 : Int32) (q_0 : zk ≤ 2900 ∧ zn ≤ 2900) (q_1 : zWF X I h0) (q_2 : zk ≤ 2200) : Met l yX12_site (zt_w yX12_site cX12_site 7 (some .int)) (zq_rm (6)) (va_Pc [.ref h0, .int p1, .int p2] (zq_W X (zk, zk) I)) (va_Qi (fun (r : Int32) I2 => zq_fr (zf X zw_X12_site (fun _ => False)) I I2) (zq_E X (zk, zk)) (zq_A X)) 0 0 (zq_A X) := by
  refine Met.ofW (cc := cX12_site) (maxL := 7) (ret := (some .int)) (by decide) rfl ?_
  intro p e s m args below meth c s₁ B hml hv
  obtain ⟨hargs, hM, hZ⟩ := hv
  have hown : s.vm.findClass RX12 = some m.cls := findClass_of_methodNamed B.named
  have hts := atoms_spec (ws := zt_w yX12_site cX12_site 7 (some .int)) B.pre
  have E : CallFix p m c cX12_site 7 s args (Cond.code yX12_site cX12_site 7 (some .int) :: zt) RX12 := ⟨B.exec, B.bytes, hml, hown, hts⟩
  have hx := B.exec
  have hb := B.bytes
  have hr := B.returns
  have hlocks := B.notSynchronized
  clear B
  have hS : va_S (zq_A X) s.heap s.heap [] := va_S.rf
  have hR : zq_fr (zf X zw_X12_site (fun _ => False)) I I := zq_fr.rf
  have hl := lv_entry ([.ref h0, .int p1, .int p2]) (n := 7) (by exact Nat.le_of_ble_eq_true rfl)
  have hg : entryFrame m args 7 = F0 m 0 ((lg_sl ([.ref h0, .int p1, .int p2]) ++ List.replicate (7 - (lg_sl ([.ref h0, .int p1, .int p2])).length) Slot.unset).toArray) [] := by rw [hargs]; exact lg_entry_eq m ([.ref h0, .int p1, .int p2]) 7
  rw [hg]
  clear hg hargs
  generalize (lg_sl ([.ref h0, .int p1, .int p2]) ++ List.replicate (7 - (lg_sl ([.ref h0, .int p1, .int p2])).length) Slot.unset).toArray = ls at hl ⊢
  have hl : lv_has ls 7 [(0, .ref h0), (1, .int p1), (2, .int p2)] := by exact hl
  obtain ⟨R, hRm⟩ : ∃ R : Room, R = (headSpec (zt_w yX12_site cX12_site 7 (some .int)) (zq_rm (6))).room := ⟨_, rfl⟩
  rw [← hRm]
  have hro : ∀ d q : Nat, d + 1 ≤ 6 → q ≤ 45 → zq_rok d q R := fun d q h1 h2 => by rw [hRm]; exact zq_rokI h1 h2
  generalize hQ : MQ below _ args s 0 0 (zq_A X) = Q
  obtain ⟨H, hH⟩ : ∃ H, H = s.heap := ⟨_, rfl⟩
  obtain ⟨locs, hlo⟩ : ∃ x : List Loc, x = [] := ⟨_, rfl⟩
  rw [show W p l e R s m args below meth c s.heap [] 0 0 Q = W p l e R s m args below meth c H locs 0 0 Q by rw [hH, hlo]]
  have hM : zq_hm X (zk, zk) I H := by rw [hH]; exact hM
  have hS : va_S (zq_A X) s.heap H locs := by rw [hH, hlo]; exact hS
  clear hH hlo
  refine lv_aload_n hx hb dX12_site_0 rfl (lv_at hl 0 rfl) ?_
  refine zq_pcalli (zq_rV (As := []) (rest := []) E hZ hM k_h0 (c_X12_isTrade l X zk (zk) I L h0 k_h0 (by omega)) zmX12_357 zM_X12_isTrade (hro (0) 1 (by first | decide | omega) (by decide)) ⟨by decide, by decide⟩ rfl hl.1 rfl rfl (Nat.le_of_ble_eq_true rfl) dX12_site_1) hS (fun x102 H locs h101 hM hS => ?_)
  have p103 := h101
  refine lv_if_eq (tgt := 29) hx hb dX12_site_4 (by decide) (fun b104 => ?_) (fun b104 => ?_)
  · have b104 := zi_eq b104 (rfl : x102.toInt = x102.toInt) (zl_0 : (0 : Int32).toInt = 0)
    refine lv_bipush (v := (-2)) hx hb dX12_site_29 (by decide +kernel) ?_
    subst hQ
    exact zq_iret E hr hZ hM hS hR hlocks dX12_site_31
  · have b104 := zi_ne b104 (rfl : x102.toInt = x102.toInt) (zl_0 : (0 : Int32).toInt = 0)
    refine lv_iload_n hx hb dX12_site_7 rfl (lv_at hl 1 rfl) ?_
    refine lv_i2l hx hb dX12_site_8 rfl ?_
    refine lv_topl (fun y105 ey105 => ?_)
    have ty105 := zi_i2l ey105
    have := zi_rng p1
    refine lv_lconst (v := 1) hx hb dX12_site_9 (by decide +kernel) ?_
    refine W.ldc2 (v := 24) hx hb hown (hts _ (List.mem_cons_of_mem _ zCX12_399)) rfl dX12_site_10 ?_
    refine W.eq (g2 := F0 m 13 ls [.long (24 : Int64), .long (1 : Int64), .long y105]) rfl ?_
    refine zq_pcalli (zq_rS (As := [.long y105, .long (1 : Int64), .long (24 : Int64)]) (rest := []) E hZ hM (c_X12_in l X zk (zk) I L y105 (1 : Int64) (24 : Int64)) zmX12_112 zM_X12_in (hro (0) 6 (by first | decide | omega) (by decide)) hl.1 rfl rfl (Nat.le_of_ble_eq_true rfl) dX12_site_13) hS (fun x107 H locs h106 hM hS => ?_)
    obtain ⟨p108, p109⟩ := h106
    have : (1 : Int64).toInt = 1 := by decide +kernel
    have : (24 : Int64).toInt = 24 := by decide +kernel
    refine lv_if_eq (tgt := 29) hx hb dX12_site_16 (by decide) (fun b110 => ?_) (fun b110 => ?_)
    · have b110 := zi_eq b110 (rfl : x107.toInt = x107.toInt) (zl_0 : (0 : Int32).toInt = 0)
      refine lv_bipush (v := (-2)) hx hb dX12_site_29 (by decide +kernel) ?_
      subst hQ
      exact zq_iret E hr hZ hM hS hR hlocks dX12_site_31
    · have b110 := zi_ne b110 (rfl : x107.toInt = x107.toInt) (zl_0 : (0 : Int32).toInt = 0)
      refine lv_iload_n hx hb dX12_site_19 rfl (lv_at hl 2 rfl) ?_
      refine lv_i2l hx hb dX12_site_20 rfl ?_
      refine lv_topl (fun y111 ey111 => ?_)
      have ty111 := zi_i2l ey111
      have := zi_rng p2
      refine lv_lconst (v := 0) hx hb dX12_site_21 (by decide +kernel) ?_
      refine lv_lconst (v := 1) hx hb dX12_site_22 (by decide +kernel) ?_
      refine zq_pcalli (zq_rS (As := [.long y111, .long (0 : Int64), .long (1 : Int64)]) (rest := []) E hZ hM (c_X12_in l X zk (zk) I L y111 (0 : Int64) (1 : Int64)) zmX12_112 zM_X12_in (hro (0) 6 (by first | decide | omega) (by decide)) hl.1 rfl rfl (Nat.le_of_ble_eq_true rfl) dX12_site_23) hS (fun x113 H locs h112 hM hS => ?_)
      obtain ⟨p114, p115⟩ := h112
      have : (0 : Int64).toInt = 0 := by decide +kernel
      have : (1 : Int64).toInt = 1 := by decide +kernel
      refine lv_if_ne (tgt := 32) hx hb dX12_site_26 (by decide) (fun b116 => ?_) (fun b116 => ?_)
      · have b116 := zi_ne b116 (rfl : x113.toInt = x113.toInt) (zl_0 : (0 : Int32).toInt = 0)
        refine lv_aload_n hx hb dX12_site_32 rfl (lv_at hl 0 rfl) ?_
        refine zq_callv (zq_rV (As := []) (rest := []) E hZ hM k_h0 (c_X12_keeps l X zk (zk) I L h0 k_h0 (by omega) (by omega)) zmX12_388 zM_X12_keeps (hro (0) 2 (by first | decide | omega) (by decide)) ⟨by decide, by decide⟩ rfl hl.1 rfl rfl (Nat.le_of_ble_eq_true rfl) dX12_site_33) hS (fun I119 H locs h117 hM hS => ?_)
        have fr120 := h117
        have hR := zq_fr.call hR fr120 (zf_sub (by decide +kernel) (fun _ _ q => q.elim))
        have hWF121 := zWF.fr q_1 L k_h0 fr120 (by decide)
        refine lv_iconst (v := (-1)) hx hb dX12_site_36 (by decide +kernel) ?_
        refine lv_istore_n (lv' := [(3, .int (-1 : Int32)), (0, .ref h0), (1, .int p1), (2, .int p2)]) hx hb dX12_site_37 rfl hl (by decide) rfl (fun ls hl => ?_)
        refine lv_aload_n hx hb dX12_site_38 rfl (lv_at hl 1 rfl) ?_
        refine lv_iload_n hx hb dX12_site_39 rfl (lv_at hl 2 rfl) ?_
        refine zq_calli (zq_rV (As := [.int p1]) (rest := []) E hZ hM k_h0 (c_X12_moneyIn l X zk (zk) I119 L h0 k_h0 p1 ⟨by omega, by omega⟩ (by omega) (hWF121) (by omega)) zmX12_401 zM_X12_moneyIn (hro (5) 3 (by first | decide | omega) (by decide)) ⟨by decide, by decide⟩ rfl hl.1 rfl rfl (Nat.le_of_ble_eq_true rfl) dX12_site_40) hS (fun x123 I124 H locs h122 hM hS => ?_)
        have fr125 := h122
        have hR := zq_fr.call hR fr125 (zf_sub (by decide +kernel) (fun _ _ q => q.elim))
        have hWF126 := zWF.fr hWF121 L k_h0 fr125 (by decide)
        refine lv_istore (lv' := [(4, .int x123), (3, .int (-1 : Int32)), (0, .ref h0), (1, .int p1), (2, .int p2)]) hx hb dX12_site_43 hl (by decide) rfl (fun ls hl => ?_)
        refine lv_iconst (v := 0) hx hb dX12_site_45 (by decide +kernel) ?_
        refine W.eq (g2 := F0 m 46 ls [.int (0 : Int32)]) rfl ?_
        refine lv_istore (lv' := [(5, .int (0 : Int32)), (4, .int x123), (3, .int (-1 : Int32)), (0, .ref h0), (1, .int p1), (2, .int p2)]) hx hb dX12_site_46 hl (by decide) rfl (fun ls hl => ?_)
        have J48 : ∀ (n232 : Nat) (I230 : zq_M) (H : Heap) (locs : List Loc) (ls : Array Slot) (j227 : Int32) (j228 : Int32) (j229 : Int32), 4 + 1 - j227.toInt ≤ ((n232 : Nat) : Int) → (zq_hm X (zk, zk) I230 H) → (va_S (zq_A X) s.heap H locs) → (zq_fr (zf X zw_X12_site (fun _ => False)) I I230) → (0 ≤ j227.toInt ∧ j227.toInt ≤ 4) → ((-1) ≤ j229.toInt ∧ j229.toInt ≤ 3) → (zWF X I230 h0) → (lv_has ls 7 [(5, .int j227), (4, .int j228), (3, .int j229), (0, .ref h0), (1, .int p1), (2, .int p2)]) → W p l e R s m args below meth c H locs 0 0 Q (F0 m 48 ls []) := by
          intro n232
          induction n232 with
          | zero => intro I230 H locs ls j227 j228 j229 mu233 hM hS hR gj227 gj229 F231 hl; exfalso; have := zi_rng j227; omega
          | succ n232 ih48 =>
            intro I230 H locs ls j227 j228 j229 mu233 hM hS hR gj227 gj229 F231 hl
            refine lv_iload hx hb dX12_site_48 (lv_at hl 0 rfl) ?_
            refine lv_aload_n hx hb dX12_site_50 rfl (lv_at hl 3 rfl) ?_
            refine zq_getr E hM k_h0 (zFX12_39 E hZ) ⟨by decide, by decide, by decide, rfl⟩ dX12_site_51 ?_
            have k234 : zq_k X (zq_r X h0 20) = 59 := zq_lk L.1 k_h0 rfl (by decide)
            refine lv_iconst (v := 3) hx hb dX12_site_54 (by decide +kernel) ?_
            refine zq_ian (n := 106) (j := 3) E hZ hM k234 ⟨by decide, rfl⟩ (by rw [zl_3]; decide) (by decide +kernel) dX12_site_55 (fun x235 ex235 gx235 => ?_)
            replace gx235 : 0 ≤ x235.toInt ∧ x235.toInt ≤ 4 := gx235
            refine lv_icmp_ge (tgt := 107) hx hb dX12_site_56 (by decide) (fun b236 => ?_) (fun b236 => ?_)
            · have b236 := zi_le b236 (rfl : x235.toInt = x235.toInt) (rfl : j227.toInt = j227.toInt)
              refine lv_iload_n hx hb dX12_site_107 rfl (lv_at hl 5 rfl) ?_
              refine lv_if_ne (tgt := 116) hx hb dX12_site_108 (by decide) (fun b237 => ?_) (fun b237 => ?_)
              · have b237 := zi_ne b237 (rfl : p2.toInt = p2.toInt) (zl_0 : (0 : Int32).toInt = 0)
                refine lv_iload_n hx hb dX12_site_116 rfl (lv_at hl 2 rfl) ?_
                subst hQ
                exact zq_iret E hr hZ hM hS hR hlocks dX12_site_117
              · have b237 := zi_eq b237 (rfl : p2.toInt = p2.toInt) (zl_0 : (0 : Int32).toInt = 0)
                refine lv_iload hx hb dX12_site_111 (lv_at hl 1 rfl) ?_
                refine lv_goto (tgt := 117) hx hb dX12_site_113 (by decide) ?_
                subst hQ
                exact zq_iret E hr hZ hM hS hR hlocks dX12_site_117
            · have b236 := zi_nle b236 (rfl : x235.toInt = x235.toInt) (rfl : j227.toInt = j227.toInt)
              refine lv_aload_n hx hb dX12_site_59 rfl (lv_at hl 3 rfl) ?_
              refine lv_iload hx hb dX12_site_60 (lv_at hl 0 rfl) ?_
              refine zq_pcalli (zq_rV (As := [.int j227]) (rest := []) E hZ hM k_h0 (c_X12_canBuild l X zk (zk) I230 L h0 k_h0 j227 ⟨by omega, by omega⟩ (by omega)) zmX12_375 zM_X12_canBuild (hro (1) 2 (by first | decide | omega) (by decide)) ⟨by decide, by decide⟩ rfl hl.1 rfl rfl (Nat.le_of_ble_eq_true rfl) dX12_site_62) hS (fun x239 H locs h238 hM hS => ?_)
              have p240 := h238
              have J101 : ∀ (I253 : zq_M) (H : Heap) (locs : List Loc) (ls : Array Slot) (j251 : Int32) (j252 : Int32), (zq_hm X (zk, zk) I253 H) → (va_S (zq_A X) s.heap H locs) → (zq_fr (zf X zw_X12_site (fun _ => False)) I I253) → ((-1) ≤ j252.toInt ∧ j252.toInt ≤ 3) → (zWF X I253 h0) → (lv_has ls 7 [(4, .int j251), (3, .int j252), (5, .int j227), (0, .ref h0), (1, .int p1), (2, .int p2)]) → W p l e R s m args below meth c H locs 0 0 Q (F0 m 101 ls []) := by
                intro I253 H locs ls j251 j252 hM hS hR gj252 F254 hl
                obtain ⟨x256, ex256⟩ : ∃ y : Int32, y = j227 + 1 := ⟨_, rfl⟩
                have tx256 := zi_add ex256 (rfl : j227.toInt = j227.toInt) zl_1 ⟨by omega, by omega⟩
                refine lv_iinc (v := x256) (lv' := [(5, .int x256), (4, .int j251), (3, .int j252), (0, .ref h0), (1, .int p1), (2, .int p2)]) hx hb dX12_site_101 hl (k := 2) rfl (by rw [ex256]; rfl) (by decide) rfl (fun ls hl => ?_)
                refine lv_goto (tgt := 48) hx hb dX12_site_104 (by decide) ?_
                exact ih48 I253 H locs ls x256 j251 j252 (by omega) hM hS hR (⟨by omega, by omega⟩) (⟨by omega, by omega⟩) F254 (lv_sub hl [0, 1, 2, 3, 4, 5] rfl)
              refine lv_if_ne (tgt := 71) hx hb dX12_site_65 (by decide) (fun b257 => ?_) (fun b257 => ?_)
              · have b257 := zi_ne b257 (rfl : x239.toInt = x239.toInt) (zl_0 : (0 : Int32).toInt = 0)
                refine lv_aload_n hx hb dX12_site_71 rfl (lv_at hl 3 rfl) ?_
                refine lv_iload hx hb dX12_site_72 (lv_at hl 0 rfl) ?_
                refine zq_callv (zq_rV (As := [.int j227]) (rest := []) E hZ hM k_h0 (c_X12_builds l X zk (zk) I230 L h0 k_h0 j227 ⟨by omega, by omega⟩ (by omega)) zmX12_378 zM_X12_builds (hro (0) 2 (by first | decide | omega) (by decide)) ⟨by decide, by decide⟩ rfl hl.1 rfl rfl (Nat.le_of_ble_eq_true rfl) dX12_site_74) hS (fun I260 H locs h258 hM hS => ?_)
                have fr261 := h258
                have hR := zq_fr.call hR fr261 (zf_sub (by decide +kernel) (fun _ _ q => q.elim))
                have hWF262 := zWF.fr F231 L k_h0 fr261 (by decide)
                refine lv_aload_n hx hb dX12_site_77 rfl (lv_at hl 3 rfl) ?_
                refine lv_iload_n hx hb dX12_site_78 rfl (lv_at hl 4 rfl) ?_
                refine zq_calli (zq_rV (As := [.int p1]) (rest := []) E hZ hM k_h0 (c_X12_moneyIn l X zk (zk) I260 L h0 k_h0 p1 ⟨by omega, by omega⟩ (by omega) (hWF262) (by omega)) zmX12_401 zM_X12_moneyIn (hro (5) 3 (by first | decide | omega) (by decide)) ⟨by decide, by decide⟩ rfl hl.1 rfl rfl (Nat.le_of_ble_eq_true rfl) dX12_site_79) hS (fun x264 I265 H locs h263 hM hS => ?_)
                have fr266 := h263
                have hR := zq_fr.call hR fr266 (zf_sub (by decide +kernel) (fun _ _ q => q.elim))
                have hWF267 := zWF.fr hWF262 L k_h0 fr266 (by decide)
                refine lv_istore (lv' := [(6, .int x264), (5, .int j227), (4, .int j228), (3, .int j229), (0, .ref h0), (1, .int p1), (2, .int p2)]) hx hb dX12_site_82 hl (by decide) rfl (fun ls hl => ?_)
                refine lv_iload hx hb dX12_site_84 (lv_at hl 0 rfl) ?_
                refine lv_iload hx hb dX12_site_86 (lv_at hl 2 rfl) ?_
                refine W.eq (g2 := F0 m 88 ls [.int j228, .int x264]) rfl ?_
                refine lv_icmp_gt (tgt := 94) hx hb dX12_site_88 (by decide) (fun b268 => ?_) (fun b268 => ?_)
                · have b268 := zi_lt b268 (rfl : j228.toInt = j228.toInt) (rfl : x264.toInt = x264.toInt)
                  refine lv_iload hx hb dX12_site_94 (lv_at hl 1 rfl) ?_
                  refine lv_istore_n (lv' := [(3, .int j227), (6, .int x264), (5, .int j227), (4, .int j228), (0, .ref h0), (1, .int p1), (2, .int p2)]) hx hb dX12_site_96 rfl hl (by decide) rfl (fun ls hl => ?_)
                  refine lv_iload hx hb dX12_site_97 (lv_at hl 1 rfl) ?_
                  refine lv_istore (lv' := [(4, .int x264), (3, .int j227), (6, .int x264), (5, .int j227), (0, .ref h0), (1, .int p1), (2, .int p2)]) hx hb dX12_site_99 hl (by decide) rfl (fun ls hl => ?_)
                  exact J101 I265 H locs ls x264 j227 hM hS hR (⟨by omega, by omega⟩) hWF267 (lv_sub hl [0, 1, 3, 4, 5, 6] rfl)
                · have b268 := zi_nlt b268 (rfl : j228.toInt = j228.toInt) (rfl : x264.toInt = x264.toInt)
                  refine lv_goto (tgt := 101) hx hb dX12_site_91 (by decide) ?_
                  exact J101 I265 H locs ls j228 j229 hM hS hR (⟨by omega, by omega⟩) hWF267 (lv_sub hl [2, 3, 1, 4, 5, 6] rfl)
              · have b257 := zi_eq b257 (rfl : x239.toInt = x239.toInt) (zl_0 : (0 : Int32).toInt = 0)
                refine lv_goto (tgt := 101) hx hb dX12_site_68 (by decide) ?_
                exact J101 I230 H locs ls j228 j229 hM hS hR (⟨by omega, by omega⟩) F231 (lv_sub hl [1, 2, 0, 3, 4, 5] rfl)
        exact J48 (4 + 1 - (0 : Int32).toInt).toNat I124 H locs ls (0 : Int32) x123 (-1 : Int32) (by omega) hM hS hR (by rw [zl_0]; decide) (by rw [zl_m1]; decide) hWF126 (lv_sub hl [0, 1, 2, 3, 4, 5] rfl)
      · have b116 := zi_eq b116 (rfl : x113.toInt = x113.toInt) (zl_0 : (0 : Int32).toInt = 0)
        refine lv_bipush (v := (-2)) hx hb dX12_site_29 (by decide +kernel) ?_
        subst hQ
        exact zq_iret E hr hZ hM hS hR hlocks dX12_site_31
def zw_X12_pricing : List (Nat × Nat) := [(10, 18), (59, 999), (61, 999)]
set_option maxHeartbeats 8000000 in
set_option maxRecDepth 100000 in
theorem c_X12_pricing (l : Launch) (X : zq_X) (zk zn : Nat) (I : zq_M) (L : zq_L X)  (h0 : Nat) (k_h0 : zq_k X h0 = 10) (p1 : Int32) (p2 : Int32) (p3 : Int32) (q_0 : zk ≤ 2900 ∧ zn ≤ 2900) (q_1 : zWF X I h0) (q_2 : zk ≤ 2200) : Met l yX12_pricing (zt_w yX12_pricing cX12_pricing 8 (some .int)) (zq_rm (6)) (va_Pc [.ref h0, .int p1, .int p2, .int p3] (zq_W X (zk, zk) I)) (va_Qi (fun (r : Int32) I2 => zq_fr (zf X zw_X12_pricing (fun _ => False)) I I2 ∧ ((-1) ≤ r.toInt)) (zq_E X (zk, zk)) (zq_A X)) 0 0 (zq_A X) := by
  refine Met.ofW (cc := cX12_pricing) (maxL := 8) (ret := (some .int)) (by decide) rfl ?_
  intro p e s m args below meth c s₁ B hml hv
  obtain ⟨hargs, hM, hZ⟩ := hv
  have hown : s.vm.findClass RX12 = some m.cls := findClass_of_methodNamed B.named
  have hts := atoms_spec (ws := zt_w yX12_pricing cX12_pricing 8 (some .int)) B.pre
  have E : CallFix p m c cX12_pricing 8 s args (Cond.code yX12_pricing cX12_pricing 8 (some .int) :: zt) RX12 := ⟨B.exec, B.bytes, hml, hown, hts⟩
  have hx := B.exec
  have hb := B.bytes
  have hr := B.returns
  have hlocks := B.notSynchronized
  clear B
  have hS : va_S (zq_A X) s.heap s.heap [] := va_S.rf
  have hR : zq_fr (zf X zw_X12_pricing (fun _ => False)) I I := zq_fr.rf
  have hl := lv_entry ([.ref h0, .int p1, .int p2, .int p3]) (n := 8) (by exact Nat.le_of_ble_eq_true rfl)
  have hg : entryFrame m args 8 = F0 m 0 ((lg_sl ([.ref h0, .int p1, .int p2, .int p3]) ++ List.replicate (8 - (lg_sl ([.ref h0, .int p1, .int p2, .int p3])).length) Slot.unset).toArray) [] := by rw [hargs]; exact lg_entry_eq m ([.ref h0, .int p1, .int p2, .int p3]) 8
  rw [hg]
  clear hg hargs
  generalize (lg_sl ([.ref h0, .int p1, .int p2, .int p3]) ++ List.replicate (8 - (lg_sl ([.ref h0, .int p1, .int p2, .int p3])).length) Slot.unset).toArray = ls at hl ⊢
  have hl : lv_has ls 8 [(0, .ref h0), (1, .int p1), (2, .int p2), (3, .int p3)] := by exact hl
  obtain ⟨R, hRm⟩ : ∃ R : Room, R = (headSpec (zt_w yX12_pricing cX12_pricing 8 (some .int)) (zq_rm (6))).room := ⟨_, rfl⟩
  rw [← hRm]
  have hro : ∀ d q : Nat, d + 1 ≤ 6 → q ≤ 45 → zq_rok d q R := fun d q h1 h2 => by rw [hRm]; exact zq_rokI h1 h2
  generalize hQ : MQ below _ args s 0 0 (zq_A X) = Q
  obtain ⟨H, hH⟩ : ∃ H, H = s.heap := ⟨_, rfl⟩
  obtain ⟨locs, hlo⟩ : ∃ x : List Loc, x = [] := ⟨_, rfl⟩
  rw [show W p l e R s m args below meth c s.heap [] 0 0 Q = W p l e R s m args below meth c H locs 0 0 Q by rw [hH, hlo]]
  have hM : zq_hm X (zk, zk) I H := by rw [hH]; exact hM
  have hS : va_S (zq_A X) s.heap H locs := by rw [hH, hlo]; exact hS
  clear hH hlo
  refine lv_aload_n hx hb dX12_pricing_0 rfl (lv_at hl 0 rfl) ?_
  refine lv_iload_n hx hb dX12_pricing_1 rfl (lv_at hl 1 rfl) ?_
  refine zq_pcalli (zq_rV (As := [.int p1]) (rest := []) E hZ hM k_h0 (c_X12_isTown l X zk (zk) I L h0 k_h0 p1 (by have := zi_rng p1; omega)) zmX12_299 zM_X12_isTown (hro (0) 2 (by first | decide | omega) (by decide)) ⟨by decide, by decide⟩ rfl hl.1 rfl rfl (Nat.le_of_ble_eq_true rfl) dX12_pricing_2) hS (fun x102 H locs h101 hM hS => ?_)
  obtain ⟨p103, p104⟩ := h101
  refine lv_if_eq (tgt := 30) hx hb dX12_pricing_5 (by decide) (fun b105 => ?_) (fun b105 => ?_)
  · have b105 := zi_eq b105 (rfl : x102.toInt = x102.toInt) (zl_0 : (0 : Int32).toInt = 0)
    refine lv_iconst (v := (-1)) hx hb dX12_pricing_30 (by decide +kernel) ?_
    subst hQ
    exact zq_iret E hr hZ hM hS ⟨hR, (by have := zl_m1; omega)⟩ hlocks dX12_pricing_31
  · have b105 := zi_ne b105 (rfl : x102.toInt = x102.toInt) (zl_0 : (0 : Int32).toInt = 0)
    refine lv_iload_n hx hb dX12_pricing_8 rfl (lv_at hl 2 rfl) ?_
    refine lv_i2l hx hb dX12_pricing_9 rfl ?_
    refine lv_topl (fun y106 ey106 => ?_)
    have ty106 := zi_i2l ey106
    have := zi_rng p2
    refine lv_lconst (v := 1) hx hb dX12_pricing_10 (by decide +kernel) ?_
    refine W.ldc2 (v := 24) hx hb hown (hts _ (List.mem_cons_of_mem _ zCX12_399)) rfl dX12_pricing_11 ?_
    refine W.eq (g2 := F0 m 14 ls [.long (24 : Int64), .long (1 : Int64), .long y106]) rfl ?_
    refine zq_pcalli (zq_rS (As := [.long y106, .long (1 : Int64), .long (24 : Int64)]) (rest := []) E hZ hM (c_X12_in l X zk (zk) I L y106 (1 : Int64) (24 : Int64)) zmX12_112 zM_X12_in (hro (0) 6 (by first | decide | omega) (by decide)) hl.1 rfl rfl (Nat.le_of_ble_eq_true rfl) dX12_pricing_14) hS (fun x108 H locs h107 hM hS => ?_)
    obtain ⟨p109, p110⟩ := h107
    have : (1 : Int64).toInt = 1 := by decide +kernel
    have : (24 : Int64).toInt = 24 := by decide +kernel
    refine lv_if_eq (tgt := 30) hx hb dX12_pricing_17 (by decide) (fun b111 => ?_) (fun b111 => ?_)
    · have b111 := zi_eq b111 (rfl : x108.toInt = x108.toInt) (zl_0 : (0 : Int32).toInt = 0)
      refine lv_iconst (v := (-1)) hx hb dX12_pricing_30 (by decide +kernel) ?_
      subst hQ
      exact zq_iret E hr hZ hM hS ⟨hR, (by have := zl_m1; omega)⟩ hlocks dX12_pricing_31
    · have b111 := zi_ne b111 (rfl : x108.toInt = x108.toInt) (zl_0 : (0 : Int32).toInt = 0)
      refine lv_iload_n hx hb dX12_pricing_20 rfl (lv_at hl 3 rfl) ?_
      refine lv_i2l hx hb dX12_pricing_21 rfl ?_
      refine lv_topl (fun y112 ey112 => ?_)
      have ty112 := zi_i2l ey112
      have := zi_rng p3
      refine lv_lconst (v := 0) hx hb dX12_pricing_22 (by decide +kernel) ?_
      refine lv_lconst (v := 1) hx hb dX12_pricing_23 (by decide +kernel) ?_
      refine zq_pcalli (zq_rS (As := [.long y112, .long (0 : Int64), .long (1 : Int64)]) (rest := []) E hZ hM (c_X12_in l X zk (zk) I L y112 (0 : Int64) (1 : Int64)) zmX12_112 zM_X12_in (hro (0) 6 (by first | decide | omega) (by decide)) hl.1 rfl rfl (Nat.le_of_ble_eq_true rfl) dX12_pricing_24) hS (fun x114 H locs h113 hM hS => ?_)
      obtain ⟨p115, p116⟩ := h113
      have : (0 : Int64).toInt = 0 := by decide +kernel
      have : (1 : Int64).toInt = 1 := by decide +kernel
      refine lv_if_ne (tgt := 32) hx hb dX12_pricing_27 (by decide) (fun b117 => ?_) (fun b117 => ?_)
      · have b117 := zi_ne b117 (rfl : x114.toInt = x114.toInt) (zl_0 : (0 : Int32).toInt = 0)
        refine lv_aload_n hx hb dX12_pricing_32 rfl (lv_at hl 0 rfl) ?_
        refine zq_callv (zq_rV (As := []) (rest := []) E hZ hM k_h0 (c_X12_keeps l X zk (zk) I L h0 k_h0 (by omega) (by omega)) zmX12_388 zM_X12_keeps (hro (0) 2 (by first | decide | omega) (by decide)) ⟨by decide, by decide⟩ rfl hl.1 rfl rfl (Nat.le_of_ble_eq_true rfl) dX12_pricing_33) hS (fun I120 H locs h118 hM hS => ?_)
        have fr121 := h118
        have hR := zq_fr.call hR fr121 (zf_sub (by decide +kernel) (fun _ _ q => q.elim))
        have hWF122 := zWF.fr q_1 L k_h0 fr121 (by decide)
        refine lv_iconst (v := 0) hx hb dX12_pricing_36 (by decide +kernel) ?_
        refine lv_istore (lv' := [(4, .int (0 : Int32)), (0, .ref h0), (1, .int p1), (2, .int p2), (3, .int p3)]) hx hb dX12_pricing_37 hl (by decide) rfl (fun ls hl => ?_)
        refine lv_iconst (v := (-1)) hx hb dX12_pricing_39 (by decide +kernel) ?_
        refine lv_istore (lv' := [(5, .int (-1 : Int32)), (4, .int (0 : Int32)), (0, .ref h0), (1, .int p1), (2, .int p2), (3, .int p3)]) hx hb dX12_pricing_40 hl (by decide) rfl (fun ls hl => ?_)
        refine lv_iconst (v := 1) hx hb dX12_pricing_42 (by decide +kernel) ?_
        refine lv_istore (lv' := [(6, .int (1 : Int32)), (5, .int (-1 : Int32)), (4, .int (0 : Int32)), (0, .ref h0), (1, .int p1), (2, .int p2), (3, .int p3)]) hx hb dX12_pricing_43 hl (by decide) rfl (fun ls hl => ?_)
        have J45 : ∀ (n228 : Nat) (I226 : zq_M) (H : Heap) (locs : List Loc) (ls : Array Slot) (j223 : Int32) (j224 : Int32) (j225 : Int32), 100 + 1 - j223.toInt ≤ ((n228 : Nat) : Int) → (zq_hm X (zk, zk) I226 H) → (va_S (zq_A X) s.heap H locs) → (zq_fr (zf X zw_X12_pricing (fun _ => False)) I I226) → (1 ≤ j223.toInt ∧ j223.toInt ≤ 100) → ((-1) ≤ j224.toInt) → (0 ≤ j225.toInt ∧ j225.toInt ≤ 99) → (zWF X I226 h0) → (lv_has ls 8 [(6, .int j223), (5, .int j224), (4, .int j225), (0, .ref h0), (1, .int p1), (2, .int p2), (3, .int p3)]) → W p l e R s m args below meth c H locs 0 0 Q (F0 m 45 ls []) := by
          intro n228
          induction n228 with
          | zero => intro I226 H locs ls j223 j224 j225 mu229 hM hS hR gj223 gj224 gj225 F227 hl; exfalso; have := zi_rng j223; omega
          | succ n228 ih45 =>
            intro I226 H locs ls j223 j224 j225 mu229 hM hS hR gj223 gj224 gj225 F227 hl
            have := zi_rng j224
            refine lv_iload hx hb dX12_pricing_45 (lv_at hl 0 rfl) ?_
            refine lv_bipush (v := 99) hx hb dX12_pricing_47 (by decide +kernel) ?_
            refine lv_icmp_gt (tgt := 101) hx hb dX12_pricing_49 (by decide) (fun b230 => ?_) (fun b230 => ?_)
            · have b230 := zi_lt b230 (zl_99 : (99 : Int32).toInt = 99) (rfl : j223.toInt = j223.toInt)
              refine lv_iload_n hx hb dX12_pricing_101 rfl (lv_at hl 6 rfl) ?_
              refine lv_if_ne (tgt := 110) hx hb dX12_pricing_102 (by decide) (fun b231 => ?_) (fun b231 => ?_)
              · have b231 := zi_ne b231 (rfl : p3.toInt = p3.toInt) (zl_0 : (0 : Int32).toInt = 0)
                refine lv_iload hx hb dX12_pricing_110 (lv_at hl 2 rfl) ?_
                subst hQ
                exact zq_iret E hr hZ hM hS ⟨hR, (by omega)⟩ hlocks dX12_pricing_112
              · have b231 := zi_eq b231 (rfl : p3.toInt = p3.toInt) (zl_0 : (0 : Int32).toInt = 0)
                refine lv_iload hx hb dX12_pricing_105 (lv_at hl 1 rfl) ?_
                refine lv_goto (tgt := 112) hx hb dX12_pricing_107 (by decide) ?_
                subst hQ
                exact zq_iret E hr hZ hM hS ⟨hR, (by have := zi_rng j224; omega)⟩ hlocks dX12_pricing_112
            · have b230 := zi_nlt b230 (zl_99 : (99 : Int32).toInt = 99) (rfl : j223.toInt = j223.toInt)
              refine lv_iload hx hb dX12_pricing_52 (lv_at hl 0 rfl) ?_
              refine lv_aload_n hx hb dX12_pricing_54 rfl (lv_at hl 3 rfl) ?_
              refine lv_iload_n hx hb dX12_pricing_55 rfl (lv_at hl 4 rfl) ?_
              refine lv_iconst (v := 1) hx hb dX12_pricing_56 (by decide +kernel) ?_
              refine zq_pcalli (zq_rV (As := [.int p1, .int (1 : Int32)]) (rest := [.int j223]) E hZ hM k_h0 (c_X12_townOf l X zk (zk) I226 L h0 k_h0 p1 (1 : Int32) ⟨by omega, by omega⟩ (by rw [zl_1]; decide) (by have := zl_1; omega)) zmX12_308 zM_X12_townOf (hro (0) 3 (by first | decide | omega) (by decide)) ⟨by decide, by decide⟩ rfl hl.1 rfl rfl (Nat.le_of_ble_eq_true rfl) dX12_pricing_57) hS (fun x233 H locs h232 hM hS => ?_)
              obtain ⟨p234, p235, p236⟩ := h232
              have := zl_1
              have J70 : ∀ (I242 : zq_M) (H : Heap) (locs : List Loc) (ls : Array Slot), (zq_hm X (zk, zk) I242 H) → (va_S (zq_A X) s.heap H locs) → (zq_fr (zf X zw_X12_pricing (fun _ => False)) I I242) → (zWF X I242 h0) → (lv_has ls 8 [(6, .int j223), (5, .int j224), (4, .int j225), (0, .ref h0), (1, .int p1), (2, .int p2), (3, .int p3)]) → W p l e R s m args below meth c H locs 0 0 Q (F0 m 70 ls []) := by
                intro I242 H locs ls hM hS hR F243 hl
                refine lv_aload_n hx hb dX12_pricing_70 rfl (lv_at hl 3 rfl) ?_
                refine lv_iload_n hx hb dX12_pricing_71 rfl (lv_at hl 5 rfl) ?_
                refine zq_calli (zq_rV (As := [.int p2]) (rest := []) E hZ hM k_h0 (c_X12_moneyIn l X zk (zk) I242 L h0 k_h0 p2 ⟨by omega, by omega⟩ (by omega) (F243) (by omega)) zmX12_401 zM_X12_moneyIn (hro (5) 3 (by first | decide | omega) (by decide)) ⟨by decide, by decide⟩ rfl hl.1 rfl rfl (Nat.le_of_ble_eq_true rfl) dX12_pricing_72) hS (fun x253 I254 H locs h252 hM hS => ?_)
                have fr255 := h252
                have hR := zq_fr.call hR fr255 (zf_sub (by decide +kernel) (fun _ _ q => q.elim))
                have hWF256 := zWF.fr F243 L k_h0 fr255 (by decide)
                refine lv_istore (lv' := [(7, .int x253), (6, .int j223), (5, .int j224), (4, .int j225), (0, .ref h0), (1, .int p1), (2, .int p2), (3, .int p3)]) hx hb dX12_pricing_75 hl (by decide) rfl (fun ls hl => ?_)
                refine lv_iload hx hb dX12_pricing_77 (lv_at hl 0 rfl) ?_
                refine lv_iload hx hb dX12_pricing_79 (lv_at hl 2 rfl) ?_
                have J95 : ∀ (ls : Array Slot) (j257 : Int32) (j258 : Int32), ((-1) ≤ j257.toInt) → (0 ≤ j258.toInt ∧ j258.toInt ≤ 99) → (lv_has ls 8 [(5, .int j257), (4, .int j258), (7, .int x253), (6, .int j223), (0, .ref h0), (1, .int p1), (2, .int p2), (3, .int p3)]) → W p l e R s m args below meth c H locs 0 0 Q (F0 m 95 ls []) := by
                  intro ls j257 j258 gj257 gj258 hl
                  have := zi_rng j257
                  obtain ⟨x260, ex260⟩ : ∃ y : Int32, y = j223 + 1 := ⟨_, rfl⟩
                  have tx260 := zi_add ex260 (rfl : j223.toInt = j223.toInt) zl_1 ⟨by omega, by omega⟩
                  refine lv_iinc (v := x260) (lv' := [(6, .int x260), (5, .int j257), (4, .int j258), (7, .int x253), (0, .ref h0), (1, .int p1), (2, .int p2), (3, .int p3)]) hx hb dX12_pricing_95 hl (k := 3) rfl (by rw [ex260]; rfl) (by decide) rfl (fun ls hl => ?_)
                  refine lv_goto (tgt := 45) hx hb dX12_pricing_98 (by decide) ?_
                  exact ih45 I254 H locs ls x260 j257 j258 (by omega) hM hS hR (⟨by omega, by omega⟩) (by have := zi_rng j257; omega) (⟨by omega, by omega⟩) hWF256 (lv_sub hl [0, 1, 2, 4, 5, 6, 7] rfl)
                refine lv_icmp_gt (tgt := 87) hx hb dX12_pricing_81 (by decide) (fun b261 => ?_) (fun b261 => ?_)
                · have b261 := zi_lt b261 (rfl : j224.toInt = j224.toInt) (rfl : x253.toInt = x253.toInt)
                  refine lv_iload hx hb dX12_pricing_87 (lv_at hl 1 rfl) ?_
                  refine lv_istore (lv' := [(4, .int j223), (7, .int x253), (6, .int j223), (5, .int j224), (0, .ref h0), (1, .int p1), (2, .int p2), (3, .int p3)]) hx hb dX12_pricing_89 hl (by decide) rfl (fun ls hl => ?_)
                  refine lv_iload hx hb dX12_pricing_91 (lv_at hl 1 rfl) ?_
                  refine lv_istore (lv' := [(5, .int x253), (4, .int j223), (7, .int x253), (6, .int j223), (0, .ref h0), (1, .int p1), (2, .int p2), (3, .int p3)]) hx hb dX12_pricing_93 hl (by decide) rfl (fun ls hl => ?_)
                  exact J95 ls x253 j223 (by have := zi_rng x253; omega) (⟨by omega, by omega⟩) (lv_sub hl [0, 1, 2, 3, 4, 5, 6, 7] rfl)
                · have b261 := zi_nlt b261 (rfl : j224.toInt = j224.toInt) (rfl : x253.toInt = x253.toInt)
                  refine lv_goto (tgt := 95) hx hb dX12_pricing_84 (by decide) ?_
                  exact J95 ls j224 j225 (by have := zi_rng j224; omega) (⟨by omega, by omega⟩) (lv_sub hl [2, 3, 0, 1, 4, 5, 6, 7] rfl)
              refine lv_icmp_eq (tgt := 70) hx hb dX12_pricing_60 (by decide) (fun b262 => ?_) (fun b262 => ?_)
              · have b262 := zi_eq b262 (rfl : j223.toInt = j223.toInt) (rfl : x233.toInt = x233.toInt)
                exact J70 I226 H locs ls hM hS hR F227 (lv_sub hl [0, 1, 2, 3, 4, 5, 6] rfl)
              · have b262 := zi_ne b262 (rfl : j223.toInt = j223.toInt) (rfl : x233.toInt = x233.toInt)
                refine lv_aload_n hx hb dX12_pricing_63 rfl (lv_at hl 3 rfl) ?_
                refine lv_iload_n hx hb dX12_pricing_64 rfl (lv_at hl 4 rfl) ?_
                refine lv_iload hx hb dX12_pricing_65 (lv_at hl 0 rfl) ?_
                refine zq_callv (zq_rV (As := [.int p1, .int j223]) (rest := []) E hZ hM k_h0 (c_X12_asks l X zk (zk) I226 L h0 k_h0 p1 j223 ⟨by omega, by omega⟩ ⟨by omega, by omega⟩ (by omega)) zmX12_381 zM_X12_asks (hro (1) 3 (by first | decide | omega) (by decide)) ⟨by decide, by decide⟩ rfl hl.1 rfl rfl (Nat.le_of_ble_eq_true rfl) dX12_pricing_67) hS (fun I265 H locs h263 hM hS => ?_)
                have fr266 := h263
                have hR := zq_fr.call hR fr266 (zf_sub (by decide +kernel) (fun _ _ q => q.elim))
                have hWF267 := zWF.fr F227 L k_h0 fr266 (by decide)
                exact J70 I265 H locs ls hM hS hR hWF267 (lv_sub hl [0, 1, 2, 3, 4, 5, 6] rfl)
        exact J45 (100 + 1 - (1 : Int32).toInt).toNat I120 H locs ls (1 : Int32) (-1 : Int32) (0 : Int32) (by omega) hM hS hR (by rw [zl_1]; decide) (by rw [zl_m1]; decide) (by rw [zl_0]; decide) hWF122 (lv_sub hl [0, 1, 2, 3, 4, 5, 6] rfl)
      · have b117 := zi_eq b117 (rfl : x114.toInt = x114.toInt) (zl_0 : (0 : Int32).toInt = 0)
        refine lv_iconst (v := (-1)) hx hb dX12_pricing_30 (by decide +kernel) ?_
        subst hQ
        exact zq_iret E hr hZ hM hS ⟨hR, (by have := zl_m1; omega)⟩ hlocks dX12_pricing_31
def zw_X12_out : List (Nat × Nat) := [(10, 18), (59, 999), (61, 999)]
set_option maxHeartbeats 8000000 in
set_option maxRecDepth 100000 in
theorem c_X12_out (l : Launch) (X : zq_X) (zk zn : Nat) (I : zq_M) (L : zq_L X)  (h0 : Nat) (k_h0 : zq_k X h0 = 10) (q_0 : zk ≤ 2900 ∧ zn ≤ 2900) (q_1 : zWF X I h0) (q_2 : zk ≤ 2200) : Met l yX12_out (zt_w yX12_out cX12_out 3 (some .int)) (zq_rm (5)) (va_Pc [.ref h0] (zq_W X (zk, zk) I)) (va_Qi (fun (r : Int32) I2 => zq_fr (zf X zw_X12_out (fun _ => False)) I I2 ∧ ((-2) ≤ r.toInt ∧ r.toInt ≤ 3000)) (zq_E X (zk, zk)) (zq_A X)) 0 0 (zq_A X) := by
  refine Met.ofW (cc := cX12_out) (maxL := 3) (ret := (some .int)) (by decide) rfl ?_
  intro p e s m args below meth c s₁ B hml hv
  obtain ⟨hargs, hM, hZ⟩ := hv
  have hown : s.vm.findClass RX12 = some m.cls := findClass_of_methodNamed B.named
  have hts := atoms_spec (ws := zt_w yX12_out cX12_out 3 (some .int)) B.pre
  have E : CallFix p m c cX12_out 3 s args (Cond.code yX12_out cX12_out 3 (some .int) :: zt) RX12 := ⟨B.exec, B.bytes, hml, hown, hts⟩
  have hx := B.exec
  have hb := B.bytes
  have hr := B.returns
  have hlocks := B.notSynchronized
  clear B
  have hS : va_S (zq_A X) s.heap s.heap [] := va_S.rf
  have hR : zq_fr (zf X zw_X12_out (fun _ => False)) I I := zq_fr.rf
  have hl := lv_entry ([.ref h0]) (n := 3) (by exact Nat.le_of_ble_eq_true rfl)
  have hg : entryFrame m args 3 = F0 m 0 ((lg_sl ([.ref h0]) ++ List.replicate (3 - (lg_sl ([.ref h0])).length) Slot.unset).toArray) [] := by rw [hargs]; exact lg_entry_eq m ([.ref h0]) 3
  rw [hg]
  clear hg hargs
  generalize (lg_sl ([.ref h0]) ++ List.replicate (3 - (lg_sl ([.ref h0])).length) Slot.unset).toArray = ls at hl ⊢
  have hl : lv_has ls 3 [(0, .ref h0)] := by exact hl
  obtain ⟨R, hRm⟩ : ∃ R : Room, R = (headSpec (zt_w yX12_out cX12_out 3 (some .int)) (zq_rm (5))).room := ⟨_, rfl⟩
  rw [← hRm]
  have hro : ∀ d q : Nat, d + 1 ≤ 5 → q ≤ 45 → zq_rok d q R := fun d q h1 h2 => by rw [hRm]; exact zq_rokI h1 h2
  generalize hQ : MQ below _ args s 0 0 (zq_A X) = Q
  obtain ⟨H, hH⟩ : ∃ H, H = s.heap := ⟨_, rfl⟩
  obtain ⟨locs, hlo⟩ : ∃ x : List Loc, x = [] := ⟨_, rfl⟩
  rw [show W p l e R s m args below meth c s.heap [] 0 0 Q = W p l e R s m args below meth c H locs 0 0 Q by rw [hH, hlo]]
  have hM : zq_hm X (zk, zk) I H := by rw [hH]; exact hM
  have hS : va_S (zq_A X) s.heap H locs := by rw [hH, hlo]; exact hS
  clear hH hlo
  refine lv_aload_n hx hb dX12_out_0 rfl (lv_at hl 0 rfl) ?_
  refine zq_pcalli (zq_rV (As := []) (rest := []) E hZ hM k_h0 (c_X12_isTrade l X zk (zk) I L h0 k_h0 (by omega)) zmX12_357 zM_X12_isTrade (hro (0) 1 (by first | decide | omega) (by decide)) ⟨by decide, by decide⟩ rfl hl.1 rfl rfl (Nat.le_of_ble_eq_true rfl) dX12_out_1) hS (fun x102 H locs h101 hM hS => ?_)
  have p103 := h101
  refine lv_if_ne (tgt := 9) hx hb dX12_out_4 (by decide) (fun b104 => ?_) (fun b104 => ?_)
  · have b104 := zi_ne b104 (rfl : x102.toInt = x102.toInt) (zl_0 : (0 : Int32).toInt = 0)
    refine lv_bipush (v := (-2)) hx hb dX12_out_9 (by decide +kernel) ?_
    refine lv_istore_n (lv' := [(1, .int (-2 : Int32)), (0, .ref h0)]) hx hb dX12_out_11 rfl hl (by decide) rfl (fun ls hl => ?_)
    refine lv_aload_n hx hb dX12_out_12 rfl (lv_at hl 1 rfl) ?_
    refine zq_callv (zq_rV (As := []) (rest := []) E hZ hM k_h0 (c_X12_keeps l X zk (zk) I L h0 k_h0 (by omega) (by omega)) zmX12_388 zM_X12_keeps (hro (0) 2 (by first | decide | omega) (by decide)) ⟨by decide, by decide⟩ rfl hl.1 rfl rfl (Nat.le_of_ble_eq_true rfl) dX12_out_13) hS (fun I107 H locs h105 hM hS => ?_)
    have fr108 := h105
    have hR := zq_fr.call hR fr108 (zf_sub (by decide +kernel) (fun _ _ q => q.elim))
    have hWF109 := zWF.fr q_1 L k_h0 fr108 (by decide)
    refine lv_iconst (v := 0) hx hb dX12_out_16 (by decide +kernel) ?_
    refine lv_istore_n (lv' := [(2, .int (0 : Int32)), (1, .int (-2 : Int32)), (0, .ref h0)]) hx hb dX12_out_17 rfl hl (by decide) rfl (fun ls hl => ?_)
    have J18 : ∀ (n197 : Nat) (I194 : zq_M) (H : Heap) (locs : List Loc) (ls : Array Slot) (zv196 : Nat) (j192 : Int32) (j193 : Int32), 60 + 1 - j192.toInt ≤ ((n197 : Nat) : Int) → (zq_hm X (zk, zv196) I194 H) → (va_S (zq_A X) s.heap H locs) → (zq_fr (zf X zw_X12_out (fun _ => False)) I I194) → (0 ≤ j192.toInt ∧ j192.toInt ≤ 60) → ((-2) ≤ j193.toInt ∧ j193.toInt ≤ 3000) → (zWF X I194 h0) → (((zv196 : Nat) : Int) ≤ ((zk : Nat) : Int) + 4 * j192.toInt) → (lv_has ls 3 [(2, .int j192), (1, .int j193), (0, .ref h0)]) → W p l e R s m args below meth c H locs 0 0 Q (F0 m 18 ls []) := by
      intro n197
      induction n197 with
      | zero => intro I194 H locs ls zv196 j192 j193 mu198 hM hS hR gj192 gj193 F195 hz9 hl; exfalso; have := zi_rng j192; omega
      | succ n197 ih18 =>
        intro I194 H locs ls zv196 j192 j193 mu198 hM hS hR gj192 gj193 F195 hz9 hl
        refine lv_iload_n hx hb dX12_out_18 rfl (lv_at hl 0 rfl) ?_
        refine lv_bipush (v := 60) hx hb dX12_out_19 (by decide +kernel) ?_
        have J54 : ∀ (ls : Array Slot), (lv_has ls 3 [(2, .int j192), (1, .int j193), (0, .ref h0)]) → W p l e R s m args below meth c H locs 0 0 Q (F0 m 54 ls []) := by
          intro ls hl
          refine lv_aload_n hx hb dX12_out_54 rfl (lv_at hl 2 rfl) ?_
          refine zq_callv (zq_rV (As := []) (rest := []) E hZ hM k_h0 (c_X12_laysBack l X zk (zv196) I194 L h0 k_h0 (by omega)) zmX12_391 zM_X12_laysBack (hro (0) 2 (by first | decide | omega) (by decide)) ⟨by decide, by decide⟩ rfl hl.1 rfl rfl (Nat.le_of_ble_eq_true rfl) dX12_out_55) hS (fun I218 H locs h216 hM hS => ?_)
          have fr219 := h216
          have hR := zq_fr.call hR fr219 (zf_sub (by decide +kernel) (fun _ _ q => q.elim))
          have hWF220 := zWF.fr F195 L k_h0 fr219 (by decide)
          refine lv_iload_n hx hb dX12_out_58 rfl (lv_at hl 1 rfl) ?_
          subst hQ
          exact zq_iret E hr hZ hM hS ⟨hR, (by omega)⟩ hlocks dX12_out_59
        refine lv_icmp_ge (tgt := 54) hx hb dX12_out_21 (by decide) (fun b221 => ?_) (fun b221 => ?_)
        · have b221 := zi_le b221 (zl_60 : (60 : Int32).toInt = 60) (rfl : j192.toInt = j192.toInt)
          exact J54 ls (lv_sub hl [0, 1, 2] rfl)
        · have b221 := zi_nle b221 (zl_60 : (60 : Int32).toInt = 60) (rfl : j192.toInt = j192.toInt)
          refine lv_iload_n hx hb dX12_out_24 rfl (lv_at hl 1 rfl) ?_
          refine lv_if_ge (tgt := 54) hx hb dX12_out_25 (by decide) (fun b222 => ?_) (fun b222 => ?_)
          · have b222 := zi_le b222 (zl_0 : (0 : Int32).toInt = 0) (rfl : j193.toInt = j193.toInt)
            exact J54 ls (lv_sub hl [0, 1, 2] rfl)
          · have b222 := zi_nle b222 (zl_0 : (0 : Int32).toInt = 0) (rfl : j193.toInt = j193.toInt)
            refine lv_aload_n hx hb dX12_out_28 rfl (lv_at hl 2 rfl) ?_
            refine zq_pcalli (zq_rV (As := []) (rest := []) E hZ hM k_h0 (c_X12_isOut l X zk (zv196) I194 L h0 k_h0 (by omega)) zmX12_425 zM_X12_isOut (hro (3) 2 (by first | decide | omega) (by decide)) ⟨by decide, by decide⟩ rfl hl.1 rfl rfl (Nat.le_of_ble_eq_true rfl) dX12_out_29) hS (fun x224 H locs h223 hM hS => ?_)
            have p225 := h223
            have J43 : ∀ (ls : Array Slot) (j228 : Int32), ((-2) ≤ j228.toInt ∧ j228.toInt ≤ 3000) → (lv_has ls 3 [(2, .int j192), (1, .int j228), (0, .ref h0)]) → W p l e R s m args below meth c H locs 0 0 Q (F0 m 43 ls []) := by
              intro ls j228 gj228 hl
              refine lv_aload_n hx hb dX12_out_43 rfl (lv_at hl 2 rfl) ?_
              refine zq_calli (zq_rV (As := []) (rest := []) E hZ hM k_h0 (c_X12_passes l X zk (zv196) I194 L h0 k_h0 (by omega) (F195) (by omega)) zmX12_363 zM_X12_passes (hro (4) 3 (by first | decide | omega) (by decide)) ⟨by decide, by decide⟩ rfl hl.1 rfl rfl (Nat.le_of_ble_eq_true rfl) dX12_out_44) hS (fun x236 I237 H locs h235 hM hS => ?_)
              have fr238 := h235
              have hR := zq_fr.call hR fr238 (zf_sub (by decide +kernel) (fun _ _ q => q.elim))
              have hWF239 := zWF.fr F195 L k_h0 fr238 (by decide)
              refine lv_pop hx hb dX12_out_47 rfl ?_
              obtain ⟨x240, ex240⟩ : ∃ y : Int32, y = j192 + 1 := ⟨_, rfl⟩
              have tx240 := zi_add ex240 (rfl : j192.toInt = j192.toInt) zl_1 ⟨by omega, by omega⟩
              refine lv_iinc (v := x240) (lv' := [(2, .int x240), (1, .int j228), (0, .ref h0)]) hx hb dX12_out_48 hl (k := 0) rfl (by rw [ex240]; rfl) (by decide) rfl (fun ls hl => ?_)
              refine lv_goto (tgt := 18) hx hb dX12_out_51 (by decide) ?_
              exact ih18 I237 H locs ls ((zv196 + 4)) x240 j228 (by omega) hM hS hR (⟨by omega, by omega⟩) (⟨by omega, by omega⟩) hWF239 (by have := zl_0; omega) (lv_sub hl [0, 1, 2] rfl)
            refine lv_if_eq (tgt := 43) hx hb dX12_out_32 (by decide) (fun b241 => ?_) (fun b241 => ?_)
            · have b241 := zi_eq b241 (rfl : x224.toInt = x224.toInt) (zl_0 : (0 : Int32).toInt = 0)
              exact J43 ls j193 (⟨by omega, by omega⟩) (lv_sub hl [0, 1, 2] rfl)
            · have b241 := zi_ne b241 (rfl : x224.toInt = x224.toInt) (zl_0 : (0 : Int32).toInt = 0)
              refine lv_aload_n hx hb dX12_out_35 rfl (lv_at hl 2 rfl) ?_
              refine zq_getr E hM k_h0 (zFX12_39 E hZ) ⟨by decide, by decide, by decide, rfl⟩ dX12_out_36 ?_
              have k242 : zq_k X (zq_r X h0 20) = 59 := zq_lk L.1 k_h0 rfl (by decide)
              refine lv_bipush (v := 12) hx hb dX12_out_39 (by decide +kernel) ?_
              refine zq_ian (n := 106) (j := 12) E hZ hM k242 ⟨by decide, rfl⟩ (by rw [zl_12]; decide) (by decide +kernel) dX12_out_41 (fun x243 ex243 gx243 => ?_)
              replace gx243 : 0 ≤ x243.toInt ∧ x243.toInt ≤ ((zv196 : Nat) : Int) := gx243
              refine lv_istore_n (lv' := [(1, .int x243), (2, .int j192), (0, .ref h0)]) hx hb dX12_out_42 rfl hl (by decide) rfl (fun ls hl => ?_)
              exact J43 ls x243 (⟨by omega, by omega⟩) (lv_sub hl [1, 0, 2] rfl)
    exact J18 (60 + 1 - (0 : Int32).toInt).toNat I107 H locs ls (zk) (0 : Int32) (-2 : Int32) (by omega) hM hS hR (by rw [zl_0]; decide) (by rw [zl_m2]; decide) hWF109 (by have := zl_0; omega) (lv_sub hl [0, 1, 2] rfl)
  · have b104 := zi_eq b104 (rfl : x102.toInt = x102.toInt) (zl_0 : (0 : Int32).toInt = 0)
    refine lv_iconst (v := (-1)) hx hb dX12_out_7 (by decide +kernel) ?_
    subst hQ
    exact zq_iret E hr hZ hM hS ⟨hR, (by have := zl_m1; omega)⟩ hlocks dX12_out_8
set_option maxHeartbeats 8000000 in
set_option maxRecDepth 100000 in
theorem c_X12_draw (l : Launch) (X : zq_X) (zk zn : Nat) (I : zq_M) (L : zq_L X)  (h0 : Nat) (k_h0 : zq_k X h0 = 10) (p1 : Int32) (g_p1 : 1 ≤ p1.toInt ∧ p1.toInt ≤ 1000) (q_0 : zk ≤ 2900 ∧ zn ≤ 2900) : Met l yX12_draw (zt_w yX12_draw cX12_draw 2 (some .int)) (zq_rm (0)) (va_Pc [.ref h0, .int p1] (zq_W X (zk, zn) I)) (va_Qi (fun (r : Int32) I2 => I2 = I ∧ True) (zq_E X (zk, zn)) (zq_A X)) 0 0 (zq_A X) := by
  refine Met.ofW (cc := cX12_draw) (maxL := 2) (ret := (some .int)) (by decide) rfl ?_
  intro p e s m args below meth c s₁ B hml hv
  obtain ⟨hargs, hM, hZ⟩ := hv
  have hown : s.vm.findClass RX12 = some m.cls := findClass_of_methodNamed B.named
  have hts := atoms_spec (ws := zt_w yX12_draw cX12_draw 2 (some .int)) B.pre
  have E : CallFix p m c cX12_draw 2 s args (Cond.code yX12_draw cX12_draw 2 (some .int) :: zt) RX12 := ⟨B.exec, B.bytes, hml, hown, hts⟩
  have hx := B.exec
  have hb := B.bytes
  have hr := B.returns
  have hlocks := B.notSynchronized
  clear B
  have hS : va_S (zq_A X) s.heap s.heap [] := va_S.rf
  have hl := lv_entry ([.ref h0, .int p1]) (n := 2) (by exact Nat.le_of_ble_eq_true rfl)
  have hg : entryFrame m args 2 = F0 m 0 ((lg_sl ([.ref h0, .int p1]) ++ List.replicate (2 - (lg_sl ([.ref h0, .int p1])).length) Slot.unset).toArray) [] := by rw [hargs]; exact lg_entry_eq m ([.ref h0, .int p1]) 2
  rw [hg]
  clear hg hargs
  generalize (lg_sl ([.ref h0, .int p1]) ++ List.replicate (2 - (lg_sl ([.ref h0, .int p1])).length) Slot.unset).toArray = ls at hl ⊢
  have hl : lv_has ls 2 [(0, .ref h0), (1, .int p1)] := by exact hl
  obtain ⟨R, hRm⟩ : ∃ R : Room, R = (headSpec (zt_w yX12_draw cX12_draw 2 (some .int)) (zq_rm (0))).room := ⟨_, rfl⟩
  rw [← hRm]
  generalize hQ : MQ below _ args s 0 0 (zq_A X) = Q
  obtain ⟨H, hH⟩ : ∃ H, H = s.heap := ⟨_, rfl⟩
  obtain ⟨locs, hlo⟩ : ∃ x : List Loc, x = [] := ⟨_, rfl⟩
  rw [show W p l e R s m args below meth c s.heap [] 0 0 Q = W p l e R s m args below meth c H locs 0 0 Q by rw [hH, hlo]]
  have hM : zq_hm X (zk, zn) I H := by rw [hH]; exact hM
  have hS : va_S (zq_A X) s.heap H locs := by rw [hH, hlo]; exact hS
  clear hH hlo
  refine lv_aload_n hx hb dX12_draw_0 rfl (lv_at hl 0 rfl) ?_
  refine lv_aload_n hx hb dX12_draw_1 rfl (lv_at hl 0 rfl) ?_
  refine zq_getl E hM k_h0 (zFX12_442 E hZ) ⟨by decide, by decide, by decide, rfl⟩ dX12_draw_2 (fun y101 => ?_)
  refine W.ldc2 (v := 1103515245) hx hb hown (hts _ (List.mem_cons_of_mem _ zCX12_446)) rfl dX12_draw_5 ?_
  refine W.eq (g2 := F0 m 8 ls [.long (1103515245 : Int64), .long y101, .ref h0]) rfl ?_
  refine lv_lmul hx hb dX12_draw_8 ?_
  refine lv_topl (fun y102 ey102 => ?_)
  refine W.ldc2 (v := 12345) hx hb hown (hts _ (List.mem_cons_of_mem _ zCX12_448)) rfl dX12_draw_9 ?_
  refine W.eq (g2 := F0 m 12 ls [.long (12345 : Int64), .long y102, .ref h0]) rfl ?_
  refine lv_ladd hx hb dX12_draw_12 ?_
  refine lv_topl (fun y103 ey103 => ?_)
  refine W.ldc2 (v := 2147483648) hx hb hown (hts _ (List.mem_cons_of_mem _ zCX12_450)) rfl dX12_draw_13 ?_
  refine W.eq (g2 := F0 m 16 ls [.long (2147483648 : Int64), .long y103, .ref h0]) rfl ?_
  refine lv_lrem hx hb dX12_draw_16 (by decide +kernel) ?_
  refine lv_topl (fun y104 ey104 => ?_)
  refine W.eq (g2 := F0 m 17 ls [.long y104, .ref h0]) rfl ?_
  refine zq_putl E hM hS k_h0 (zGX12_442 E hZ) ⟨by decide, by decide, by decide, rfl⟩ dX12_draw_17 (fun H locs hM hS => ?_)
  refine lv_aload_n hx hb dX12_draw_20 rfl (lv_at hl 0 rfl) ?_
  refine zq_getl E hM k_h0 (zFX12_442 E hZ) ⟨by decide, by decide, by decide, rfl⟩ dX12_draw_21 (fun y105 => ?_)
  refine W.ldc2 (v := 65536) hx hb hown (hts _ (List.mem_cons_of_mem _ zCX12_452)) rfl dX12_draw_24 ?_
  refine W.eq (g2 := F0 m 27 ls [.long (65536 : Int64), .long y105]) rfl ?_
  refine lv_ldiv hx hb dX12_draw_27 (by decide +kernel) ?_
  refine lv_topl (fun y106 ey106 => ?_)
  refine lv_iload_n hx hb dX12_draw_28 rfl (lv_at hl 1 rfl) ?_
  refine lv_i2l hx hb dX12_draw_29 rfl ?_
  refine lv_topl (fun y107 ey107 => ?_)
  have ty107 := zi_i2l ey107
  refine lv_lrem hx hb dX12_draw_30 (fun q => by have hz := congrArg Int64.toInt q; rw [show (0 : Int64).toInt = 0 from by decide +kernel] at hz; omega) ?_
  refine lv_topl (fun y108 ey108 => ?_)
  refine lv_l2i hx hb dX12_draw_31 rfl ?_
  refine lv_topi (fun x109 ex109 => ?_)
  subst hQ
  exact zq_iret E hr hZ hM hS ⟨rfl, trivial⟩ hlocks dX12_draw_32
def zw_X12_years : List (Nat × Nat) := [(10, 18), (10, 23), (59, 999), (61, 999)]
set_option maxHeartbeats 8000000 in
set_option maxRecDepth 100000 in
theorem c_X12_years (l : Launch) (X : zq_X) (zk zn : Nat) (I : zq_M) (L : zq_L X)  (h0 : Nat) (k_h0 : zq_k X h0 = 10) (p1 : Int32) (p2 : Int32) (p3 : Int32) (q_0 : zk ≤ 2900 ∧ zn ≤ 2900) (q_1 : zWF X I h0) (q_2 : zk ≤ 2200) : Met l yX12_years (zt_w yX12_years cX12_years 8 (some .int)) (zq_rm (5)) (va_Pc [.ref h0, .int p1, .int p2, .int p3] (zq_W X (zk, zk) I)) (va_Qi (fun (r : Int32) I2 => zq_fr (zf X zw_X12_years (fun _ => False)) I I2) (zq_E X (zk, zk)) (zq_A X)) 0 0 (zq_A X) := by
  refine Met.ofW (cc := cX12_years) (maxL := 8) (ret := (some .int)) (by decide) rfl ?_
  intro p e s m args below meth c s₁ B hml hv
  obtain ⟨hargs, hM, hZ⟩ := hv
  have hown : s.vm.findClass RX12 = some m.cls := findClass_of_methodNamed B.named
  have hts := atoms_spec (ws := zt_w yX12_years cX12_years 8 (some .int)) B.pre
  have E : CallFix p m c cX12_years 8 s args (Cond.code yX12_years cX12_years 8 (some .int) :: zt) RX12 := ⟨B.exec, B.bytes, hml, hown, hts⟩
  have hx := B.exec
  have hb := B.bytes
  have hr := B.returns
  have hlocks := B.notSynchronized
  clear B
  have hS : va_S (zq_A X) s.heap s.heap [] := va_S.rf
  have hR : zq_fr (zf X zw_X12_years (fun _ => False)) I I := zq_fr.rf
  have hl := lv_entry ([.ref h0, .int p1, .int p2, .int p3]) (n := 8) (by exact Nat.le_of_ble_eq_true rfl)
  have hg : entryFrame m args 8 = F0 m 0 ((lg_sl ([.ref h0, .int p1, .int p2, .int p3]) ++ List.replicate (8 - (lg_sl ([.ref h0, .int p1, .int p2, .int p3])).length) Slot.unset).toArray) [] := by rw [hargs]; exact lg_entry_eq m ([.ref h0, .int p1, .int p2, .int p3]) 8
  rw [hg]
  clear hg hargs
  generalize (lg_sl ([.ref h0, .int p1, .int p2, .int p3]) ++ List.replicate (8 - (lg_sl ([.ref h0, .int p1, .int p2, .int p3])).length) Slot.unset).toArray = ls at hl ⊢
  have hl : lv_has ls 8 [(0, .ref h0), (1, .int p1), (2, .int p2), (3, .int p3)] := by exact hl
  obtain ⟨R, hRm⟩ : ∃ R : Room, R = (headSpec (zt_w yX12_years cX12_years 8 (some .int)) (zq_rm (5))).room := ⟨_, rfl⟩
  rw [← hRm]
  have hro : ∀ d q : Nat, d + 1 ≤ 5 → q ≤ 45 → zq_rok d q R := fun d q h1 h2 => by rw [hRm]; exact zq_rokI h1 h2
  generalize hQ : MQ below _ args s 0 0 (zq_A X) = Q
  obtain ⟨H, hH⟩ : ∃ H, H = s.heap := ⟨_, rfl⟩
  obtain ⟨locs, hlo⟩ : ∃ x : List Loc, x = [] := ⟨_, rfl⟩
  rw [show W p l e R s m args below meth c s.heap [] 0 0 Q = W p l e R s m args below meth c H locs 0 0 Q by rw [hH, hlo]]
  have hM : zq_hm X (zk, zk) I H := by rw [hH]; exact hM
  have hS : va_S (zq_A X) s.heap H locs := by rw [hH, hlo]; exact hS
  clear hH hlo
  refine lv_aload_n hx hb dX12_years_0 rfl (lv_at hl 0 rfl) ?_
  refine zq_pcalli (zq_rV (As := []) (rest := []) E hZ hM k_h0 (c_X12_isTrade l X zk (zk) I L h0 k_h0 (by omega)) zmX12_357 zM_X12_isTrade (hro (0) 1 (by first | decide | omega) (by decide)) ⟨by decide, by decide⟩ rfl hl.1 rfl rfl (Nat.le_of_ble_eq_true rfl) dX12_years_1) hS (fun x102 H locs h101 hM hS => ?_)
  have p103 := h101
  refine lv_if_eq (tgt := 41) hx hb dX12_years_4 (by decide) (fun b104 => ?_) (fun b104 => ?_)
  · have b104 := zi_eq b104 (rfl : x102.toInt = x102.toInt) (zl_0 : (0 : Int32).toInt = 0)
    refine lv_iconst (v := (-1)) hx hb dX12_years_41 (by decide +kernel) ?_
    subst hQ
    exact zq_iret E hr hZ hM hS hR hlocks dX12_years_42
  · have b104 := zi_ne b104 (rfl : x102.toInt = x102.toInt) (zl_0 : (0 : Int32).toInt = 0)
    refine lv_iload_n hx hb dX12_years_7 rfl (lv_at hl 1 rfl) ?_
    refine lv_i2l hx hb dX12_years_8 rfl ?_
    refine lv_topl (fun y105 ey105 => ?_)
    have ty105 := zi_i2l ey105
    have := zi_rng p1
    refine lv_lconst (v := 1) hx hb dX12_years_9 (by decide +kernel) ?_
    refine W.ldc2 (v := 10) hx hb hown (hts _ (List.mem_cons_of_mem _ zCX12_454)) rfl dX12_years_10 ?_
    refine W.eq (g2 := F0 m 13 ls [.long (10 : Int64), .long (1 : Int64), .long y105]) rfl ?_
    refine zq_pcalli (zq_rS (As := [.long y105, .long (1 : Int64), .long (10 : Int64)]) (rest := []) E hZ hM (c_X12_in l X zk (zk) I L y105 (1 : Int64) (10 : Int64)) zmX12_112 zM_X12_in (hro (0) 6 (by first | decide | omega) (by decide)) hl.1 rfl rfl (Nat.le_of_ble_eq_true rfl) dX12_years_13) hS (fun x107 H locs h106 hM hS => ?_)
    obtain ⟨p108, p109⟩ := h106
    have : (1 : Int64).toInt = 1 := by decide +kernel
    have : (10 : Int64).toInt = 10 := by decide +kernel
    refine lv_if_eq (tgt := 41) hx hb dX12_years_16 (by decide) (fun b110 => ?_) (fun b110 => ?_)
    · have b110 := zi_eq b110 (rfl : x107.toInt = x107.toInt) (zl_0 : (0 : Int32).toInt = 0)
      refine lv_iconst (v := (-1)) hx hb dX12_years_41 (by decide +kernel) ?_
      subst hQ
      exact zq_iret E hr hZ hM hS hR hlocks dX12_years_42
    · have b110 := zi_ne b110 (rfl : x107.toInt = x107.toInt) (zl_0 : (0 : Int32).toInt = 0)
      refine lv_iload_n hx hb dX12_years_19 rfl (lv_at hl 2 rfl) ?_
      refine lv_i2l hx hb dX12_years_20 rfl ?_
      refine lv_topl (fun y111 ey111 => ?_)
      have ty111 := zi_i2l ey111
      have := zi_rng p2
      refine lv_lconst (v := 1) hx hb dX12_years_21 (by decide +kernel) ?_
      refine W.ldc2 (v := 60) hx hb hown (hts _ (List.mem_cons_of_mem _ zCX12_384)) rfl dX12_years_22 ?_
      refine W.eq (g2 := F0 m 25 ls [.long (60 : Int64), .long (1 : Int64), .long y111]) rfl ?_
      refine zq_pcalli (zq_rS (As := [.long y111, .long (1 : Int64), .long (60 : Int64)]) (rest := []) E hZ hM (c_X12_in l X zk (zk) I L y111 (1 : Int64) (60 : Int64)) zmX12_112 zM_X12_in (hro (0) 6 (by first | decide | omega) (by decide)) hl.1 rfl rfl (Nat.le_of_ble_eq_true rfl) dX12_years_25) hS (fun x113 H locs h112 hM hS => ?_)
      obtain ⟨p114, p115⟩ := h112
      have : (1 : Int64).toInt = 1 := by decide +kernel
      have : (60 : Int64).toInt = 60 := by decide +kernel
      refine lv_if_eq (tgt := 41) hx hb dX12_years_28 (by decide) (fun b116 => ?_) (fun b116 => ?_)
      · have b116 := zi_eq b116 (rfl : x113.toInt = x113.toInt) (zl_0 : (0 : Int32).toInt = 0)
        refine lv_iconst (v := (-1)) hx hb dX12_years_41 (by decide +kernel) ?_
        subst hQ
        exact zq_iret E hr hZ hM hS hR hlocks dX12_years_42
      · have b116 := zi_ne b116 (rfl : x113.toInt = x113.toInt) (zl_0 : (0 : Int32).toInt = 0)
        refine lv_iload_n hx hb dX12_years_31 rfl (lv_at hl 3 rfl) ?_
        refine lv_i2l hx hb dX12_years_32 rfl ?_
        refine lv_topl (fun y117 ey117 => ?_)
        have ty117 := zi_i2l ey117
        have := zi_rng p3
        refine lv_lconst (v := 0) hx hb dX12_years_33 (by decide +kernel) ?_
        refine lv_lconst (v := 1) hx hb dX12_years_34 (by decide +kernel) ?_
        refine zq_pcalli (zq_rS (As := [.long y117, .long (0 : Int64), .long (1 : Int64)]) (rest := []) E hZ hM (c_X12_in l X zk (zk) I L y117 (0 : Int64) (1 : Int64)) zmX12_112 zM_X12_in (hro (0) 6 (by first | decide | omega) (by decide)) hl.1 rfl rfl (Nat.le_of_ble_eq_true rfl) dX12_years_35) hS (fun x119 H locs h118 hM hS => ?_)
        obtain ⟨p120, p121⟩ := h118
        have : (0 : Int64).toInt = 0 := by decide +kernel
        have : (1 : Int64).toInt = 1 := by decide +kernel
        refine lv_if_ne (tgt := 43) hx hb dX12_years_38 (by decide) (fun b122 => ?_) (fun b122 => ?_)
        · have b122 := zi_ne b122 (rfl : x119.toInt = x119.toInt) (zl_0 : (0 : Int32).toInt = 0)
          refine lv_aload_n hx hb dX12_years_43 rfl (lv_at hl 0 rfl) ?_
          refine lv_aload_n hx hb dX12_years_44 rfl (lv_at hl 0 rfl) ?_
          refine zq_gn E hM k_h0 (zFX12_439 E hZ) (Or.inl ⟨by decide, by decide, by decide, rfl⟩) dX12_years_45 (fun x123 ex123 gx123 => ?_)
          clear gx123
          refine lv_i2l hx hb dX12_years_48 rfl ?_
          refine lv_topl (fun y124 ey124 => ?_)
          have ty124 := zi_i2l ey124
          have := zi_rng x123
          refine zq_putl E hM hS k_h0 (zGX12_442 E hZ) ⟨by decide, by decide, by decide, rfl⟩ dX12_years_49 (fun H locs hM hS => ?_)
          refine lv_iconst (v := 0) hx hb dX12_years_52 (by decide +kernel) ?_
          refine lv_istore (lv' := [(4, .int (0 : Int32)), (0, .ref h0), (1, .int p1), (2, .int p2), (3, .int p3)]) hx hb dX12_years_53 hl (by decide) rfl (fun ls hl => ?_)
          refine lv_iconst (v := 0) hx hb dX12_years_55 (by decide +kernel) ?_
          refine lv_istore (lv' := [(5, .int (0 : Int32)), (4, .int (0 : Int32)), (0, .ref h0), (1, .int p1), (2, .int p2), (3, .int p3)]) hx hb dX12_years_56 hl (by decide) rfl (fun ls hl => ?_)
          refine W.eq (g2 := F0 m 58 ls []) rfl ?_
          refine lv_aload_n hx hb dX12_years_58 rfl (lv_at hl 2 rfl) ?_
          refine zq_callv (zq_rV (As := []) (rest := []) E hZ hM k_h0 (c_X12_keeps l X zk (zk) I L h0 k_h0 (by omega) (by omega)) zmX12_388 zM_X12_keeps (hro (0) 2 (by first | decide | omega) (by decide)) ⟨by decide, by decide⟩ rfl hl.1 rfl rfl (Nat.le_of_ble_eq_true rfl) dX12_years_59) hS (fun I127 H locs h125 hM hS => ?_)
          have fr128 := h125
          have hR := zq_fr.call hR fr128 (zf_sub (by decide +kernel) (fun _ _ q => q.elim))
          have hWF129 := zWF.fr q_1 L k_h0 fr128 (by decide)
          refine lv_iconst (v := 0) hx hb dX12_years_62 (by decide +kernel) ?_
          refine lv_istore (lv' := [(6, .int (0 : Int32)), (5, .int (0 : Int32)), (4, .int (0 : Int32)), (0, .ref h0), (1, .int p1), (2, .int p2), (3, .int p3)]) hx hb dX12_years_63 hl (by decide) rfl (fun ls hl => ?_)
          have J65 : ∀ (n621 : Nat) (I619 : zq_M) (H : Heap) (locs : List Loc) (ls : Array Slot) (j616 : Int32) (j617 : Int32) (j618 : Int32), 10 + 1 - j616.toInt ≤ ((n621 : Nat) : Int) → (zq_hm X (zk, zk) I619 H) → (va_S (zq_A X) s.heap H locs) → (zq_fr (zf X zw_X12_years (fun _ => False)) I I619) → (0 ≤ j616.toInt ∧ j616.toInt ≤ 10) → (zWF X I619 h0) → (lv_has ls 8 [(6, .int j616), (5, .int j617), (4, .int j618), (0, .ref h0), (1, .int p1), (2, .int p2), (3, .int p3)]) → W p l e R s m args below meth c H locs 0 0 Q (F0 m 65 ls []) := by
            intro n621
            induction n621 with
            | zero => intro I619 H locs ls j616 j617 j618 mu622 hM hS hR gj616 F620 hl; exfalso; have := zi_rng j616; omega
            | succ n621 ih65 =>
              intro I619 H locs ls j616 j617 j618 mu622 hM hS hR gj616 F620 hl
              refine lv_iload hx hb dX12_years_65 (lv_at hl 0 rfl) ?_
              refine lv_iload_n hx hb dX12_years_67 rfl (lv_at hl 4 rfl) ?_
              refine lv_icmp_ge (tgt := 127) hx hb dX12_years_68 (by decide) (fun b623 => ?_) (fun b623 => ?_)
              · have b623 := zi_le b623 (rfl : p1.toInt = p1.toInt) (rfl : j616.toInt = j616.toInt)
                refine lv_aload_n hx hb dX12_years_127 rfl (lv_at hl 3 rfl) ?_
                refine lv_bipush (v := 100) hx hb dX12_years_128 (by decide +kernel) ?_
                refine zq_pn E hM hS k_h0 (zGX12_46 E hZ) ⟨by decide, by decide, by decide, rfl⟩ (zq_any _) dX12_years_130 (fun I624 H locs eI624 hM hS => ?_)
                have hR := zq_fr.putE hR eI624 (zf_i k_h0 rfl rfl)
                have hWF625 := zWF.put F620 L k_h0 eI624 k_h0 (by decide)
                refine lv_iload_n hx hb dX12_years_133 rfl (lv_at hl 6 rfl) ?_
                refine lv_if_ne (tgt := 142) hx hb dX12_years_134 (by decide) (fun b626 => ?_) (fun b626 => ?_)
                · have b626 := zi_ne b626 (rfl : p3.toInt = p3.toInt) (zl_0 : (0 : Int32).toInt = 0)
                  refine lv_iload hx hb dX12_years_142 (lv_at hl 1 rfl) ?_
                  subst hQ
                  exact zq_iret E hr hZ hM hS hR hlocks dX12_years_144
                · have b626 := zi_eq b626 (rfl : p3.toInt = p3.toInt) (zl_0 : (0 : Int32).toInt = 0)
                  refine lv_iload hx hb dX12_years_137 (lv_at hl 2 rfl) ?_
                  refine lv_goto (tgt := 144) hx hb dX12_years_139 (by decide) ?_
                  subst hQ
                  exact zq_iret E hr hZ hM hS hR hlocks dX12_years_144
              · have b623 := zi_nle b623 (rfl : p1.toInt = p1.toInt) (rfl : j616.toInt = j616.toInt)
                refine lv_iconst (v := 0) hx hb dX12_years_71 (by decide +kernel) ?_
                refine lv_istore (lv' := [(7, .int (0 : Int32)), (6, .int j616), (5, .int j617), (4, .int j618), (0, .ref h0), (1, .int p1), (2, .int p2), (3, .int p3)]) hx hb dX12_years_72 hl (by decide) rfl (fun ls hl => ?_)
                have J74 : ∀ (n722 : Nat) (I719 : zq_M) (H : Heap) (locs : List Loc) (ls : Array Slot) (zv721 : Nat) (j717 : Int32) (j718 : Int32), 60 + 1 - j717.toInt ≤ ((n722 : Nat) : Int) → (zq_hm X (zk, zv721) I719 H) → (va_S (zq_A X) s.heap H locs) → (zq_fr (zf X zw_X12_years (fun _ => False)) I I719) → (0 ≤ j717.toInt ∧ j717.toInt ≤ 60) → (zWF X I719 h0) → (((zv721 : Nat) : Int) ≤ ((zk : Nat) : Int) + 4 * j717.toInt) → (lv_has ls 8 [(7, .int j717), (6, .int j616), (5, .int j718), (4, .int j618), (0, .ref h0), (1, .int p1), (2, .int p2), (3, .int p3)]) → W p l e R s m args below meth c H locs 0 0 Q (F0 m 74 ls []) := by
                  intro n722
                  induction n722 with
                  | zero => intro I719 H locs ls zv721 j717 j718 mu723 hM hS hR gj717 F720 hz9 hl; exfalso; have := zi_rng j717; omega
                  | succ n722 ih74 =>
                    intro I719 H locs ls zv721 j717 j718 mu723 hM hS hR gj717 F720 hz9 hl
                    refine lv_iload hx hb dX12_years_74 (lv_at hl 0 rfl) ?_
                    refine lv_iload_n hx hb dX12_years_76 rfl (lv_at hl 6 rfl) ?_
                    refine lv_icmp_ge (tgt := 105) hx hb dX12_years_77 (by decide) (fun b724 => ?_) (fun b724 => ?_)
                    · have b724 := zi_le b724 (rfl : p2.toInt = p2.toInt) (rfl : j717.toInt = j717.toInt)
                      refine lv_iload hx hb dX12_years_105 (lv_at hl 3 rfl) ?_
                      refine lv_aload_n hx hb dX12_years_107 rfl (lv_at hl 4 rfl) ?_
                      refine zq_getr E hM k_h0 (zFX12_39 E hZ) ⟨by decide, by decide, by decide, rfl⟩ dX12_years_108 ?_
                      have k725 : zq_k X (zq_r X h0 20) = 59 := zq_lk L.1 k_h0 rfl (by decide)
                      refine lv_bipush (v := 10) hx hb dX12_years_111 (by decide +kernel) ?_
                      refine zq_ian (n := 106) (j := 10) E hZ hM k725 ⟨by decide, rfl⟩ (by rw [zl_10]; decide) (by decide +kernel) dX12_years_113 (fun x726 ex726 gx726 => ?_)
                      clear gx726
                      refine lv_iadd hx hb dX12_years_114 ?_
                      refine lv_topi (fun x727 ex727 => ?_)
                      refine lv_istore (lv' := [(4, .int x727), (7, .int j717), (6, .int j616), (5, .int j718), (0, .ref h0), (1, .int p1), (2, .int p2), (3, .int p3)]) hx hb dX12_years_115 hl (by decide) rfl (fun ls hl => ?_)
                      refine lv_aload_n hx hb dX12_years_117 rfl (lv_at hl 4 rfl) ?_
                      refine zq_callv (zq_rV (As := []) (rest := []) E hZ hM k_h0 (c_X12_laysBack l X zk (zv721) I719 L h0 k_h0 (by omega)) zmX12_391 zM_X12_laysBack (hro (0) 2 (by first | decide | omega) (by decide)) ⟨by decide, by decide⟩ rfl hl.1 rfl rfl (Nat.le_of_ble_eq_true rfl) dX12_years_118) hS (fun I730 H locs h728 hM hS => ?_)
                      have fr731 := h728
                      have hR := zq_fr.call hR fr731 (zf_sub (by decide +kernel) (fun _ _ q => q.elim))
                      have hWF732 := zWF.fr F720 L k_h0 fr731 (by decide)
                      refine W.eq (g2 := F0 m 121 ls []) rfl ?_
                      obtain ⟨x733, ex733⟩ : ∃ y : Int32, y = j616 + 1 := ⟨_, rfl⟩
                      have tx733 := zi_add ex733 (rfl : j616.toInt = j616.toInt) zl_1 ⟨by omega, by omega⟩
                      refine lv_iinc (v := x733) (lv' := [(6, .int x733), (4, .int x727), (7, .int j717), (5, .int j718), (0, .ref h0), (1, .int p1), (2, .int p2), (3, .int p3)]) hx hb dX12_years_121 hl (k := 2) rfl (by rw [ex733]; rfl) (by decide) rfl (fun ls hl => ?_)
                      refine lv_goto (tgt := 65) hx hb dX12_years_124 (by decide) ?_
                      exact ih65 I730 H locs ls x733 j718 x727 (by omega) hM hS hR (⟨by omega, by omega⟩) hWF732 (lv_sub hl [0, 3, 1, 4, 5, 6, 7] rfl)
                    · have b724 := zi_nle b724 (rfl : p2.toInt = p2.toInt) (rfl : j717.toInt = j717.toInt)
                      refine lv_aload_n hx hb dX12_years_80 rfl (lv_at hl 4 rfl) ?_
                      refine lv_aload_n hx hb dX12_years_81 rfl (lv_at hl 4 rfl) ?_
                      refine lv_bipush (v := 101) hx hb dX12_years_82 (by decide +kernel) ?_
                      refine zq_pcalli (zq_rV (As := [.int (101 : Int32)]) (rest := [.ref h0]) E hZ hM k_h0 (c_X12_draw l X zk (zv721) I719 L h0 k_h0 (101 : Int32) (by rw [zl_101]; decide) (by have := zl_101; omega)) zmX12_456 zM_X12_draw (hro (0) 2 (by first | decide | omega) (by decide)) ⟨by decide, by decide⟩ rfl hl.1 rfl rfl (Nat.le_of_ble_eq_true rfl) dX12_years_84) hS (fun x735 H locs h734 hM hS => ?_)
                      clear h734
                      have := zl_101
                      refine zq_pn E hM hS k_h0 (zGX12_46 E hZ) ⟨by decide, by decide, by decide, rfl⟩ (zq_any _) dX12_years_87 (fun I736 H locs eI736 hM hS => ?_)
                      have hR := zq_fr.putE hR eI736 (zf_i k_h0 rfl rfl)
                      have hWF737 := zWF.put F720 L k_h0 eI736 k_h0 (by decide)
                      refine lv_iload hx hb dX12_years_90 (lv_at hl 2 rfl) ?_
                      refine lv_aload_n hx hb dX12_years_92 rfl (lv_at hl 4 rfl) ?_
                      refine zq_calli (zq_rV (As := []) (rest := [.int j718]) E hZ hM k_h0 (c_X12_passes l X zk (zv721) I736 L h0 k_h0 (by omega) (hWF737) (by omega)) zmX12_363 zM_X12_passes (hro (4) 3 (by first | decide | omega) (by decide)) ⟨by decide, by decide⟩ rfl hl.1 rfl rfl (Nat.le_of_ble_eq_true rfl) dX12_years_93) hS (fun x739 I740 H locs h738 hM hS => ?_)
                      have fr741 := h738
                      have hR := zq_fr.call hR fr741 (zf_sub (by decide +kernel) (fun _ _ q => q.elim))
                      have hWF742 := zWF.fr hWF737 L k_h0 fr741 (by decide)
                      refine lv_iadd hx hb dX12_years_96 ?_
                      refine lv_topi (fun x743 ex743 => ?_)
                      refine W.eq (g2 := F0 m 97 ls [.int x743]) rfl ?_
                      refine lv_istore (lv' := [(5, .int x743), (7, .int j717), (6, .int j616), (4, .int j618), (0, .ref h0), (1, .int p1), (2, .int p2), (3, .int p3)]) hx hb dX12_years_97 hl (by decide) rfl (fun ls hl => ?_)
                      obtain ⟨x744, ex744⟩ : ∃ y : Int32, y = j717 + 1 := ⟨_, rfl⟩
                      have tx744 := zi_add ex744 (rfl : j717.toInt = j717.toInt) zl_1 ⟨by omega, by omega⟩
                      refine lv_iinc (v := x744) (lv' := [(7, .int x744), (5, .int x743), (6, .int j616), (4, .int j618), (0, .ref h0), (1, .int p1), (2, .int p2), (3, .int p3)]) hx hb dX12_years_99 hl (k := 1) rfl (by rw [ex744]; rfl) (by decide) rfl (fun ls hl => ?_)
                      refine lv_goto (tgt := 74) hx hb dX12_years_102 (by decide) ?_
                      exact ih74 I740 H locs ls ((zv721 + 4)) x744 x743 (by omega) hM hS hR (⟨by omega, by omega⟩) hWF742 (by have := zl_0; omega) (lv_sub hl [0, 2, 1, 3, 4, 5, 6, 7] rfl)
                exact J74 (60 + 1 - (0 : Int32).toInt).toNat I619 H locs ls (zk) (0 : Int32) j617 (by omega) hM hS hR (by rw [zl_0]; decide) F620 (by have := zl_0; omega) (lv_sub hl [0, 1, 2, 3, 4, 5, 6, 7] rfl)
          exact J65 (10 + 1 - (0 : Int32).toInt).toNat I127 H locs ls (0 : Int32) (0 : Int32) (0 : Int32) (by omega) hM hS hR (by rw [zl_0]; decide) hWF129 (lv_sub hl [0, 1, 2, 3, 4, 5, 6] rfl)
        · have b122 := zi_eq b122 (rfl : x119.toInt = x119.toInt) (zl_0 : (0 : Int32).toInt = 0)
          refine lv_iconst (v := (-1)) hx hb dX12_years_41 (by decide +kernel) ?_
          subst hQ
          exact zq_iret E hr hZ hM hS hR hlocks dX12_years_42
set_option maxHeartbeats 8000000 in
set_option maxRecDepth 100000 in
theorem c_X12_power (l : Launch) (X : zq_X) (zk zn : Nat) (I : zq_M) (L : zq_L X)  (p1 : Int32) (p2 : Int32) (g_p1 : 1 ≤ p1.toInt ∧ p1.toInt ≤ 5) (g_p2 : (-10) ≤ p2.toInt ∧ p2.toInt ≤ 3) : Met l yX12_power (zt_w yX12_power cX12_power 4 (some .int)) (zq_rm (0)) (va_Pc [.int p1, .int p2] (zq_W X (zk, zn) I)) (va_Qi (fun (r : Int32) I2 => I2 = I ∧ (1 ≤ r.toInt ∧ r.toInt ≤ 125)) (zq_E X (zk, zn)) (zq_A X)) 0 0 (zq_A X) := by
  refine Met.ofW (cc := cX12_power) (maxL := 4) (ret := (some .int)) (by decide) rfl ?_
  intro p e s m args below meth c s₁ B hml hv
  obtain ⟨hargs, hM, hZ⟩ := hv
  have hown : s.vm.findClass RX12 = some m.cls := findClass_of_methodNamed B.named
  have hts := atoms_spec (ws := zt_w yX12_power cX12_power 4 (some .int)) B.pre
  have E : CallFix p m c cX12_power 4 s args (Cond.code yX12_power cX12_power 4 (some .int) :: zt) RX12 := ⟨B.exec, B.bytes, hml, hown, hts⟩
  have hx := B.exec
  have hb := B.bytes
  have hr := B.returns
  have hlocks := B.notSynchronized
  clear B
  have hS : va_S (zq_A X) s.heap s.heap [] := va_S.rf
  have hl := lv_entry ([.int p1, .int p2]) (n := 4) (by exact Nat.le_of_ble_eq_true rfl)
  have hg : entryFrame m args 4 = F0 m 0 ((lg_sl ([.int p1, .int p2]) ++ List.replicate (4 - (lg_sl ([.int p1, .int p2])).length) Slot.unset).toArray) [] := by rw [hargs]; exact lg_entry_eq m ([.int p1, .int p2]) 4
  rw [hg]
  clear hg hargs
  generalize (lg_sl ([.int p1, .int p2]) ++ List.replicate (4 - (lg_sl ([.int p1, .int p2])).length) Slot.unset).toArray = ls at hl ⊢
  have hl : lv_has ls 4 [(0, .int p1), (1, .int p2)] := by exact hl
  obtain ⟨R, hRm⟩ : ∃ R : Room, R = (headSpec (zt_w yX12_power cX12_power 4 (some .int)) (zq_rm (0))).room := ⟨_, rfl⟩
  rw [← hRm]
  generalize hQ : MQ below _ args s 0 0 (zq_A X) = Q
  obtain ⟨H, hH⟩ : ∃ H, H = s.heap := ⟨_, rfl⟩
  obtain ⟨locs, hlo⟩ : ∃ x : List Loc, x = [] := ⟨_, rfl⟩
  rw [show W p l e R s m args below meth c s.heap [] 0 0 Q = W p l e R s m args below meth c H locs 0 0 Q by rw [hH, hlo]]
  have hM : zq_hm X (zk, zn) I H := by rw [hH]; exact hM
  have hS : va_S (zq_A X) s.heap H locs := by rw [hH, hlo]; exact hS
  clear hH hlo
  refine lv_iconst (v := 1) hx hb dX12_power_0 (by decide +kernel) ?_
  refine lv_istore_n (lv' := [(2, .int (1 : Int32)), (0, .int p1), (1, .int p2)]) hx hb dX12_power_1 rfl hl (by decide) rfl (fun ls hl => ?_)
  refine lv_iconst (v := 0) hx hb dX12_power_2 (by decide +kernel) ?_
  refine lv_istore_n (lv' := [(3, .int (0 : Int32)), (2, .int (1 : Int32)), (0, .int p1), (1, .int p2)]) hx hb dX12_power_3 rfl hl (by decide) rfl (fun ls hl => ?_)
  have J4 : ∀ (n119 : Nat) (ls : Array Slot) (j117 : Int32) (j118 : Int32), 3 + 1 - j117.toInt ≤ ((n119 : Nat) : Int) → (0 ≤ j117.toInt ∧ j117.toInt ≤ 3) → (1 ≤ j118.toInt ∧ j118.toInt ≤ 125) → ((j117.toInt ≤ 0 → j118.toInt ≤ 1) ∧ (j117.toInt ≤ 1 → j118.toInt ≤ 5) ∧ (j117.toInt ≤ 2 → j118.toInt ≤ 25)) → (lv_has ls 4 [(3, .int j117), (2, .int j118), (0, .int p1), (1, .int p2)]) → W p l e R s m args below meth c H locs 0 0 Q (F0 m 4 ls []) := by
    intro n119
    induction n119 with
    | zero => intro ls j117 j118 mu120 gj117 gj118 hp9 hl; exfalso; have := zi_rng j117; omega
    | succ n119 ih4 =>
      intro ls j117 j118 mu120 gj117 gj118 hp9 hl
      refine lv_iload_n hx hb dX12_power_4 rfl (lv_at hl 0 rfl) ?_
      refine lv_iload_n hx hb dX12_power_5 rfl (lv_at hl 3 rfl) ?_
      refine lv_icmp_ge (tgt := 19) hx hb dX12_power_6 (by decide) (fun b121 => ?_) (fun b121 => ?_)
      · have b121 := zi_le b121 (rfl : p2.toInt = p2.toInt) (rfl : j117.toInt = j117.toInt)
        refine lv_iload_n hx hb dX12_power_19 rfl (lv_at hl 1 rfl) ?_
        subst hQ
        exact zq_iret E hr hZ hM hS ⟨rfl, (by omega)⟩ hlocks dX12_power_20
      · have b121 := zi_nle b121 (rfl : p2.toInt = p2.toInt) (rfl : j117.toInt = j117.toInt)
        refine lv_iload_n hx hb dX12_power_9 rfl (lv_at hl 1 rfl) ?_
        refine lv_iload_n hx hb dX12_power_10 rfl (lv_at hl 2 rfl) ?_
        refine lv_imul hx hb dX12_power_11 ?_
        refine lv_topi (fun x122 ex122 => ?_)
        have tx122 := zi_mulb ex122 1 25 1 5 ⟨by omega, by omega⟩ ⟨by omega, by omega⟩ (by decide)
        have tx122 : 1 ≤ x122.toInt ∧ x122.toInt ≤ 125 := ⟨tx122.2.1, tx122.2.2⟩
        have h5x122 : x122.toInt ≤ j118.toInt * 5 := by rw [(zi_mulb ex122 1 25 1 5 ⟨by omega, by omega⟩ ⟨by omega, by omega⟩ (by decide)).1]; exact Int.mul_le_mul_of_nonneg_left (by omega) (by omega)
        refine lv_istore_n (lv' := [(2, .int x122), (3, .int j117), (0, .int p1), (1, .int p2)]) hx hb dX12_power_12 rfl hl (by decide) rfl (fun ls hl => ?_)
        obtain ⟨x123, ex123⟩ : ∃ y : Int32, y = j117 + 1 := ⟨_, rfl⟩
        have tx123 := zi_add ex123 (rfl : j117.toInt = j117.toInt) zl_1 ⟨by omega, by omega⟩
        refine lv_iinc (v := x123) (lv' := [(3, .int x123), (2, .int x122), (0, .int p1), (1, .int p2)]) hx hb dX12_power_13 hl (k := 1) rfl (by rw [ex123]; rfl) (by decide) rfl (fun ls hl => ?_)
        refine lv_goto (tgt := 4) hx hb dX12_power_16 (by decide) ?_
        exact ih4 ls x123 x122 (by omega) (⟨by omega, by omega⟩) (⟨by omega, by omega⟩) (by have := zl_0; have := zl_1; omega) (lv_sub hl [0, 1, 2, 3] rfl)
  exact J4 (3 + 1 - (0 : Int32).toInt).toNat ls (0 : Int32) (1 : Int32) (by omega) (by rw [zl_0]; decide) (by rw [zl_1]; decide) (by have := zl_0; have := zl_1; omega) (lv_sub hl [0, 1, 2, 3] rfl)
set_option maxHeartbeats 8000000 in
set_option maxRecDepth 100000 in
theorem c_X12_townIn (l : Launch) (X : zq_X) (zk zn : Nat) (I : zq_M) (L : zq_L X)  (h0 : Nat) (k_h0 : zq_k X h0 = 10) (p1 : Int32) (p2 : Int32) (g_p1 : 0 ≤ p1.toInt ∧ p1.toInt ≤ 124) (g_p2 : 0 ≤ p2.toInt ∧ p2.toInt ≤ 2) (q_0 : zk ≤ 2900 ∧ zn ≤ 2900) : Met l yX12_townIn (zt_w yX12_townIn cX12_townIn 3 (some .int)) (zq_rm (1)) (va_Pc [.ref h0, .int p1, .int p2] (zq_W X (zk, zn) I)) (va_Qi (fun (r : Int32) I2 => I2 = I ∧ ((-1) ≤ r.toInt ∧ r.toInt ≤ 3)) (zq_E X (zk, zn)) (zq_A X)) 0 0 (zq_A X) := by
  refine Met.ofW (cc := cX12_townIn) (maxL := 3) (ret := (some .int)) (by decide) rfl ?_
  intro p e s m args below meth c s₁ B hml hv
  obtain ⟨hargs, hM, hZ⟩ := hv
  have hown : s.vm.findClass RX12 = some m.cls := findClass_of_methodNamed B.named
  have hts := atoms_spec (ws := zt_w yX12_townIn cX12_townIn 3 (some .int)) B.pre
  have E : CallFix p m c cX12_townIn 3 s args (Cond.code yX12_townIn cX12_townIn 3 (some .int) :: zt) RX12 := ⟨B.exec, B.bytes, hml, hown, hts⟩
  have hx := B.exec
  have hb := B.bytes
  have hr := B.returns
  have hlocks := B.notSynchronized
  clear B
  have hS : va_S (zq_A X) s.heap s.heap [] := va_S.rf
  have hl := lv_entry ([.ref h0, .int p1, .int p2]) (n := 3) (by exact Nat.le_of_ble_eq_true rfl)
  have hg : entryFrame m args 3 = F0 m 0 ((lg_sl ([.ref h0, .int p1, .int p2]) ++ List.replicate (3 - (lg_sl ([.ref h0, .int p1, .int p2])).length) Slot.unset).toArray) [] := by rw [hargs]; exact lg_entry_eq m ([.ref h0, .int p1, .int p2]) 3
  rw [hg]
  clear hg hargs
  generalize (lg_sl ([.ref h0, .int p1, .int p2]) ++ List.replicate (3 - (lg_sl ([.ref h0, .int p1, .int p2])).length) Slot.unset).toArray = ls at hl ⊢
  have hl : lv_has ls 3 [(0, .ref h0), (1, .int p1), (2, .int p2)] := by exact hl
  obtain ⟨R, hRm⟩ : ∃ R : Room, R = (headSpec (zt_w yX12_townIn cX12_townIn 3 (some .int)) (zq_rm (1))).room := ⟨_, rfl⟩
  rw [← hRm]
  have hro : ∀ d q : Nat, d + 1 ≤ 1 → q ≤ 45 → zq_rok d q R := fun d q h1 h2 => by rw [hRm]; exact zq_rokI h1 h2
  generalize hQ : MQ below _ args s 0 0 (zq_A X) = Q
  obtain ⟨H, hH⟩ : ∃ H, H = s.heap := ⟨_, rfl⟩
  obtain ⟨locs, hlo⟩ : ∃ x : List Loc, x = [] := ⟨_, rfl⟩
  rw [show W p l e R s m args below meth c s.heap [] 0 0 Q = W p l e R s m args below meth c H locs 0 0 Q by rw [hH, hlo]]
  have hM : zq_hm X (zk, zn) I H := by rw [hH]; exact hM
  have hS : va_S (zq_A X) s.heap H locs := by rw [hH, hlo]; exact hS
  clear hH hlo
  refine lv_iload_n hx hb dX12_townIn_0 rfl (lv_at hl 1 rfl) ?_
  refine lv_aload_n hx hb dX12_townIn_1 rfl (lv_at hl 0 rfl) ?_
  refine zq_getr E hM k_h0 (zFX12_39 E hZ) ⟨by decide, by decide, by decide, rfl⟩ dX12_townIn_2 ?_
  have k101 : zq_k X (zq_r X h0 20) = 59 := zq_lk L.1 k_h0 rfl (by decide)
  refine lv_iconst (v := 3) hx hb dX12_townIn_5 (by decide +kernel) ?_
  refine zq_ian (n := 106) (j := 3) E hZ hM k101 ⟨by decide, rfl⟩ (by rw [zl_3]; decide) (by decide +kernel) dX12_townIn_6 (fun x102 ex102 gx102 => ?_)
  replace gx102 : 0 ≤ x102.toInt ∧ x102.toInt ≤ 4 := gx102
  refine lv_iconst (v := 1) hx hb dX12_townIn_7 (by decide +kernel) ?_
  refine lv_iadd hx hb dX12_townIn_8 ?_
  refine lv_topi (fun x103 ex103 => ?_)
  have tx103 := zi_add ex103 (rfl : x102.toInt = x102.toInt) (zl_1 : (1 : Int32).toInt = 1) ⟨by omega, by omega⟩
  refine lv_aload_n hx hb dX12_townIn_9 rfl (lv_at hl 0 rfl) ?_
  refine zq_getr E hM k_h0 (zFX12_39 E hZ) ⟨by decide, by decide, by decide, rfl⟩ dX12_townIn_10 ?_
  have k104 : zq_k X (zq_r X h0 20) = 59 := zq_lk L.1 k_h0 rfl (by decide)
  refine W.eq (g2 := F0 m 13 ls [.ref (zq_r X h0 20), .int x103, .int p1]) rfl ?_
  refine lv_iconst (v := 2) hx hb dX12_townIn_13 (by decide +kernel) ?_
  refine zq_ian (n := 106) (j := 2) E hZ hM k104 ⟨by decide, rfl⟩ (by rw [zl_2]; decide) (by decide +kernel) dX12_townIn_14 (fun x105 ex105 gx105 => ?_)
  replace gx105 : 0 ≤ x105.toInt ∧ x105.toInt ≤ 3 := gx105
  refine lv_iconst (v := 1) hx hb dX12_townIn_15 (by decide +kernel) ?_
  refine lv_isub hx hb dX12_townIn_16 ?_
  refine lv_topi (fun x106 ex106 => ?_)
  have tx106 := zi_sub ex106 (rfl : x105.toInt = x105.toInt) (zl_1 : (1 : Int32).toInt = 1) ⟨by omega, by omega⟩
  refine lv_iload_n hx hb dX12_townIn_17 rfl (lv_at hl 2 rfl) ?_
  refine lv_isub hx hb dX12_townIn_18 ?_
  refine lv_topi (fun x107 ex107 => ?_)
  have tx107 := zi_sub ex107 (rfl : x106.toInt = x106.toInt) (rfl : p2.toInt = p2.toInt) ⟨by omega, by omega⟩
  refine zq_pcalli (zq_rS (As := [.int x103, .int x107]) (rest := [.int p1]) E hZ hM (c_X12_power l X zk (zn) I L x103 x107 ⟨by omega, by omega⟩ ⟨by omega, by omega⟩) zmX12_404 zM_X12_power (hro (0) 4 (by first | decide | omega) (by decide)) hl.1 rfl rfl (Nat.le_of_ble_eq_true rfl) dX12_townIn_19) hS (fun x109 H locs h108 hM hS => ?_)
  have p110 := h108
  refine lv_idiv hx hb dX12_townIn_22 (fun q => by have := zi_eq q rfl zl_0; omega) ?_
  refine lv_topi (fun x111 ex111 => ?_)
  have tx111 := zi_divn ex111 (rfl : p1.toInt = p1.toInt) (rfl : x109.toInt = x109.toInt) (by omega) (by omega)
  have tx111 := zi_divb tx111 (by omega) (by omega)
  refine lv_aload_n hx hb dX12_townIn_23 rfl (lv_at hl 0 rfl) ?_
  refine zq_getr E hM k_h0 (zFX12_39 E hZ) ⟨by decide, by decide, by decide, rfl⟩ dX12_townIn_24 ?_
  have k112 : zq_k X (zq_r X h0 20) = 59 := zq_lk L.1 k_h0 rfl (by decide)
  refine W.eq (g2 := F0 m 27 ls [.ref (zq_r X h0 20), .int x111]) rfl ?_
  refine lv_iconst (v := 3) hx hb dX12_townIn_27 (by decide +kernel) ?_
  refine zq_iald (n := 106) (j := 3) (v := x102) E hZ hM k112 ⟨by decide, rfl⟩ (by rw [zl_3]; decide) (by decide +kernel) ex102 dX12_townIn_28 ?_
  refine lv_iconst (v := 1) hx hb dX12_townIn_29 (by decide +kernel) ?_
  refine lv_iadd hx hb dX12_townIn_30 ?_
  refine lv_topi (fun x114 ex114 => ?_)
  have tx114 := zi_add ex114 (rfl : x102.toInt = x102.toInt) (zl_1 : (1 : Int32).toInt = 1) ⟨by omega, by omega⟩
  refine lv_irem hx hb dX12_townIn_31 (fun q => by have := zi_eq q rfl zl_0; omega) ?_
  refine lv_topi (fun x115 ex115 => ?_)
  have tx115 := zi_rem ex115 (rfl : x111.toInt = x111.toInt) (rfl : x114.toInt = x114.toInt) (by omega) (by omega)
  have tx115 := zi_remb tx115 (by omega)
  refine lv_iconst (v := 1) hx hb dX12_townIn_32 (by decide +kernel) ?_
  refine lv_isub hx hb dX12_townIn_33 ?_
  refine lv_topi (fun x116 ex116 => ?_)
  have tx116 := zi_sub ex116 (rfl : x115.toInt = x115.toInt) (zl_1 : (1 : Int32).toInt = 1) ⟨by omega, by omega⟩
  subst hQ
  exact zq_iret E hr hZ hM hS ⟨rfl, (by omega)⟩ hlocks dX12_townIn_34
