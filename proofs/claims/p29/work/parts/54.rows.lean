def zw_X12_keeps : List (Nat × Nat) := [(61, 999)]
set_option maxHeartbeats 8000000 in
set_option maxRecDepth 100000 in
theorem c_X12_keeps (l : Launch) (X : zq_X) (zk zn : Nat) (I : zq_M) (L : zq_L X)  (h0 : Nat) (k_h0 : zq_k X h0 = 10) (q_0 : zk ≤ 4400 ∧ zn ≤ 4400) (q_1 : zn ≤ zk) : Met l yX12_keeps (zt_w yX12_keeps cX12_keeps 2 none) (zq_rm (0)) (va_Pc [.ref h0] (zq_W X (zk, zn) I)) (va_Qv (fun I2 => zq_fr (zf X zw_X12_keeps (fun _ => False)) I I2 ∧ (∀ j, j < 35 → I2 (zq_r X h0 26) j = I (zq_r X h0 20) (10 + j))) (zq_E X (zk, zn)) (zq_A X)) 0 0 (zq_A X) := by
  refine Met.ofW (cc := cX12_keeps) (maxL := 2) (ret := none) (by decide) rfl ?_
  intro p e s m args below meth c s₁ B hml hv
  obtain ⟨hargs, hM, hZ⟩ := hv
  have hown : s.vm.findClass RX12 = some m.cls := findClass_of_methodNamed B.named
  have hts := atoms_spec (ws := zt_w yX12_keeps cX12_keeps 2 none) B.pre
  have E : CallFix p m c cX12_keeps 2 s args (Cond.code yX12_keeps cX12_keeps 2 none :: zt) RX12 := ⟨B.exec, B.bytes, hml, hown, hts⟩
  have hx := B.exec
  have hb := B.bytes
  have hr := B.returns
  have hlocks := B.notSynchronized
  clear B
  have hS : va_S (zq_A X) s.heap s.heap [] := va_S.rf
  have hR : zq_fr (zf X zw_X12_keeps (fun _ => False)) I I := zq_fr.rf
  have hl := lv_entry ([.ref h0]) (n := 2) (by exact Nat.le_of_ble_eq_true rfl)
  have hg : entryFrame m args 2 = F0 m 0 ((lg_sl ([.ref h0]) ++ List.replicate (2 - (lg_sl ([.ref h0])).length) Slot.unset).toArray) [] := by rw [hargs]; exact lg_entry_eq m ([.ref h0]) 2
  rw [hg]
  clear hg hargs
  generalize (lg_sl ([.ref h0]) ++ List.replicate (2 - (lg_sl ([.ref h0])).length) Slot.unset).toArray = ls at hl ⊢
  have hl : lv_has ls 2 [(0, .ref h0)] := by exact hl
  obtain ⟨R, hRm⟩ : ∃ R : Room, R = (headSpec (zt_w yX12_keeps cX12_keeps 2 none) (zq_rm (0))).room := ⟨_, rfl⟩
  rw [← hRm]
  generalize hQ : MQ below _ args s 0 0 (zq_A X) = Q
  obtain ⟨H, hH⟩ : ∃ H, H = s.heap := ⟨_, rfl⟩
  obtain ⟨locs, hlo⟩ : ∃ x : List Loc, x = [] := ⟨_, rfl⟩
  rw [show W p l e R s m args below meth c s.heap [] 0 0 Q = W p l e R s m args below meth c H locs 0 0 Q by rw [hH, hlo]]
  have hM : zq_hm X (zk, zn) I H := by rw [hH]; exact hM
  have hS : va_S (zq_A X) s.heap H locs := by rw [hH, hlo]; exact hS
  clear hH hlo
  have hA9 : ∀ j, I (zq_r X h0 20) j = I (zq_r X h0 20) j := fun _ => rfl
  have hE9 : ∀ j : Nat, (j : Int) < 0 → I (zq_r X h0 26) (j) = I (zq_r X h0 20) (10 + j) := fun j hj => absurd hj (by omega)
  refine lv_iconst (v := 0) hx hb dX12_keeps_0 (by decide +kernel) ?_
  refine lv_istore_n (lv' := [(1, .int (0 : Int32)), (0, .ref h0)]) hx hb dX12_keeps_1 rfl hl (by decide) rfl (fun ls hl => ?_)
  have J2 : ∀ (n153 : Nat) (I150 : zq_M) (H : Heap) (locs : List Loc) (ls : Array Slot) (j149 : Int32), 35 + 1 - j149.toInt ≤ ((n153 : Nat) : Int) → (zq_hm X (zk, zn) I150 H) → (va_S (zq_A X) s.heap H locs) → (zq_fr (zf X zw_X12_keeps (fun _ => False)) I I150) → (0 ≤ j149.toInt ∧ j149.toInt ≤ 35) → (∀ j, I150 (zq_r X h0 20) j = I (zq_r X h0 20) j) → (∀ j : Nat, (j : Int) < j149.toInt → I150 (zq_r X h0 26) (j) = I (zq_r X h0 20) (10 + j)) → (lv_has ls 2 [(1, .int j149), (0, .ref h0)]) → W p l e R s m args below meth c H locs 0 0 Q (F0 m 2 ls []) := by
    intro n153
    induction n153 with
    | zero => intro I150 H locs ls j149 mu154 hM hS hR gj149 F151 F152 hl; exfalso; have := zi_rng j149; omega
    | succ n153 ih2 =>
      intro I150 H locs ls j149 mu154 hM hS hR gj149 F151 F152 hl
      refine lv_iload_n hx hb dX12_keeps_2 rfl (lv_at hl 0 rfl) ?_
      refine lv_bipush (v := 35) hx hb dX12_keeps_3 (by decide +kernel) ?_
      refine lv_icmp_ge (tgt := 29) hx hb dX12_keeps_5 (by decide) (fun b155 => ?_) (fun b155 => ?_)
      · have b155 := zi_le b155 (zl_35 : (35 : Int32).toInt = 35) (rfl : j149.toInt = j149.toInt)
        subst hQ
        exact zq_vret E hr hZ hM hS ⟨hR, (fun j hj => F152 j (by omega))⟩ hlocks dX12_keeps_29
      · have b155 := zi_nle b155 (zl_35 : (35 : Int32).toInt = 35) (rfl : j149.toInt = j149.toInt)
        refine lv_aload_n hx hb dX12_keeps_8 rfl (lv_at hl 1 rfl) ?_
        refine zq_getr E hM k_h0 (zFX12_52 E hZ) ⟨by decide, by decide, by decide, rfl⟩ dX12_keeps_9 ?_
        have k156 : zq_k X (zq_r X h0 26) = 61 := zq_lk L.1 k_h0 rfl (by decide)
        refine lv_iload_n hx hb dX12_keeps_12 rfl (lv_at hl 0 rfl) ?_
        refine lv_aload_n hx hb dX12_keeps_13 rfl (lv_at hl 1 rfl) ?_
        refine zq_getr E hM k_h0 (zFX12_39 E hZ) ⟨by decide, by decide, by decide, rfl⟩ dX12_keeps_14 ?_
        have k157 : zq_k X (zq_r X h0 20) = 59 := zq_lk L.1 k_h0 rfl (by decide)
        refine lv_bipush (v := 10) hx hb dX12_keeps_17 (by decide +kernel) ?_
        refine lv_iload_n hx hb dX12_keeps_19 rfl (lv_at hl 0 rfl) ?_
        refine lv_iadd hx hb dX12_keeps_20 ?_
        refine lv_topi (fun x158 ex158 => ?_)
        have tx158 := zi_add ex158 (zl_10 : (10 : Int32).toInt = 10) (rfl : j149.toInt = j149.toInt) ⟨by omega, by omega⟩
        refine zq_ian (n := 106) (j := (x158.toNatClampNeg)) E hZ hM k157 ⟨by decide, rfl⟩ ⟨by omega, by omega⟩ rfl dX12_keeps_21 (fun x159 ex159 gx159 => ?_)
        refine W.eq (g2 := F0 m 22 ls [.int x159, .int j149, .ref (zq_r X h0 26)]) rfl ?_
        refine zq_isn (n := 35) (j := (j149.toNatClampNeg)) E hZ hM hS k156 ⟨by decide, rfl⟩ ⟨by omega, by omega⟩ rfl (zk_a gx159 (by have := zq_cl (i := j149) (by omega); have := zq_cl (i := x158) (by omega); omega) (by omega)) dX12_keeps_22 (fun I160 H locs eI160 hM hS => ?_)
        have hR := zq_fr.putE hR eI160 (zf_ia k156 (by decide) rfl)
        have hA161 := fun j => zq_kp eI160 (Or.inl (zq_kne (zq_lk L.1 k_h0 rfl (by decide) : zq_k X (zq_r X h0 20) = 59) k156 (by decide))) (F151 j)
        have hE162 : ∀ j : Nat, (j : Int) < j149.toInt + 1 → I160 (zq_r X h0 26) (j) = I (zq_r X h0 20) (10 + j) := by
          intro j hj
          have h1 := zq_cl (i := j149) (by omega)
          have h3 := zq_cl (i := x158) (by omega)
          by_cases q : (j : Int) = j149.toInt
          · rw [show 10 + j = x158.toNatClampNeg by omega, show j = j149.toNatClampNeg by omega, zq_kv eI160]; exact ((F151 _).symm.trans ex159).symm
          · exact zq_kp eI160 (Or.inr (by omega)) (F152 j (by omega))
        obtain ⟨x163, ex163⟩ : ∃ y : Int32, y = j149 + 1 := ⟨_, rfl⟩
        have tx163 := zi_add ex163 (rfl : j149.toInt = j149.toInt) zl_1 ⟨by omega, by omega⟩
        refine lv_iinc (v := x163) (lv' := [(1, .int x163), (0, .ref h0)]) hx hb dX12_keeps_23 hl (k := 0) rfl (by rw [ex163]; rfl) (by decide) rfl (fun ls hl => ?_)
        refine lv_goto (tgt := 2) hx hb dX12_keeps_26 (by decide) ?_
        have hE164 : ∀ j : Nat, (j : Int) < x163.toInt → I160 (zq_r X h0 26) (j) = I (zq_r X h0 20) (10 + j) := by rw [show x163.toInt = j149.toInt + 1 by omega]; exact hE162
        exact ih2 I160 H locs ls x163 (by omega) hM hS hR (⟨by omega, by omega⟩) hA161 hE164 (lv_sub hl [0, 1] rfl)
  exact J2 (35 + 1 - (0 : Int32).toInt).toNat I H locs ls (0 : Int32) (by omega) hM hS hR (by rw [zl_0]; decide) hA9 (fun j hj => absurd hj (by have := zl_0; omega)) (lv_sub hl [0, 1] rfl)
def zw_X12_laysBack : List (Nat × Nat) := [(59, 999)]
set_option maxHeartbeats 8000000 in
set_option maxRecDepth 100000 in
theorem c_X12_laysBack (l : Launch) (X : zq_X) (zk zn : Nat) (I : zq_M) (L : zq_L X)  (h0 : Nat) (k_h0 : zq_k X h0 = 10) (q_0 : zk ≤ 4400 ∧ zn ≤ 4400) : Met l yX12_laysBack (zt_w yX12_laysBack cX12_laysBack 2 none) (zq_rm (0)) (va_Pc [.ref h0] (zq_W X (zk, zn) I)) (va_Qv (fun I2 => zq_fr (zf X zw_X12_laysBack (fun _ => False)) I I2 ∧ (∀ j, j < 35 → I2 (zq_r X h0 20) (10 + j) = I (zq_r X h0 26) j)) (zq_E X (zk, zk)) (zq_A X)) 0 0 (zq_A X) := by
  refine Met.ofW (cc := cX12_laysBack) (maxL := 2) (ret := none) (by decide) rfl ?_
  intro p e s m args below meth c s₁ B hml hv
  obtain ⟨hargs, hM, hZ⟩ := hv
  have hown : s.vm.findClass RX12 = some m.cls := findClass_of_methodNamed B.named
  have hts := atoms_spec (ws := zt_w yX12_laysBack cX12_laysBack 2 none) B.pre
  have E : CallFix p m c cX12_laysBack 2 s args (Cond.code yX12_laysBack cX12_laysBack 2 none :: zt) RX12 := ⟨B.exec, B.bytes, hml, hown, hts⟩
  have hx := B.exec
  have hb := B.bytes
  have hr := B.returns
  have hlocks := B.notSynchronized
  clear B
  have hS : va_S (zq_A X) s.heap s.heap [] := va_S.rf
  have hR : zq_fr (zf X zw_X12_laysBack (fun _ => False)) I I := zq_fr.rf
  have hl := lv_entry ([.ref h0]) (n := 2) (by exact Nat.le_of_ble_eq_true rfl)
  have hg : entryFrame m args 2 = F0 m 0 ((lg_sl ([.ref h0]) ++ List.replicate (2 - (lg_sl ([.ref h0])).length) Slot.unset).toArray) [] := by rw [hargs]; exact lg_entry_eq m ([.ref h0]) 2
  rw [hg]
  clear hg hargs
  generalize (lg_sl ([.ref h0]) ++ List.replicate (2 - (lg_sl ([.ref h0])).length) Slot.unset).toArray = ls at hl ⊢
  have hl : lv_has ls 2 [(0, .ref h0)] := by exact hl
  obtain ⟨R, hRm⟩ : ∃ R : Room, R = (headSpec (zt_w yX12_laysBack cX12_laysBack 2 none) (zq_rm (0))).room := ⟨_, rfl⟩
  rw [← hRm]
  generalize hQ : MQ below _ args s 0 0 (zq_A X) = Q
  obtain ⟨H, hH⟩ : ∃ H, H = s.heap := ⟨_, rfl⟩
  obtain ⟨locs, hlo⟩ : ∃ x : List Loc, x = [] := ⟨_, rfl⟩
  rw [show W p l e R s m args below meth c s.heap [] 0 0 Q = W p l e R s m args below meth c H locs 0 0 Q by rw [hH, hlo]]
  have hM : zq_hm X (zk, zn) I H := by rw [hH]; exact hM
  have hS : va_S (zq_A X) s.heap H locs := by rw [hH, hlo]; exact hS
  clear hH hlo
  have hL9 : zLB I (zq_r X h0 20) zk 0 := zLB.none (by omega)
  have hA9 : ∀ j, I (zq_r X h0 26) j = I (zq_r X h0 26) j := fun _ => rfl
  have hE9 : ∀ j : Nat, (j : Int) < 0 → I (zq_r X h0 20) (10 + j) = I (zq_r X h0 26) (j) := fun j hj => absurd hj (by omega)
  have hM : zq_hm X (zk, (zn + zk)) I H := zq_hm.mono hM (Nat.le_refl _) (by omega)
  refine lv_iconst (v := 0) hx hb dX12_laysBack_0 (by decide +kernel) ?_
  refine lv_istore_n (lv' := [(1, .int (0 : Int32)), (0, .ref h0)]) hx hb dX12_laysBack_1 rfl hl (by decide) rfl (fun ls hl => ?_)
  have J2 : ∀ (n162 : Nat) (I158 : zq_M) (H : Heap) (locs : List Loc) (ls : Array Slot) (j157 : Int32), 35 + 1 - j157.toInt ≤ ((n162 : Nat) : Int) → (zq_hm X (zk, (zn + zk)) I158 H) → (va_S (zq_A X) s.heap H locs) → (zq_fr (zf X zw_X12_laysBack (fun _ => False)) I I158) → (0 ≤ j157.toInt ∧ j157.toInt ≤ 35) → (zLB I158 (zq_r X h0 20) zk (j157.toInt)) → (∀ j, I158 (zq_r X h0 26) j = I (zq_r X h0 26) j) → (∀ j : Nat, (j : Int) < j157.toInt → I158 (zq_r X h0 20) (10 + j) = I (zq_r X h0 26) (j)) → (lv_has ls 2 [(1, .int j157), (0, .ref h0)]) → W p l e R s m args below meth c H locs 0 0 Q (F0 m 2 ls []) := by
    intro n162
    induction n162 with
    | zero => intro I158 H locs ls j157 mu163 hM hS hR gj157 F159 F160 F161 hl; exfalso; have := zi_rng j157; omega
    | succ n162 ih2 =>
      intro I158 H locs ls j157 mu163 hM hS hR gj157 F159 F160 F161 hl
      refine lv_iload_n hx hb dX12_laysBack_2 rfl (lv_at hl 0 rfl) ?_
      refine lv_bipush (v := 35) hx hb dX12_laysBack_3 (by decide +kernel) ?_
      refine lv_icmp_ge (tgt := 29) hx hb dX12_laysBack_5 (by decide) (fun b164 => ?_) (fun b164 => ?_)
      · have b164 := zi_le b164 (zl_35 : (35 : Int32).toInt = 35) (rfl : j157.toInt = j157.toInt)
        have hM := zq_hm.low hM L (zq_lk L.1 k_h0 rfl (by decide) : zq_k X (zq_r X h0 20) = 59) (by have q := F159; rw [show j157.toInt = 35 by omega] at q; exact q)
        subst hQ
        exact zq_vret E hr hZ hM hS ⟨hR, (fun j hj => F161 j (by omega))⟩ hlocks dX12_laysBack_29
      · have b164 := zi_nle b164 (zl_35 : (35 : Int32).toInt = 35) (rfl : j157.toInt = j157.toInt)
        refine lv_aload_n hx hb dX12_laysBack_8 rfl (lv_at hl 1 rfl) ?_
        refine zq_getr E hM k_h0 (zFX12_39 E hZ) ⟨by decide, by decide, by decide, rfl⟩ dX12_laysBack_9 ?_
        have k165 : zq_k X (zq_r X h0 20) = 59 := zq_lk L.1 k_h0 rfl (by decide)
        refine lv_bipush (v := 10) hx hb dX12_laysBack_12 (by decide +kernel) ?_
        refine lv_iload_n hx hb dX12_laysBack_14 rfl (lv_at hl 0 rfl) ?_
        refine lv_iadd hx hb dX12_laysBack_15 ?_
        refine lv_topi (fun x166 ex166 => ?_)
        have tx166 := zi_add ex166 (zl_10 : (10 : Int32).toInt = 10) (rfl : j157.toInt = j157.toInt) ⟨by omega, by omega⟩
        refine lv_aload_n hx hb dX12_laysBack_16 rfl (lv_at hl 1 rfl) ?_
        refine zq_getr E hM k_h0 (zFX12_52 E hZ) ⟨by decide, by decide, by decide, rfl⟩ dX12_laysBack_17 ?_
        have k167 : zq_k X (zq_r X h0 26) = 61 := zq_lk L.1 k_h0 rfl (by decide)
        refine lv_iload_n hx hb dX12_laysBack_20 rfl (lv_at hl 0 rfl) ?_
        refine zq_ian (n := 35) (j := (j157.toNatClampNeg)) E hZ hM k167 ⟨by decide, rfl⟩ ⟨by omega, by omega⟩ rfl dX12_laysBack_21 (fun x168 ex168 gx168 => ?_)
        refine W.eq (g2 := F0 m 22 ls [.int x168, .int x166, .ref (zq_r X h0 20)]) rfl ?_
        refine zq_isn (n := 106) (j := (x166.toNatClampNeg)) E hZ hM hS k165 ⟨by decide, rfl⟩ ⟨by omega, by omega⟩ rfl (zk_b gx168 (by have := zq_cl (i := x166) (by omega); have := zq_cl (i := j157) (by omega); omega) (by omega)) dX12_laysBack_22 (fun I169 H locs eI169 hM hS => ?_)
        have hR := zq_fr.putE hR eI169 (zf_ia k165 (by decide) rfl)
        have hL170 : zLB I169 (zq_r X h0 20) zk (j157.toInt + 1) := zLB.put F159 eI169 (by have := zq_cl (i := x166) (by omega); omega) rfl (by rw [show x166.toNatClampNeg = 10 + j157.toNatClampNeg by have := zq_cl (i := x166) (by omega); have := zq_cl (i := j157) (by omega); omega]; exact gx168)
        have hA171 := fun j => zq_kp eI169 (Or.inl (zq_kne (zq_lk L.1 k_h0 rfl (by decide) : zq_k X (zq_r X h0 26) = 61) k165 (by decide))) (F160 j)
        have hE172 : ∀ j : Nat, (j : Int) < j157.toInt + 1 → I169 (zq_r X h0 20) (10 + j) = I (zq_r X h0 26) (j) := by
          intro j hj
          have h1 := zq_cl (i := j157) (by omega); have h2 := zq_cl (i := x166) (by omega)
          by_cases q : (j : Int) = j157.toInt
          · rw [show 10 + j = x166.toNatClampNeg by omega, show j = j157.toNatClampNeg by omega, zq_kv eI169]; exact ((F160 _).symm.trans ex168).symm
          · exact zq_kp eI169 (Or.inr (by omega)) (F161 j (by omega))
        obtain ⟨x173, ex173⟩ : ∃ y : Int32, y = j157 + 1 := ⟨_, rfl⟩
        have tx173 := zi_add ex173 (rfl : j157.toInt = j157.toInt) zl_1 ⟨by omega, by omega⟩
        refine lv_iinc (v := x173) (lv' := [(1, .int x173), (0, .ref h0)]) hx hb dX12_laysBack_23 hl (k := 0) rfl (by rw [ex173]; rfl) (by decide) rfl (fun ls hl => ?_)
        refine lv_goto (tgt := 2) hx hb dX12_laysBack_26 (by decide) ?_
        have hL174 : zLB I169 (zq_r X h0 20) zk (x173.toInt) := by rw [show x173.toInt = j157.toInt + 1 by omega]; exact hL170
        have hE175 : ∀ j : Nat, (j : Int) < x173.toInt → I169 (zq_r X h0 20) (10 + j) = I (zq_r X h0 26) (j) := by rw [show x173.toInt = j157.toInt + 1 by omega]; exact hE172
        exact ih2 I169 H locs ls x173 (by omega) hM hS hR (⟨by omega, by omega⟩) hL174 hA171 hE175 (lv_sub hl [0, 1] rfl)
  exact J2 (35 + 1 - (0 : Int32).toInt).toNat I H locs ls (0 : Int32) (by omega) hM hS hR (by rw [zl_0]; decide) (zLB.none (by have := zl_0; omega)) hA9 (fun j hj => absurd hj (by have := zl_0; omega)) (lv_sub hl [0, 1] rfl)
def zw_X12_moneyIn : List (Nat × Nat) := [(10, 18), (59, 999)]
set_option maxHeartbeats 8000000 in
set_option maxRecDepth 100000 in
theorem c_X12_moneyIn (l : Launch) (X : zq_X) (zk zn : Nat) (I : zq_M) (L : zq_L X)  (h0 : Nat) (k_h0 : zq_k X h0 = 10) (p1 : Int32) (g_p1 : 0 ≤ p1.toInt ∧ p1.toInt ≤ 60) (q_0 : zk ≤ 4400 ∧ zn ≤ 4400) (q_1 : zWF X I h0) (q_2 : zn ≤ 4100) : Met l yX12_moneyIn (zt_w yX12_moneyIn cX12_moneyIn 3 (some .int)) (zq_rm (5)) (va_Pc [.ref h0, .int p1] (zq_W X (zk, zn) I)) (va_Qi (fun (r : Int32) I2 => zq_fr (zf X zw_X12_moneyIn (fun _ => False)) I I2 ∧ (∀ j, j < 35 → I2 (zq_r X h0 20) (10 + j) = I (zq_r X h0 26) j)) (zq_E X (zk, zk)) (zq_A X)) 0 0 (zq_A X) := by
  refine Met.ofW (cc := cX12_moneyIn) (maxL := 3) (ret := (some .int)) (by decide) rfl ?_
  intro p e s m args below meth c s₁ B hml hv
  obtain ⟨hargs, hM, hZ⟩ := hv
  have hown : s.vm.findClass RX12 = some m.cls := findClass_of_methodNamed B.named
  have hts := atoms_spec (ws := zt_w yX12_moneyIn cX12_moneyIn 3 (some .int)) B.pre
  have E : CallFix p m c cX12_moneyIn 3 s args (Cond.code yX12_moneyIn cX12_moneyIn 3 (some .int) :: zt) RX12 := ⟨B.exec, B.bytes, hml, hown, hts⟩
  have hx := B.exec
  have hb := B.bytes
  have hr := B.returns
  have hlocks := B.notSynchronized
  clear B
  have hS : va_S (zq_A X) s.heap s.heap [] := va_S.rf
  have hR : zq_fr (zf X zw_X12_moneyIn (fun _ => False)) I I := zq_fr.rf
  have hl := lv_entry ([.ref h0, .int p1]) (n := 3) (by exact Nat.le_of_ble_eq_true rfl)
  have hg : entryFrame m args 3 = F0 m 0 ((lg_sl ([.ref h0, .int p1]) ++ List.replicate (3 - (lg_sl ([.ref h0, .int p1])).length) Slot.unset).toArray) [] := by rw [hargs]; exact lg_entry_eq m ([.ref h0, .int p1]) 3
  rw [hg]
  clear hg hargs
  generalize (lg_sl ([.ref h0, .int p1]) ++ List.replicate (3 - (lg_sl ([.ref h0, .int p1])).length) Slot.unset).toArray = ls at hl ⊢
  have hl : lv_has ls 3 [(0, .ref h0), (1, .int p1)] := by exact hl
  obtain ⟨R, hRm⟩ : ∃ R : Room, R = (headSpec (zt_w yX12_moneyIn cX12_moneyIn 3 (some .int)) (zq_rm (5))).room := ⟨_, rfl⟩
  rw [← hRm]
  have hro : ∀ d q : Nat, d + 1 ≤ 5 → q ≤ 45 → zq_rok d q R := fun d q h1 h2 => by rw [hRm]; exact zq_rokI h1 h2
  generalize hQ : MQ below _ args s 0 0 (zq_A X) = Q
  obtain ⟨H, hH⟩ : ∃ H, H = s.heap := ⟨_, rfl⟩
  obtain ⟨locs, hlo⟩ : ∃ x : List Loc, x = [] := ⟨_, rfl⟩
  rw [show W p l e R s m args below meth c s.heap [] 0 0 Q = W p l e R s m args below meth c H locs 0 0 Q by rw [hH, hlo]]
  have hM : zq_hm X (zk, zn) I H := by rw [hH]; exact hM
  have hS : va_S (zq_A X) s.heap H locs := by rw [hH, hlo]; exact hS
  clear hH hlo
  have hA9 : ∀ j, I (zq_r X h0 26) j = I (zq_r X h0 26) j := fun _ => rfl
  refine lv_iconst (v := 0) hx hb dX12_moneyIn_0 (by decide +kernel) ?_
  refine lv_istore_n (lv' := [(2, .int (0 : Int32)), (0, .ref h0), (1, .int p1)]) hx hb dX12_moneyIn_1 rfl hl (by decide) rfl (fun ls hl => ?_)
  have J2 : ∀ (n189 : Nat) (I185 : zq_M) (H : Heap) (locs : List Loc) (ls : Array Slot) (zv188 : Nat) (j184 : Int32), 60 + 1 - j184.toInt ≤ ((n189 : Nat) : Int) → (zq_hm X (zk, zv188) I185 H) → (va_S (zq_A X) s.heap H locs) → (zq_fr (zf X zw_X12_moneyIn (fun _ => False)) I I185) → (0 ≤ j184.toInt ∧ j184.toInt ≤ 60) → (zWF X I185 h0) → (∀ j, I185 (zq_r X h0 26) j = I (zq_r X h0 26) j) → (((zv188 : Nat) : Int) ≤ ((zn : Nat) : Int) + 4 * j184.toInt) → (lv_has ls 3 [(2, .int j184), (0, .ref h0), (1, .int p1)]) → W p l e R s m args below meth c H locs 0 0 Q (F0 m 2 ls []) := by
    intro n189
    induction n189 with
    | zero => intro I185 H locs ls zv188 j184 mu190 hM hS hR gj184 F186 F187 hz2 hl; exfalso; have := zi_rng j184; omega
    | succ n189 ih2 =>
      intro I185 H locs ls zv188 j184 mu190 hM hS hR gj184 F186 F187 hz2 hl
      refine lv_iload_n hx hb dX12_moneyIn_2 rfl (lv_at hl 0 rfl) ?_
      refine lv_iload_n hx hb dX12_moneyIn_3 rfl (lv_at hl 2 rfl) ?_
      refine lv_icmp_ge (tgt := 18) hx hb dX12_moneyIn_4 (by decide) (fun b191 => ?_) (fun b191 => ?_)
      · have b191 := zi_le b191 (rfl : p1.toInt = p1.toInt) (rfl : j184.toInt = j184.toInt)
        refine lv_aload_n hx hb dX12_moneyIn_18 rfl (lv_at hl 1 rfl) ?_
        refine zq_getr E hM k_h0 (zFX12_39 E hZ) ⟨by decide, by decide, by decide, rfl⟩ dX12_moneyIn_19 ?_
        have k192 : zq_k X (zq_r X h0 20) = 59 := zq_lk L.1 k_h0 rfl (by decide)
        refine lv_bipush (v := 10) hx hb dX12_moneyIn_22 (by decide +kernel) ?_
        refine zq_ian (n := 106) (j := 10) E hZ hM k192 ⟨by decide, rfl⟩ (by rw [zl_10]; decide) (by decide +kernel) dX12_moneyIn_24 (fun x193 ex193 gx193 => ?_)
        clear gx193
        refine lv_istore_n (lv' := [(2, .int x193), (0, .ref h0), (1, .int p1)]) hx hb dX12_moneyIn_25 rfl hl (by decide) rfl (fun ls hl => ?_)
        refine lv_aload_n hx hb dX12_moneyIn_26 rfl (lv_at hl 1 rfl) ?_
        refine zq_callv (zq_rV (As := []) (rest := []) E hZ hM k_h0 (c_X12_laysBack l X zk (zv188) I185 L h0 k_h0 (by omega)) zmX12_391 zM_X12_laysBack (hro (0) 2 (by first | decide | omega) (by decide)) ⟨by decide, by decide⟩ rfl hl.1 rfl rfl (Nat.le_of_ble_eq_true rfl) dX12_moneyIn_27) hS (fun I196 H locs h194 hM hS => ?_)
        obtain ⟨fr197, p198⟩ := h194
        have hR := zq_fr.call hR fr197 (zf_sub (by decide +kernel) (fun _ _ q => q.elim))
        have hWF199 := zWF.fr F186 L k_h0 fr197 (by decide)
        have hA200 := fun j => zq_fr.kp fr197 (zf_n (zq_lk L.1 k_h0 rfl (by decide) : zq_k X (zq_r X h0 26) = 61) rfl) (F187 j)
        refine lv_iload_n hx hb dX12_moneyIn_30 rfl (lv_at hl 0 rfl) ?_
        subst hQ
        exact zq_iret E hr hZ hM hS ⟨hR, (fun j hj => (p198 j hj).trans (F187 j))⟩ hlocks dX12_moneyIn_31
      · have b191 := zi_nle b191 (rfl : p1.toInt = p1.toInt) (rfl : j184.toInt = j184.toInt)
        refine lv_aload_n hx hb dX12_moneyIn_7 rfl (lv_at hl 1 rfl) ?_
        refine zq_calli (zq_rV (As := []) (rest := []) E hZ hM k_h0 (c_X12_passes l X zk (zv188) I185 L h0 k_h0 (by omega) (F186) (by omega)) zmX12_363 zM_X12_passes (hro (4) 3 (by first | decide | omega) (by decide)) ⟨by decide, by decide⟩ rfl hl.1 rfl rfl (Nat.le_of_ble_eq_true rfl) dX12_moneyIn_8) hS (fun x202 I203 H locs h201 hM hS => ?_)
        have fr204 := h201
        have hR := zq_fr.call hR fr204 (zf_sub (by decide +kernel) (fun _ _ q => q.elim))
        have hWF205 := zWF.fr F186 L k_h0 fr204 (by decide)
        have hA206 := fun j => zq_fr.kp fr204 (zf_n (zq_lk L.1 k_h0 rfl (by decide) : zq_k X (zq_r X h0 26) = 61) rfl) (F187 j)
        refine lv_pop hx hb dX12_moneyIn_11 rfl ?_
        obtain ⟨x207, ex207⟩ : ∃ y : Int32, y = j184 + 1 := ⟨_, rfl⟩
        have tx207 := zi_add ex207 (rfl : j184.toInt = j184.toInt) zl_1 ⟨by omega, by omega⟩
        refine lv_iinc (v := x207) (lv' := [(2, .int x207), (0, .ref h0), (1, .int p1)]) hx hb dX12_moneyIn_12 hl (k := 0) rfl (by rw [ex207]; rfl) (by decide) rfl (fun ls hl => ?_)
        refine lv_goto (tgt := 2) hx hb dX12_moneyIn_15 (by decide) ?_
        exact ih2 I203 H locs ls ((zv188 + 4)) x207 (by omega) hM hS hR (⟨by omega, by omega⟩) hWF205 hA206 (by have := zl_0; omega) (lv_sub hl [0, 1, 2] rfl)
  exact J2 (60 + 1 - (0 : Int32).toInt).toNat I H locs ls (zn) (0 : Int32) (by omega) hM hS hR (by rw [zl_0]; decide) q_1 hA9 (by have := zl_0; omega) (lv_sub hl [0, 1, 2] rfl)
def zw_X12_ahead : List (Nat × Nat) := [(10, 18), (59, 999), (61, 999)]
set_option maxHeartbeats 8000000 in
set_option maxRecDepth 100000 in
theorem c_X12_ahead (l : Launch) (X : zq_X) (zk zn : Nat) (I : zq_M) (L : zq_L X)  (h0 : Nat) (k_h0 : zq_k X h0 = 10) (p1 : Int32) (p2 : Int32) (p3 : Int32) (q_0 : zk ≤ 4400 ∧ zn ≤ 4400) (q_1 : zWF X I h0) (q_2 : zk ≤ 2200) : Met l yX12_ahead (zt_w yX12_ahead cX12_ahead 5 (some .int)) (zq_rm (5)) (va_Pc [.ref h0, .int p1, .int p2, .int p3] (zq_W X (zk, zk) I)) (va_Qi (fun (r : Int32) I2 => zq_fr (zf X zw_X12_ahead (fun _ => False)) I I2) (zq_E X (zk, zk)) (zq_A X)) 0 0 (zq_A X) := by
  refine Met.ofW (cc := cX12_ahead) (maxL := 5) (ret := (some .int)) (by decide) rfl ?_
  intro p e s m args below meth c s₁ B hml hv
  obtain ⟨hargs, hM, hZ⟩ := hv
  have hown : s.vm.findClass RX12 = some m.cls := findClass_of_methodNamed B.named
  have hts := atoms_spec (ws := zt_w yX12_ahead cX12_ahead 5 (some .int)) B.pre
  have E : CallFix p m c cX12_ahead 5 s args (Cond.code yX12_ahead cX12_ahead 5 (some .int) :: zt) RX12 := ⟨B.exec, B.bytes, hml, hown, hts⟩
  have hx := B.exec
  have hb := B.bytes
  have hr := B.returns
  have hlocks := B.notSynchronized
  clear B
  have hS : va_S (zq_A X) s.heap s.heap [] := va_S.rf
  have hR : zq_fr (zf X zw_X12_ahead (fun _ => False)) I I := zq_fr.rf
  have hl := lv_entry ([.ref h0, .int p1, .int p2, .int p3]) (n := 5) (by exact Nat.le_of_ble_eq_true rfl)
  have hg : entryFrame m args 5 = F0 m 0 ((lg_sl ([.ref h0, .int p1, .int p2, .int p3]) ++ List.replicate (5 - (lg_sl ([.ref h0, .int p1, .int p2, .int p3])).length) Slot.unset).toArray) [] := by rw [hargs]; exact lg_entry_eq m ([.ref h0, .int p1, .int p2, .int p3]) 5
  rw [hg]
  clear hg hargs
  generalize (lg_sl ([.ref h0, .int p1, .int p2, .int p3]) ++ List.replicate (5 - (lg_sl ([.ref h0, .int p1, .int p2, .int p3])).length) Slot.unset).toArray = ls at hl ⊢
  have hl : lv_has ls 5 [(0, .ref h0), (1, .int p1), (2, .int p2), (3, .int p3)] := by exact hl
  obtain ⟨R, hRm⟩ : ∃ R : Room, R = (headSpec (zt_w yX12_ahead cX12_ahead 5 (some .int)) (zq_rm (5))).room := ⟨_, rfl⟩
  rw [← hRm]
  have hro : ∀ d q : Nat, d + 1 ≤ 5 → q ≤ 45 → zq_rok d q R := fun d q h1 h2 => by rw [hRm]; exact zq_rokI h1 h2
  generalize hQ : MQ below _ args s 0 0 (zq_A X) = Q
  obtain ⟨H, hH⟩ : ∃ H, H = s.heap := ⟨_, rfl⟩
  obtain ⟨locs, hlo⟩ : ∃ x : List Loc, x = [] := ⟨_, rfl⟩
  rw [show W p l e R s m args below meth c s.heap [] 0 0 Q = W p l e R s m args below meth c H locs 0 0 Q by rw [hH, hlo]]
  have hM : zq_hm X (zk, zk) I H := by rw [hH]; exact hM
  have hS : va_S (zq_A X) s.heap H locs := by rw [hH, hlo]; exact hS
  clear hH hlo
  refine lv_aload_n hx hb dX12_ahead_0 rfl (lv_at hl 0 rfl) ?_
  refine zq_pcalli (zq_rV (As := []) (rest := []) E hZ hM k_h0 (c_X12_isTrade l X zk (zk) I L h0 k_h0 (by omega)) zmX12_357 zM_X12_isTrade (hro (0) 1 (by first | decide | omega) (by decide)) ⟨by decide, by decide⟩ rfl hl.1 rfl rfl (Nat.le_of_ble_eq_true rfl) dX12_ahead_1) hS (fun x102 H locs h101 hM hS => ?_)
  have p103 := h101
  refine lv_if_eq (tgt := 44) hx hb dX12_ahead_4 (by decide) (fun b104 => ?_) (fun b104 => ?_)
  · have b104 := zi_eq b104 (rfl : x102.toInt = x102.toInt) (zl_0 : (0 : Int32).toInt = 0)
    refine lv_iconst (v := (-1)) hx hb dX12_ahead_44 (by decide +kernel) ?_
    subst hQ
    exact zq_iret E hr hZ hM hS hR hlocks dX12_ahead_45
  · have b104 := zi_ne b104 (rfl : x102.toInt = x102.toInt) (zl_0 : (0 : Int32).toInt = 0)
    refine lv_iload_n hx hb dX12_ahead_7 rfl (lv_at hl 2 rfl) ?_
    refine lv_i2l hx hb dX12_ahead_8 rfl ?_
    refine lv_topl (fun y105 ey105 => ?_)
    have ty105 := zi_i2l ey105
    have := zi_rng p2
    refine lv_lconst (v := 0) hx hb dX12_ahead_9 (by decide +kernel) ?_
    refine W.ldc2 (v := 60) hx hb hown (hts _ (List.mem_cons_of_mem _ zCX12_384)) rfl dX12_ahead_10 ?_
    refine W.eq (g2 := F0 m 13 ls [.long (60 : Int64), .long (0 : Int64), .long y105]) rfl ?_
    refine zq_pcalli (zq_rS (As := [.long y105, .long (0 : Int64), .long (60 : Int64)]) (rest := []) E hZ hM (c_X12_in l X zk (zk) I L y105 (0 : Int64) (60 : Int64)) zmX12_112 zM_X12_in (hro (0) 6 (by first | decide | omega) (by decide)) hl.1 rfl rfl (Nat.le_of_ble_eq_true rfl) dX12_ahead_13) hS (fun x107 H locs h106 hM hS => ?_)
    obtain ⟨p108, p109⟩ := h106
    have : (0 : Int64).toInt = 0 := by decide +kernel
    have : (60 : Int64).toInt = 60 := by decide +kernel
    refine lv_if_eq (tgt := 44) hx hb dX12_ahead_16 (by decide) (fun b110 => ?_) (fun b110 => ?_)
    · have b110 := zi_eq b110 (rfl : x107.toInt = x107.toInt) (zl_0 : (0 : Int32).toInt = 0)
      refine lv_iconst (v := (-1)) hx hb dX12_ahead_44 (by decide +kernel) ?_
      subst hQ
      exact zq_iret E hr hZ hM hS hR hlocks dX12_ahead_45
    · have b110 := zi_ne b110 (rfl : x107.toInt = x107.toInt) (zl_0 : (0 : Int32).toInt = 0)
      refine lv_iload_n hx hb dX12_ahead_19 rfl (lv_at hl 3 rfl) ?_
      refine lv_i2l hx hb dX12_ahead_20 rfl ?_
      refine lv_topl (fun y111 ey111 => ?_)
      have ty111 := zi_i2l ey111
      have := zi_rng p3
      refine lv_lconst (v := 0) hx hb dX12_ahead_21 (by decide +kernel) ?_
      refine W.ldc2 (v := 3) hx hb hown (hts _ (List.mem_cons_of_mem _ zCX12_386)) rfl dX12_ahead_22 ?_
      refine W.eq (g2 := F0 m 25 ls [.long (3 : Int64), .long (0 : Int64), .long y111]) rfl ?_
      refine zq_pcalli (zq_rS (As := [.long y111, .long (0 : Int64), .long (3 : Int64)]) (rest := []) E hZ hM (c_X12_in l X zk (zk) I L y111 (0 : Int64) (3 : Int64)) zmX12_112 zM_X12_in (hro (0) 6 (by first | decide | omega) (by decide)) hl.1 rfl rfl (Nat.le_of_ble_eq_true rfl) dX12_ahead_25) hS (fun x113 H locs h112 hM hS => ?_)
      obtain ⟨p114, p115⟩ := h112
      have : (0 : Int64).toInt = 0 := by decide +kernel
      have : (3 : Int64).toInt = 3 := by decide +kernel
      refine lv_if_eq (tgt := 44) hx hb dX12_ahead_28 (by decide) (fun b116 => ?_) (fun b116 => ?_)
      · have b116 := zi_eq b116 (rfl : x113.toInt = x113.toInt) (zl_0 : (0 : Int32).toInt = 0)
        refine lv_iconst (v := (-1)) hx hb dX12_ahead_44 (by decide +kernel) ?_
        subst hQ
        exact zq_iret E hr hZ hM hS hR hlocks dX12_ahead_45
      · have b116 := zi_ne b116 (rfl : x113.toInt = x113.toInt) (zl_0 : (0 : Int32).toInt = 0)
        refine lv_iload_n hx hb dX12_ahead_31 rfl (lv_at hl 3 rfl) ?_
        refine lv_iconst (v := 1) hx hb dX12_ahead_32 (by decide +kernel) ?_
        have J46 : ∀ (H : Heap) (locs : List Loc) (ls : Array Slot), (zq_hm X (zk, zk) I H) → (va_S (zq_A X) s.heap H locs) → (p3.toInt < 2 ∨ (0 ≤ p1.toInt ∧ p1.toInt ≤ 3)) → (lv_has ls 5 [(0, .ref h0), (1, .int p1), (2, .int p2), (3, .int p3)]) → W p l e R s m args below meth c H locs 0 0 Q (F0 m 46 ls []) := by
          intro H locs ls hM hS hA9 hl
          refine lv_aload_n hx hb dX12_ahead_46 rfl (lv_at hl 0 rfl) ?_
          refine zq_callv (zq_rV (As := []) (rest := []) E hZ hM k_h0 (c_X12_keeps l X zk (zk) I L h0 k_h0 (by omega) (by omega)) zmX12_388 zM_X12_keeps (hro (0) 2 (by first | decide | omega) (by decide)) ⟨by decide, by decide⟩ rfl hl.1 rfl rfl (Nat.le_of_ble_eq_true rfl) dX12_ahead_47) hS (fun I268 H locs h266 hM hS => ?_)
          obtain ⟨fr269, p270⟩ := h266
          have hR := zq_fr.call hR fr269 (zf_sub (by decide +kernel) (fun _ _ q => q.elim))
          have hWF271 := zWF.fr q_1 L k_h0 fr269 (by decide)
          refine lv_iconst (v := 0) hx hb dX12_ahead_50 (by decide +kernel) ?_
          refine lv_istore (lv' := [(4, .int (0 : Int32)), (0, .ref h0), (1, .int p1), (2, .int p2), (3, .int p3)]) hx hb dX12_ahead_51 hl (by decide) rfl (fun ls hl => ?_)
          have J53 : ∀ (n387 : Nat) (I384 : zq_M) (H : Heap) (locs : List Loc) (ls : Array Slot) (zv386 : Nat) (j383 : Int32), 60 + 1 - j383.toInt ≤ ((n387 : Nat) : Int) → (zq_hm X (zk, zv386) I384 H) → (va_S (zq_A X) s.heap H locs) → (zq_fr (zf X zw_X12_ahead (fun _ => False)) I I384) → (0 ≤ j383.toInt ∧ j383.toInt ≤ 60) → (zWF X I384 h0) → (((zv386 : Nat) : Int) ≤ ((zk : Nat) : Int) + 4 * j383.toInt) → (lv_has ls 5 [(4, .int j383), (0, .ref h0), (1, .int p1), (2, .int p2), (3, .int p3)]) → W p l e R s m args below meth c H locs 0 0 Q (F0 m 53 ls []) := by
            intro n387
            induction n387 with
            | zero => intro I384 H locs ls zv386 j383 mu388 hM hS hR gj383 F385 hz9 hl; exfalso; have := zi_rng j383; omega
            | succ n387 ih53 =>
              intro I384 H locs ls zv386 j383 mu388 hM hS hR gj383 F385 hz9 hl
              refine lv_iload hx hb dX12_ahead_53 (lv_at hl 0 rfl) ?_
              refine lv_iload_n hx hb dX12_ahead_55 rfl (lv_at hl 3 rfl) ?_
              refine lv_icmp_ge (tgt := 70) hx hb dX12_ahead_56 (by decide) (fun b389 => ?_) (fun b389 => ?_)
              · have b389 := zi_le b389 (rfl : p2.toInt = p2.toInt) (rfl : j383.toInt = j383.toInt)
                refine lv_iload_n hx hb dX12_ahead_70 rfl (lv_at hl 4 rfl) ?_
                have J114 : ∀ (H : Heap) (locs : List Loc) (ls : Array Slot) (j401 : Int32), (zq_hm X (zk, zv386) I384 H) → (va_S (zq_A X) s.heap H locs) → (lv_has ls 5 [(4, .int j383), (0, .ref h0), (1, .int p1), (2, .int p2), (3, .int p3)]) → W p l e R s m args below meth c H locs 0 0 Q (F0 m 114 ls [.int j401]) := by
                  intro H locs ls j401 hM hS hl
                  refine lv_istore (lv' := [(4, .int j401), (0, .ref h0), (1, .int p1), (2, .int p2), (3, .int p3)]) hx hb dX12_ahead_114 hl (by decide) rfl (fun ls hl => ?_)
                  refine lv_aload_n hx hb dX12_ahead_116 rfl (lv_at hl 1 rfl) ?_
                  refine zq_callv (zq_rV (As := []) (rest := []) E hZ hM k_h0 (c_X12_laysBack l X zk (zv386) I384 L h0 k_h0 (by omega)) zmX12_391 zM_X12_laysBack (hro (0) 2 (by first | decide | omega) (by decide)) ⟨by decide, by decide⟩ rfl hl.1 rfl rfl (Nat.le_of_ble_eq_true rfl) dX12_ahead_117) hS (fun I410 H locs h408 hM hS => ?_)
                  obtain ⟨fr411, p412⟩ := h408
                  have hR := zq_fr.call hR fr411 (zf_sub (by decide +kernel) (fun _ _ q => q.elim))
                  have hWF413 := zWF.fr F385 L k_h0 fr411 (by decide)
                  refine lv_iload hx hb dX12_ahead_120 (lv_at hl 0 rfl) ?_
                  subst hQ
                  exact zq_iret E hr hZ hM hS hR hlocks dX12_ahead_122
                refine lv_if_ne (tgt := 84) hx hb dX12_ahead_71 (by decide) (fun b414 => ?_) (fun b414 => ?_)
                · have b414 := zi_ne b414 (rfl : p3.toInt = p3.toInt) (zl_0 : (0 : Int32).toInt = 0)
                  refine lv_iload_n hx hb dX12_ahead_84 rfl (lv_at hl 4 rfl) ?_
                  refine lv_iconst (v := 1) hx hb dX12_ahead_85 (by decide +kernel) ?_
                  refine lv_icmp_ne (tgt := 99) hx hb dX12_ahead_86 (by decide) (fun b415 => ?_) (fun b415 => ?_)
                  · have b415 := zi_ne b415 (rfl : p3.toInt = p3.toInt) (zl_1 : (1 : Int32).toInt = 1)
                    refine lv_aload_n hx hb dX12_ahead_99 rfl (lv_at hl 1 rfl) ?_
                    refine lv_iload_n hx hb dX12_ahead_100 rfl (lv_at hl 2 rfl) ?_
                    refine lv_iload_n hx hb dX12_ahead_101 rfl (lv_at hl 4 rfl) ?_
                    refine lv_iconst (v := 2) hx hb dX12_ahead_102 (by decide +kernel) ?_
                    have J111 : ∀ (ls : Array Slot) (j416 : Int32), (0 ≤ j416.toInt ∧ j416.toInt ≤ 2) → (lv_has ls 5 [(4, .int j383), (0, .ref h0), (1, .int p1), (2, .int p2), (3, .int p3)]) → W p l e R s m args below meth c H locs 0 0 Q (F0 m 111 ls [.int j416, .int p1, .ref h0]) := by
                      intro ls j416 gj416 hl
                      refine zq_pcalli (zq_rV (As := [.int p1, .int j416]) (rest := []) E hZ hM k_h0 (c_X12_townOf l X zk (zv386) I384 L h0 k_h0 p1 j416 ⟨by omega, by omega⟩ ⟨by omega, by omega⟩ (by omega)) zmX12_308 zM_X12_townOf (hro (0) 3 (by first | decide | omega) (by decide)) ⟨by decide, by decide⟩ rfl hl.1 rfl rfl (Nat.le_of_ble_eq_true rfl) dX12_ahead_111) hS (fun x424 H locs h423 hM hS => ?_)
                      obtain ⟨p425, p426, p427, p428⟩ := h423
                      exact J114 H locs ls x424 hM hS (lv_sub hl [0, 1, 2, 3, 4] rfl)
                    refine lv_icmp_ne (tgt := 110) hx hb dX12_ahead_103 (by decide) (fun b429 => ?_) (fun b429 => ?_)
                    · have b429 := zi_ne b429 (rfl : p3.toInt = p3.toInt) (zl_2 : (2 : Int32).toInt = 2)
                      refine lv_iconst (v := 0) hx hb dX12_ahead_110 (by decide +kernel) ?_
                      exact J111 ls (0 : Int32) (by rw [zl_0]; decide) (lv_sub hl [0, 1, 2, 3, 4] rfl)
                    · have b429 := zi_eq b429 (rfl : p3.toInt = p3.toInt) (zl_2 : (2 : Int32).toInt = 2)
                      refine lv_iconst (v := 2) hx hb dX12_ahead_106 (by decide +kernel) ?_
                      refine lv_goto (tgt := 111) hx hb dX12_ahead_107 (by decide) ?_
                      exact J111 ls (2 : Int32) (by rw [zl_2]; decide) (lv_sub hl [0, 1, 2, 3, 4] rfl)
                  · have b415 := zi_eq b415 (rfl : p3.toInt = p3.toInt) (zl_1 : (1 : Int32).toInt = 1)
                    refine lv_aload_n hx hb dX12_ahead_89 rfl (lv_at hl 1 rfl) ?_
                    refine zq_getr E hM k_h0 (zFX12_39 E hZ) ⟨by decide, by decide, by decide, rfl⟩ dX12_ahead_90 ?_
                    have k430 : zq_k X (zq_r X h0 20) = 59 := zq_lk L.1 k_h0 rfl (by decide)
                    refine lv_bipush (v := 11) hx hb dX12_ahead_93 (by decide +kernel) ?_
                    refine zq_ian (n := 106) (j := 11) E hZ hM k430 ⟨by decide, rfl⟩ (by rw [zl_11]; decide) (by decide +kernel) dX12_ahead_95 (fun x431 ex431 gx431 => ?_)
                    clear gx431
                    refine lv_goto (tgt := 114) hx hb dX12_ahead_96 (by decide) ?_
                    exact J114 H locs ls x431 hM hS (lv_sub hl [0, 1, 2, 3, 4] rfl)
                · have b414 := zi_eq b414 (rfl : p3.toInt = p3.toInt) (zl_0 : (0 : Int32).toInt = 0)
                  refine lv_aload_n hx hb dX12_ahead_74 rfl (lv_at hl 1 rfl) ?_
                  refine zq_getr E hM k_h0 (zFX12_39 E hZ) ⟨by decide, by decide, by decide, rfl⟩ dX12_ahead_75 ?_
                  have k432 : zq_k X (zq_r X h0 20) = 59 := zq_lk L.1 k_h0 rfl (by decide)
                  refine lv_bipush (v := 10) hx hb dX12_ahead_78 (by decide +kernel) ?_
                  refine zq_ian (n := 106) (j := 10) E hZ hM k432 ⟨by decide, rfl⟩ (by rw [zl_10]; decide) (by decide +kernel) dX12_ahead_80 (fun x433 ex433 gx433 => ?_)
                  clear gx433
                  refine lv_goto (tgt := 114) hx hb dX12_ahead_81 (by decide) ?_
                  exact J114 H locs ls x433 hM hS (lv_sub hl [0, 1, 2, 3, 4] rfl)
              · have b389 := zi_nle b389 (rfl : p2.toInt = p2.toInt) (rfl : j383.toInt = j383.toInt)
                refine lv_aload_n hx hb dX12_ahead_59 rfl (lv_at hl 1 rfl) ?_
                refine zq_calli (zq_rV (As := []) (rest := []) E hZ hM k_h0 (c_X12_passes l X zk (zv386) I384 L h0 k_h0 (by omega) (F385) (by omega)) zmX12_363 zM_X12_passes (hro (4) 3 (by first | decide | omega) (by decide)) ⟨by decide, by decide⟩ rfl hl.1 rfl rfl (Nat.le_of_ble_eq_true rfl) dX12_ahead_60) hS (fun x435 I436 H locs h434 hM hS => ?_)
                have fr437 := h434
                have hR := zq_fr.call hR fr437 (zf_sub (by decide +kernel) (fun _ _ q => q.elim))
                have hWF438 := zWF.fr F385 L k_h0 fr437 (by decide)
                refine lv_pop hx hb dX12_ahead_63 rfl ?_
                obtain ⟨x439, ex439⟩ : ∃ y : Int32, y = j383 + 1 := ⟨_, rfl⟩
                have tx439 := zi_add ex439 (rfl : j383.toInt = j383.toInt) zl_1 ⟨by omega, by omega⟩
                refine lv_iinc (v := x439) (lv' := [(4, .int x439), (0, .ref h0), (1, .int p1), (2, .int p2), (3, .int p3)]) hx hb dX12_ahead_64 hl (k := 0) rfl (by rw [ex439]; rfl) (by decide) rfl (fun ls hl => ?_)
                refine lv_goto (tgt := 53) hx hb dX12_ahead_67 (by decide) ?_
                exact ih53 I436 H locs ls ((zv386 + 4)) x439 (by omega) hM hS hR (⟨by omega, by omega⟩) hWF438 (by have := zl_0; omega) (lv_sub hl [0, 1, 2, 3, 4] rfl)
          exact J53 (60 + 1 - (0 : Int32).toInt).toNat I268 H locs ls (zk) (0 : Int32) (by omega) hM hS hR (by rw [zl_0]; decide) hWF271 (by have := zl_0; omega) (lv_sub hl [0, 1, 2, 3, 4] rfl)
        refine lv_icmp_le (tgt := 46) hx hb dX12_ahead_33 (by decide) (fun b440 => ?_) (fun b440 => ?_)
        · have b440 := zi_le b440 (rfl : p3.toInt = p3.toInt) (zl_1 : (1 : Int32).toInt = 1)
          exact J46 H locs ls hM hS (by omega) (lv_sub hl [0, 1, 2, 3] rfl)
        · have b440 := zi_nle b440 (rfl : p3.toInt = p3.toInt) (zl_1 : (1 : Int32).toInt = 1)
          refine lv_aload_n hx hb dX12_ahead_36 rfl (lv_at hl 0 rfl) ?_
          refine lv_iload_n hx hb dX12_ahead_37 rfl (lv_at hl 1 rfl) ?_
          refine zq_pcalli (zq_rV (As := [.int p1]) (rest := []) E hZ hM k_h0 (c_X12_isTown l X zk (zk) I L h0 k_h0 p1 (by have := zi_rng p1; omega)) zmX12_299 zM_X12_isTown (hro (0) 2 (by first | decide | omega) (by decide)) ⟨by decide, by decide⟩ rfl hl.1 rfl rfl (Nat.le_of_ble_eq_true rfl) dX12_ahead_38) hS (fun x442 H locs h441 hM hS => ?_)
          obtain ⟨p443, p444⟩ := h441
          refine lv_if_ne (tgt := 46) hx hb dX12_ahead_41 (by decide) (fun b445 => ?_) (fun b445 => ?_)
          · have b445 := zi_ne b445 (rfl : x442.toInt = x442.toInt) (zl_0 : (0 : Int32).toInt = 0)
            exact J46 H locs ls hM hS (by omega) (lv_sub hl [0, 1, 2, 3] rfl)
          · have b445 := zi_eq b445 (rfl : x442.toInt = x442.toInt) (zl_0 : (0 : Int32).toInt = 0)
            refine lv_iconst (v := (-1)) hx hb dX12_ahead_44 (by decide +kernel) ?_
            subst hQ
            exact zq_iret E hr hZ hM hS hR hlocks dX12_ahead_45
def zw_X12_site : List (Nat × Nat) := [(10, 18), (59, 999), (61, 999)]
set_option maxHeartbeats 8000000 in
set_option maxRecDepth 100000 in
theorem c_X12_site (l : Launch) (X : zq_X) (zk zn : Nat) (I : zq_M) (L : zq_L X)  (h0 : Nat) (k_h0 : zq_k X h0 = 10) (p1 : Int32) (p2 : Int32) (q_0 : zk ≤ 4400 ∧ zn ≤ 4400) (q_1 : zWF X I h0) (q_2 : zk ≤ 2200) : Met l yX12_site (zt_w yX12_site cX12_site 7 (some .int)) (zq_rm (6)) (va_Pc [.ref h0, .int p1, .int p2] (zq_W X (zk, zk) I)) (va_Qi (fun (r : Int32) I2 => zq_fr (zf X zw_X12_site (fun _ => False)) I I2) (zq_E X (zk, zk)) (zq_A X)) 0 0 (zq_A X) := by
  refine Met.ofW (cc := cX12_site) (maxL := 7) (ret := (some .int)) (by decide) rfl ?_
  intro p e s m args below meth c s₁ B hml hv
  obtain ⟨hargs, hM, hZ⟩ := hv
  have hown : s.vm.findClass RX12 = some m.cls := findClass_of_methodNamed B.named
  have hts := atoms_spec (ws := zt_w yX12_site cX12_site 7 (some .int)) B.pre
  have E : CallFix p m c cX12_site 7 s args (Cond.code yX12_site cX12_site 7 (some .int) :: zt) RX12 := ⟨B.exec, B.bytes, hml, hown, hts⟩
  have hx := B.exec
  have hb := B.bytes
  have hr := B.returns
  have hlocks := B.notSynchronized
  clear B
  have hS : va_S (zq_A X) s.heap s.heap [] := va_S.rf
  have hR : zq_fr (zf X zw_X12_site (fun _ => False)) I I := zq_fr.rf
  have hl := lv_entry ([.ref h0, .int p1, .int p2]) (n := 7) (by exact Nat.le_of_ble_eq_true rfl)
  have hg : entryFrame m args 7 = F0 m 0 ((lg_sl ([.ref h0, .int p1, .int p2]) ++ List.replicate (7 - (lg_sl ([.ref h0, .int p1, .int p2])).length) Slot.unset).toArray) [] := by rw [hargs]; exact lg_entry_eq m ([.ref h0, .int p1, .int p2]) 7
  rw [hg]
  clear hg hargs
  generalize (lg_sl ([.ref h0, .int p1, .int p2]) ++ List.replicate (7 - (lg_sl ([.ref h0, .int p1, .int p2])).length) Slot.unset).toArray = ls at hl ⊢
  have hl : lv_has ls 7 [(0, .ref h0), (1, .int p1), (2, .int p2)] := by exact hl
  obtain ⟨R, hRm⟩ : ∃ R : Room, R = (headSpec (zt_w yX12_site cX12_site 7 (some .int)) (zq_rm (6))).room := ⟨_, rfl⟩
  rw [← hRm]
  have hro : ∀ d q : Nat, d + 1 ≤ 6 → q ≤ 45 → zq_rok d q R := fun d q h1 h2 => by rw [hRm]; exact zq_rokI h1 h2
  generalize hQ : MQ below _ args s 0 0 (zq_A X) = Q
  obtain ⟨H, hH⟩ : ∃ H, H = s.heap := ⟨_, rfl⟩
  obtain ⟨locs, hlo⟩ : ∃ x : List Loc, x = [] := ⟨_, rfl⟩
  rw [show W p l e R s m args below meth c s.heap [] 0 0 Q = W p l e R s m args below meth c H locs 0 0 Q by rw [hH, hlo]]
  have hM : zq_hm X (zk, zk) I H := by rw [hH]; exact hM
  have hS : va_S (zq_A X) s.heap H locs := by rw [hH, hlo]; exact hS
  clear hH hlo
  refine lv_aload_n hx hb dX12_site_0 rfl (lv_at hl 0 rfl) ?_
  refine zq_pcalli (zq_rV (As := []) (rest := []) E hZ hM k_h0 (c_X12_isTrade l X zk (zk) I L h0 k_h0 (by omega)) zmX12_357 zM_X12_isTrade (hro (0) 1 (by first | decide | omega) (by decide)) ⟨by decide, by decide⟩ rfl hl.1 rfl rfl (Nat.le_of_ble_eq_true rfl) dX12_site_1) hS (fun x102 H locs h101 hM hS => ?_)
  have p103 := h101
  refine lv_if_eq (tgt := 29) hx hb dX12_site_4 (by decide) (fun b104 => ?_) (fun b104 => ?_)
  · have b104 := zi_eq b104 (rfl : x102.toInt = x102.toInt) (zl_0 : (0 : Int32).toInt = 0)
    refine lv_bipush (v := (-2)) hx hb dX12_site_29 (by decide +kernel) ?_
    subst hQ
    exact zq_iret E hr hZ hM hS hR hlocks dX12_site_31
  · have b104 := zi_ne b104 (rfl : x102.toInt = x102.toInt) (zl_0 : (0 : Int32).toInt = 0)
    refine lv_iload_n hx hb dX12_site_7 rfl (lv_at hl 1 rfl) ?_
    refine lv_i2l hx hb dX12_site_8 rfl ?_
    refine lv_topl (fun y105 ey105 => ?_)
    have ty105 := zi_i2l ey105
    have := zi_rng p1
    refine lv_lconst (v := 1) hx hb dX12_site_9 (by decide +kernel) ?_
    refine W.ldc2 (v := 24) hx hb hown (hts _ (List.mem_cons_of_mem _ zCX12_399)) rfl dX12_site_10 ?_
    refine W.eq (g2 := F0 m 13 ls [.long (24 : Int64), .long (1 : Int64), .long y105]) rfl ?_
    refine zq_pcalli (zq_rS (As := [.long y105, .long (1 : Int64), .long (24 : Int64)]) (rest := []) E hZ hM (c_X12_in l X zk (zk) I L y105 (1 : Int64) (24 : Int64)) zmX12_112 zM_X12_in (hro (0) 6 (by first | decide | omega) (by decide)) hl.1 rfl rfl (Nat.le_of_ble_eq_true rfl) dX12_site_13) hS (fun x107 H locs h106 hM hS => ?_)
    obtain ⟨p108, p109⟩ := h106
    have : (1 : Int64).toInt = 1 := by decide +kernel
    have : (24 : Int64).toInt = 24 := by decide +kernel
    refine lv_if_eq (tgt := 29) hx hb dX12_site_16 (by decide) (fun b110 => ?_) (fun b110 => ?_)
    · have b110 := zi_eq b110 (rfl : x107.toInt = x107.toInt) (zl_0 : (0 : Int32).toInt = 0)
      refine lv_bipush (v := (-2)) hx hb dX12_site_29 (by decide +kernel) ?_
      subst hQ
      exact zq_iret E hr hZ hM hS hR hlocks dX12_site_31
    · have b110 := zi_ne b110 (rfl : x107.toInt = x107.toInt) (zl_0 : (0 : Int32).toInt = 0)
      refine lv_iload_n hx hb dX12_site_19 rfl (lv_at hl 2 rfl) ?_
      refine lv_i2l hx hb dX12_site_20 rfl ?_
      refine lv_topl (fun y111 ey111 => ?_)
      have ty111 := zi_i2l ey111
      have := zi_rng p2
      refine lv_lconst (v := 0) hx hb dX12_site_21 (by decide +kernel) ?_
      refine lv_lconst (v := 1) hx hb dX12_site_22 (by decide +kernel) ?_
      refine zq_pcalli (zq_rS (As := [.long y111, .long (0 : Int64), .long (1 : Int64)]) (rest := []) E hZ hM (c_X12_in l X zk (zk) I L y111 (0 : Int64) (1 : Int64)) zmX12_112 zM_X12_in (hro (0) 6 (by first | decide | omega) (by decide)) hl.1 rfl rfl (Nat.le_of_ble_eq_true rfl) dX12_site_23) hS (fun x113 H locs h112 hM hS => ?_)
      obtain ⟨p114, p115⟩ := h112
      have : (0 : Int64).toInt = 0 := by decide +kernel
      have : (1 : Int64).toInt = 1 := by decide +kernel
      refine lv_if_ne (tgt := 32) hx hb dX12_site_26 (by decide) (fun b116 => ?_) (fun b116 => ?_)
      · have b116 := zi_ne b116 (rfl : x113.toInt = x113.toInt) (zl_0 : (0 : Int32).toInt = 0)
        refine lv_aload_n hx hb dX12_site_32 rfl (lv_at hl 0 rfl) ?_
        refine zq_callv (zq_rV (As := []) (rest := []) E hZ hM k_h0 (c_X12_keeps l X zk (zk) I L h0 k_h0 (by omega) (by omega)) zmX12_388 zM_X12_keeps (hro (0) 2 (by first | decide | omega) (by decide)) ⟨by decide, by decide⟩ rfl hl.1 rfl rfl (Nat.le_of_ble_eq_true rfl) dX12_site_33) hS (fun I119 H locs h117 hM hS => ?_)
        obtain ⟨fr120, p121⟩ := h117
        have hR := zq_fr.call hR fr120 (zf_sub (by decide +kernel) (fun _ _ q => q.elim))
        have hWF122 := zWF.fr q_1 L k_h0 fr120 (by decide)
        refine lv_iconst (v := (-1)) hx hb dX12_site_36 (by decide +kernel) ?_
        refine lv_istore_n (lv' := [(3, .int (-1 : Int32)), (0, .ref h0), (1, .int p1), (2, .int p2)]) hx hb dX12_site_37 rfl hl (by decide) rfl (fun ls hl => ?_)
        refine lv_aload_n hx hb dX12_site_38 rfl (lv_at hl 1 rfl) ?_
        refine lv_iload_n hx hb dX12_site_39 rfl (lv_at hl 2 rfl) ?_
        refine zq_calli (zq_rV (As := [.int p1]) (rest := []) E hZ hM k_h0 (c_X12_moneyIn l X zk (zk) I119 L h0 k_h0 p1 ⟨by omega, by omega⟩ (by omega) (hWF122) (by omega)) zmX12_401 zM_X12_moneyIn (hro (5) 3 (by first | decide | omega) (by decide)) ⟨by decide, by decide⟩ rfl hl.1 rfl rfl (Nat.le_of_ble_eq_true rfl) dX12_site_40) hS (fun x124 I125 H locs h123 hM hS => ?_)
        obtain ⟨fr126, p127⟩ := h123
        have hR := zq_fr.call hR fr126 (zf_sub (by decide +kernel) (fun _ _ q => q.elim))
        have hWF128 := zWF.fr hWF122 L k_h0 fr126 (by decide)
        refine lv_istore (lv' := [(4, .int x124), (3, .int (-1 : Int32)), (0, .ref h0), (1, .int p1), (2, .int p2)]) hx hb dX12_site_43 hl (by decide) rfl (fun ls hl => ?_)
        refine lv_iconst (v := 0) hx hb dX12_site_45 (by decide +kernel) ?_
        refine W.eq (g2 := F0 m 46 ls [.int (0 : Int32)]) rfl ?_
        refine lv_istore (lv' := [(5, .int (0 : Int32)), (4, .int x124), (3, .int (-1 : Int32)), (0, .ref h0), (1, .int p1), (2, .int p2)]) hx hb dX12_site_46 hl (by decide) rfl (fun ls hl => ?_)
        have J48 : ∀ (n238 : Nat) (I236 : zq_M) (H : Heap) (locs : List Loc) (ls : Array Slot) (j233 : Int32) (j234 : Int32) (j235 : Int32), 4 + 1 - j233.toInt ≤ ((n238 : Nat) : Int) → (zq_hm X (zk, zk) I236 H) → (va_S (zq_A X) s.heap H locs) → (zq_fr (zf X zw_X12_site (fun _ => False)) I I236) → (0 ≤ j233.toInt ∧ j233.toInt ≤ 4) → ((-1) ≤ j235.toInt ∧ j235.toInt ≤ 3) → (zWF X I236 h0) → (lv_has ls 7 [(5, .int j233), (4, .int j234), (3, .int j235), (0, .ref h0), (1, .int p1), (2, .int p2)]) → W p l e R s m args below meth c H locs 0 0 Q (F0 m 48 ls []) := by
          intro n238
          induction n238 with
          | zero => intro I236 H locs ls j233 j234 j235 mu239 hM hS hR gj233 gj235 F237 hl; exfalso; have := zi_rng j233; omega
          | succ n238 ih48 =>
            intro I236 H locs ls j233 j234 j235 mu239 hM hS hR gj233 gj235 F237 hl
            refine lv_iload hx hb dX12_site_48 (lv_at hl 0 rfl) ?_
            refine lv_aload_n hx hb dX12_site_50 rfl (lv_at hl 3 rfl) ?_
            refine zq_getr E hM k_h0 (zFX12_39 E hZ) ⟨by decide, by decide, by decide, rfl⟩ dX12_site_51 ?_
            have k240 : zq_k X (zq_r X h0 20) = 59 := zq_lk L.1 k_h0 rfl (by decide)
            refine lv_iconst (v := 3) hx hb dX12_site_54 (by decide +kernel) ?_
            refine zq_ian (n := 106) (j := 3) E hZ hM k240 ⟨by decide, rfl⟩ (by rw [zl_3]; decide) (by decide +kernel) dX12_site_55 (fun x241 ex241 gx241 => ?_)
            replace gx241 : 0 ≤ x241.toInt ∧ x241.toInt ≤ 4 := gx241
            refine lv_icmp_ge (tgt := 107) hx hb dX12_site_56 (by decide) (fun b242 => ?_) (fun b242 => ?_)
            · have b242 := zi_le b242 (rfl : x241.toInt = x241.toInt) (rfl : j233.toInt = j233.toInt)
              refine lv_iload_n hx hb dX12_site_107 rfl (lv_at hl 5 rfl) ?_
              refine lv_if_ne (tgt := 116) hx hb dX12_site_108 (by decide) (fun b243 => ?_) (fun b243 => ?_)
              · have b243 := zi_ne b243 (rfl : p2.toInt = p2.toInt) (zl_0 : (0 : Int32).toInt = 0)
                refine lv_iload_n hx hb dX12_site_116 rfl (lv_at hl 2 rfl) ?_
                subst hQ
                exact zq_iret E hr hZ hM hS hR hlocks dX12_site_117
              · have b243 := zi_eq b243 (rfl : p2.toInt = p2.toInt) (zl_0 : (0 : Int32).toInt = 0)
                refine lv_iload hx hb dX12_site_111 (lv_at hl 1 rfl) ?_
                refine lv_goto (tgt := 117) hx hb dX12_site_113 (by decide) ?_
                subst hQ
                exact zq_iret E hr hZ hM hS hR hlocks dX12_site_117
            · have b242 := zi_nle b242 (rfl : x241.toInt = x241.toInt) (rfl : j233.toInt = j233.toInt)
              refine lv_aload_n hx hb dX12_site_59 rfl (lv_at hl 3 rfl) ?_
              refine lv_iload hx hb dX12_site_60 (lv_at hl 0 rfl) ?_
              refine zq_pcalli (zq_rV (As := [.int j233]) (rest := []) E hZ hM k_h0 (c_X12_canBuild l X zk (zk) I236 L h0 k_h0 j233 ⟨by omega, by omega⟩ (by omega)) zmX12_375 zM_X12_canBuild (hro (1) 2 (by first | decide | omega) (by decide)) ⟨by decide, by decide⟩ rfl hl.1 rfl rfl (Nat.le_of_ble_eq_true rfl) dX12_site_62) hS (fun x245 H locs h244 hM hS => ?_)
              have p246 := h244
              have J101 : ∀ (I260 : zq_M) (H : Heap) (locs : List Loc) (ls : Array Slot) (j258 : Int32) (j259 : Int32), (zq_hm X (zk, zk) I260 H) → (va_S (zq_A X) s.heap H locs) → (zq_fr (zf X zw_X12_site (fun _ => False)) I I260) → ((-1) ≤ j259.toInt ∧ j259.toInt ≤ 3) → (zWF X I260 h0) → (lv_has ls 7 [(4, .int j258), (3, .int j259), (5, .int j233), (0, .ref h0), (1, .int p1), (2, .int p2)]) → W p l e R s m args below meth c H locs 0 0 Q (F0 m 101 ls []) := by
                intro I260 H locs ls j258 j259 hM hS hR gj259 F261 hl
                obtain ⟨x263, ex263⟩ : ∃ y : Int32, y = j233 + 1 := ⟨_, rfl⟩
                have tx263 := zi_add ex263 (rfl : j233.toInt = j233.toInt) zl_1 ⟨by omega, by omega⟩
                refine lv_iinc (v := x263) (lv' := [(5, .int x263), (4, .int j258), (3, .int j259), (0, .ref h0), (1, .int p1), (2, .int p2)]) hx hb dX12_site_101 hl (k := 2) rfl (by rw [ex263]; rfl) (by decide) rfl (fun ls hl => ?_)
                refine lv_goto (tgt := 48) hx hb dX12_site_104 (by decide) ?_
                exact ih48 I260 H locs ls x263 j258 j259 (by omega) hM hS hR (⟨by omega, by omega⟩) (⟨by omega, by omega⟩) F261 (lv_sub hl [0, 1, 2, 3, 4, 5] rfl)
              refine lv_if_ne (tgt := 71) hx hb dX12_site_65 (by decide) (fun b264 => ?_) (fun b264 => ?_)
              · have b264 := zi_ne b264 (rfl : x245.toInt = x245.toInt) (zl_0 : (0 : Int32).toInt = 0)
                refine lv_aload_n hx hb dX12_site_71 rfl (lv_at hl 3 rfl) ?_
                refine lv_iload hx hb dX12_site_72 (lv_at hl 0 rfl) ?_
                refine zq_callv (zq_rV (As := [.int j233]) (rest := []) E hZ hM k_h0 (c_X12_builds l X zk (zk) I236 L h0 k_h0 j233 ⟨by omega, by omega⟩ (by omega)) zmX12_378 zM_X12_builds (hro (0) 2 (by first | decide | omega) (by decide)) ⟨by decide, by decide⟩ rfl hl.1 rfl rfl (Nat.le_of_ble_eq_true rfl) dX12_site_74) hS (fun I267 H locs h265 hM hS => ?_)
                have fr268 := h265
                have hR := zq_fr.call hR fr268 (zf_sub (by decide +kernel) (fun _ _ q => q.elim))
                have hWF269 := zWF.fr F237 L k_h0 fr268 (by decide)
                refine lv_aload_n hx hb dX12_site_77 rfl (lv_at hl 3 rfl) ?_
                refine lv_iload_n hx hb dX12_site_78 rfl (lv_at hl 4 rfl) ?_
                refine zq_calli (zq_rV (As := [.int p1]) (rest := []) E hZ hM k_h0 (c_X12_moneyIn l X zk (zk) I267 L h0 k_h0 p1 ⟨by omega, by omega⟩ (by omega) (hWF269) (by omega)) zmX12_401 zM_X12_moneyIn (hro (5) 3 (by first | decide | omega) (by decide)) ⟨by decide, by decide⟩ rfl hl.1 rfl rfl (Nat.le_of_ble_eq_true rfl) dX12_site_79) hS (fun x271 I272 H locs h270 hM hS => ?_)
                obtain ⟨fr273, p274⟩ := h270
                have hR := zq_fr.call hR fr273 (zf_sub (by decide +kernel) (fun _ _ q => q.elim))
                have hWF275 := zWF.fr hWF269 L k_h0 fr273 (by decide)
                refine lv_istore (lv' := [(6, .int x271), (5, .int j233), (4, .int j234), (3, .int j235), (0, .ref h0), (1, .int p1), (2, .int p2)]) hx hb dX12_site_82 hl (by decide) rfl (fun ls hl => ?_)
                refine lv_iload hx hb dX12_site_84 (lv_at hl 0 rfl) ?_
                refine lv_iload hx hb dX12_site_86 (lv_at hl 2 rfl) ?_
                refine W.eq (g2 := F0 m 88 ls [.int j234, .int x271]) rfl ?_
                refine lv_icmp_gt (tgt := 94) hx hb dX12_site_88 (by decide) (fun b276 => ?_) (fun b276 => ?_)
                · have b276 := zi_lt b276 (rfl : j234.toInt = j234.toInt) (rfl : x271.toInt = x271.toInt)
                  refine lv_iload hx hb dX12_site_94 (lv_at hl 1 rfl) ?_
                  refine lv_istore_n (lv' := [(3, .int j233), (6, .int x271), (5, .int j233), (4, .int j234), (0, .ref h0), (1, .int p1), (2, .int p2)]) hx hb dX12_site_96 rfl hl (by decide) rfl (fun ls hl => ?_)
                  refine lv_iload hx hb dX12_site_97 (lv_at hl 1 rfl) ?_
                  refine lv_istore (lv' := [(4, .int x271), (3, .int j233), (6, .int x271), (5, .int j233), (0, .ref h0), (1, .int p1), (2, .int p2)]) hx hb dX12_site_99 hl (by decide) rfl (fun ls hl => ?_)
                  exact J101 I272 H locs ls x271 j233 hM hS hR (⟨by omega, by omega⟩) hWF275 (lv_sub hl [0, 1, 3, 4, 5, 6] rfl)
                · have b276 := zi_nlt b276 (rfl : j234.toInt = j234.toInt) (rfl : x271.toInt = x271.toInt)
                  refine lv_goto (tgt := 101) hx hb dX12_site_91 (by decide) ?_
                  exact J101 I272 H locs ls j234 j235 hM hS hR (⟨by omega, by omega⟩) hWF275 (lv_sub hl [2, 3, 1, 4, 5, 6] rfl)
              · have b264 := zi_eq b264 (rfl : x245.toInt = x245.toInt) (zl_0 : (0 : Int32).toInt = 0)
                refine lv_goto (tgt := 101) hx hb dX12_site_68 (by decide) ?_
                exact J101 I236 H locs ls j234 j235 hM hS hR (⟨by omega, by omega⟩) F237 (lv_sub hl [1, 2, 0, 3, 4, 5] rfl)
        exact J48 (4 + 1 - (0 : Int32).toInt).toNat I125 H locs ls (0 : Int32) x124 (-1 : Int32) (by omega) hM hS hR (by rw [zl_0]; decide) (by rw [zl_m1]; decide) hWF128 (lv_sub hl [0, 1, 2, 3, 4, 5] rfl)
      · have b116 := zi_eq b116 (rfl : x113.toInt = x113.toInt) (zl_0 : (0 : Int32).toInt = 0)
        refine lv_bipush (v := (-2)) hx hb dX12_site_29 (by decide +kernel) ?_
        subst hQ
        exact zq_iret E hr hZ hM hS hR hlocks dX12_site_31
def zw_X12_pricing : List (Nat × Nat) := [(10, 18), (59, 999), (61, 999)]
set_option maxHeartbeats 8000000 in
set_option maxRecDepth 100000 in
theorem c_X12_pricing (l : Launch) (X : zq_X) (zk zn : Nat) (I : zq_M) (L : zq_L X)  (h0 : Nat) (k_h0 : zq_k X h0 = 10) (p1 : Int32) (p2 : Int32) (p3 : Int32) (q_0 : zk ≤ 4400 ∧ zn ≤ 4400) (q_1 : zWF X I h0) (q_2 : zk ≤ 2200) : Met l yX12_pricing (zt_w yX12_pricing cX12_pricing 8 (some .int)) (zq_rm (6)) (va_Pc [.ref h0, .int p1, .int p2, .int p3] (zq_W X (zk, zk) I)) (va_Qi (fun (r : Int32) I2 => zq_fr (zf X zw_X12_pricing (fun _ => False)) I I2 ∧ ((-1) ≤ r.toInt)) (zq_E X (zk, zk)) (zq_A X)) 0 0 (zq_A X) := by
  refine Met.ofW (cc := cX12_pricing) (maxL := 8) (ret := (some .int)) (by decide) rfl ?_
  intro p e s m args below meth c s₁ B hml hv
  obtain ⟨hargs, hM, hZ⟩ := hv
  have hown : s.vm.findClass RX12 = some m.cls := findClass_of_methodNamed B.named
  have hts := atoms_spec (ws := zt_w yX12_pricing cX12_pricing 8 (some .int)) B.pre
  have E : CallFix p m c cX12_pricing 8 s args (Cond.code yX12_pricing cX12_pricing 8 (some .int) :: zt) RX12 := ⟨B.exec, B.bytes, hml, hown, hts⟩
  have hx := B.exec
  have hb := B.bytes
  have hr := B.returns
  have hlocks := B.notSynchronized
  clear B
  have hS : va_S (zq_A X) s.heap s.heap [] := va_S.rf
  have hR : zq_fr (zf X zw_X12_pricing (fun _ => False)) I I := zq_fr.rf
  have hl := lv_entry ([.ref h0, .int p1, .int p2, .int p3]) (n := 8) (by exact Nat.le_of_ble_eq_true rfl)
  have hg : entryFrame m args 8 = F0 m 0 ((lg_sl ([.ref h0, .int p1, .int p2, .int p3]) ++ List.replicate (8 - (lg_sl ([.ref h0, .int p1, .int p2, .int p3])).length) Slot.unset).toArray) [] := by rw [hargs]; exact lg_entry_eq m ([.ref h0, .int p1, .int p2, .int p3]) 8
  rw [hg]
  clear hg hargs
  generalize (lg_sl ([.ref h0, .int p1, .int p2, .int p3]) ++ List.replicate (8 - (lg_sl ([.ref h0, .int p1, .int p2, .int p3])).length) Slot.unset).toArray = ls at hl ⊢
  have hl : lv_has ls 8 [(0, .ref h0), (1, .int p1), (2, .int p2), (3, .int p3)] := by exact hl
  obtain ⟨R, hRm⟩ : ∃ R : Room, R = (headSpec (zt_w yX12_pricing cX12_pricing 8 (some .int)) (zq_rm (6))).room := ⟨_, rfl⟩
  rw [← hRm]
  have hro : ∀ d q : Nat, d + 1 ≤ 6 → q ≤ 45 → zq_rok d q R := fun d q h1 h2 => by rw [hRm]; exact zq_rokI h1 h2
  generalize hQ : MQ below _ args s 0 0 (zq_A X) = Q
  obtain ⟨H, hH⟩ : ∃ H, H = s.heap := ⟨_, rfl⟩
  obtain ⟨locs, hlo⟩ : ∃ x : List Loc, x = [] := ⟨_, rfl⟩
  rw [show W p l e R s m args below meth c s.heap [] 0 0 Q = W p l e R s m args below meth c H locs 0 0 Q by rw [hH, hlo]]
  have hM : zq_hm X (zk, zk) I H := by rw [hH]; exact hM
  have hS : va_S (zq_A X) s.heap H locs := by rw [hH, hlo]; exact hS
  clear hH hlo
  refine lv_aload_n hx hb dX12_pricing_0 rfl (lv_at hl 0 rfl) ?_
  refine lv_iload_n hx hb dX12_pricing_1 rfl (lv_at hl 1 rfl) ?_
  refine zq_pcalli (zq_rV (As := [.int p1]) (rest := []) E hZ hM k_h0 (c_X12_isTown l X zk (zk) I L h0 k_h0 p1 (by have := zi_rng p1; omega)) zmX12_299 zM_X12_isTown (hro (0) 2 (by first | decide | omega) (by decide)) ⟨by decide, by decide⟩ rfl hl.1 rfl rfl (Nat.le_of_ble_eq_true rfl) dX12_pricing_2) hS (fun x102 H locs h101 hM hS => ?_)
  obtain ⟨p103, p104⟩ := h101
  refine lv_if_eq (tgt := 30) hx hb dX12_pricing_5 (by decide) (fun b105 => ?_) (fun b105 => ?_)
  · have b105 := zi_eq b105 (rfl : x102.toInt = x102.toInt) (zl_0 : (0 : Int32).toInt = 0)
    refine lv_iconst (v := (-1)) hx hb dX12_pricing_30 (by decide +kernel) ?_
    subst hQ
    exact zq_iret E hr hZ hM hS ⟨hR, (by have := zl_m1; omega)⟩ hlocks dX12_pricing_31
  · have b105 := zi_ne b105 (rfl : x102.toInt = x102.toInt) (zl_0 : (0 : Int32).toInt = 0)
    refine lv_iload_n hx hb dX12_pricing_8 rfl (lv_at hl 2 rfl) ?_
    refine lv_i2l hx hb dX12_pricing_9 rfl ?_
    refine lv_topl (fun y106 ey106 => ?_)
    have ty106 := zi_i2l ey106
    have := zi_rng p2
    refine lv_lconst (v := 1) hx hb dX12_pricing_10 (by decide +kernel) ?_
    refine W.ldc2 (v := 24) hx hb hown (hts _ (List.mem_cons_of_mem _ zCX12_399)) rfl dX12_pricing_11 ?_
    refine W.eq (g2 := F0 m 14 ls [.long (24 : Int64), .long (1 : Int64), .long y106]) rfl ?_
    refine zq_pcalli (zq_rS (As := [.long y106, .long (1 : Int64), .long (24 : Int64)]) (rest := []) E hZ hM (c_X12_in l X zk (zk) I L y106 (1 : Int64) (24 : Int64)) zmX12_112 zM_X12_in (hro (0) 6 (by first | decide | omega) (by decide)) hl.1 rfl rfl (Nat.le_of_ble_eq_true rfl) dX12_pricing_14) hS (fun x108 H locs h107 hM hS => ?_)
    obtain ⟨p109, p110⟩ := h107
    have : (1 : Int64).toInt = 1 := by decide +kernel
    have : (24 : Int64).toInt = 24 := by decide +kernel
    refine lv_if_eq (tgt := 30) hx hb dX12_pricing_17 (by decide) (fun b111 => ?_) (fun b111 => ?_)
    · have b111 := zi_eq b111 (rfl : x108.toInt = x108.toInt) (zl_0 : (0 : Int32).toInt = 0)
      refine lv_iconst (v := (-1)) hx hb dX12_pricing_30 (by decide +kernel) ?_
      subst hQ
      exact zq_iret E hr hZ hM hS ⟨hR, (by have := zl_m1; omega)⟩ hlocks dX12_pricing_31
    · have b111 := zi_ne b111 (rfl : x108.toInt = x108.toInt) (zl_0 : (0 : Int32).toInt = 0)
      refine lv_iload_n hx hb dX12_pricing_20 rfl (lv_at hl 3 rfl) ?_
      refine lv_i2l hx hb dX12_pricing_21 rfl ?_
      refine lv_topl (fun y112 ey112 => ?_)
      have ty112 := zi_i2l ey112
      have := zi_rng p3
      refine lv_lconst (v := 0) hx hb dX12_pricing_22 (by decide +kernel) ?_
      refine lv_lconst (v := 1) hx hb dX12_pricing_23 (by decide +kernel) ?_
      refine zq_pcalli (zq_rS (As := [.long y112, .long (0 : Int64), .long (1 : Int64)]) (rest := []) E hZ hM (c_X12_in l X zk (zk) I L y112 (0 : Int64) (1 : Int64)) zmX12_112 zM_X12_in (hro (0) 6 (by first | decide | omega) (by decide)) hl.1 rfl rfl (Nat.le_of_ble_eq_true rfl) dX12_pricing_24) hS (fun x114 H locs h113 hM hS => ?_)
      obtain ⟨p115, p116⟩ := h113
      have : (0 : Int64).toInt = 0 := by decide +kernel
      have : (1 : Int64).toInt = 1 := by decide +kernel
      refine lv_if_ne (tgt := 32) hx hb dX12_pricing_27 (by decide) (fun b117 => ?_) (fun b117 => ?_)
      · have b117 := zi_ne b117 (rfl : x114.toInt = x114.toInt) (zl_0 : (0 : Int32).toInt = 0)
        refine lv_aload_n hx hb dX12_pricing_32 rfl (lv_at hl 0 rfl) ?_
        refine zq_callv (zq_rV (As := []) (rest := []) E hZ hM k_h0 (c_X12_keeps l X zk (zk) I L h0 k_h0 (by omega) (by omega)) zmX12_388 zM_X12_keeps (hro (0) 2 (by first | decide | omega) (by decide)) ⟨by decide, by decide⟩ rfl hl.1 rfl rfl (Nat.le_of_ble_eq_true rfl) dX12_pricing_33) hS (fun I120 H locs h118 hM hS => ?_)
        obtain ⟨fr121, p122⟩ := h118
        have hR := zq_fr.call hR fr121 (zf_sub (by decide +kernel) (fun _ _ q => q.elim))
        have hWF123 := zWF.fr q_1 L k_h0 fr121 (by decide)
        refine lv_iconst (v := 0) hx hb dX12_pricing_36 (by decide +kernel) ?_
        refine lv_istore (lv' := [(4, .int (0 : Int32)), (0, .ref h0), (1, .int p1), (2, .int p2), (3, .int p3)]) hx hb dX12_pricing_37 hl (by decide) rfl (fun ls hl => ?_)
        refine lv_iconst (v := (-1)) hx hb dX12_pricing_39 (by decide +kernel) ?_
        refine lv_istore (lv' := [(5, .int (-1 : Int32)), (4, .int (0 : Int32)), (0, .ref h0), (1, .int p1), (2, .int p2), (3, .int p3)]) hx hb dX12_pricing_40 hl (by decide) rfl (fun ls hl => ?_)
        refine lv_iconst (v := 1) hx hb dX12_pricing_42 (by decide +kernel) ?_
        refine lv_istore (lv' := [(6, .int (1 : Int32)), (5, .int (-1 : Int32)), (4, .int (0 : Int32)), (0, .ref h0), (1, .int p1), (2, .int p2), (3, .int p3)]) hx hb dX12_pricing_43 hl (by decide) rfl (fun ls hl => ?_)
        have J45 : ∀ (n237 : Nat) (I235 : zq_M) (H : Heap) (locs : List Loc) (ls : Array Slot) (j232 : Int32) (j233 : Int32) (j234 : Int32), 100 + 1 - j232.toInt ≤ ((n237 : Nat) : Int) → (zq_hm X (zk, zk) I235 H) → (va_S (zq_A X) s.heap H locs) → (zq_fr (zf X zw_X12_pricing (fun _ => False)) I I235) → (1 ≤ j232.toInt ∧ j232.toInt ≤ 100) → ((-1) ≤ j233.toInt) → (0 ≤ j234.toInt ∧ j234.toInt ≤ 99) → (zWF X I235 h0) → (lv_has ls 8 [(6, .int j232), (5, .int j233), (4, .int j234), (0, .ref h0), (1, .int p1), (2, .int p2), (3, .int p3)]) → W p l e R s m args below meth c H locs 0 0 Q (F0 m 45 ls []) := by
          intro n237
          induction n237 with
          | zero => intro I235 H locs ls j232 j233 j234 mu238 hM hS hR gj232 gj233 gj234 F236 hl; exfalso; have := zi_rng j232; omega
          | succ n237 ih45 =>
            intro I235 H locs ls j232 j233 j234 mu238 hM hS hR gj232 gj233 gj234 F236 hl
            have := zi_rng j233
            refine lv_iload hx hb dX12_pricing_45 (lv_at hl 0 rfl) ?_
            refine lv_bipush (v := 99) hx hb dX12_pricing_47 (by decide +kernel) ?_
            refine lv_icmp_gt (tgt := 101) hx hb dX12_pricing_49 (by decide) (fun b239 => ?_) (fun b239 => ?_)
            · have b239 := zi_lt b239 (zl_99 : (99 : Int32).toInt = 99) (rfl : j232.toInt = j232.toInt)
              refine lv_iload_n hx hb dX12_pricing_101 rfl (lv_at hl 6 rfl) ?_
              refine lv_if_ne (tgt := 110) hx hb dX12_pricing_102 (by decide) (fun b240 => ?_) (fun b240 => ?_)
              · have b240 := zi_ne b240 (rfl : p3.toInt = p3.toInt) (zl_0 : (0 : Int32).toInt = 0)
                refine lv_iload hx hb dX12_pricing_110 (lv_at hl 2 rfl) ?_
                subst hQ
                exact zq_iret E hr hZ hM hS ⟨hR, (by omega)⟩ hlocks dX12_pricing_112
              · have b240 := zi_eq b240 (rfl : p3.toInt = p3.toInt) (zl_0 : (0 : Int32).toInt = 0)
                refine lv_iload hx hb dX12_pricing_105 (lv_at hl 1 rfl) ?_
                refine lv_goto (tgt := 112) hx hb dX12_pricing_107 (by decide) ?_
                subst hQ
                exact zq_iret E hr hZ hM hS ⟨hR, (by have := zi_rng j233; omega)⟩ hlocks dX12_pricing_112
            · have b239 := zi_nlt b239 (zl_99 : (99 : Int32).toInt = 99) (rfl : j232.toInt = j232.toInt)
              refine lv_iload hx hb dX12_pricing_52 (lv_at hl 0 rfl) ?_
              refine lv_aload_n hx hb dX12_pricing_54 rfl (lv_at hl 3 rfl) ?_
              refine lv_iload_n hx hb dX12_pricing_55 rfl (lv_at hl 4 rfl) ?_
              refine lv_iconst (v := 1) hx hb dX12_pricing_56 (by decide +kernel) ?_
              refine zq_pcalli (zq_rV (As := [.int p1, .int (1 : Int32)]) (rest := [.int j232]) E hZ hM k_h0 (c_X12_townOf l X zk (zk) I235 L h0 k_h0 p1 (1 : Int32) ⟨by omega, by omega⟩ (by rw [zl_1]; decide) (by have := zl_1; omega)) zmX12_308 zM_X12_townOf (hro (0) 3 (by first | decide | omega) (by decide)) ⟨by decide, by decide⟩ rfl hl.1 rfl rfl (Nat.le_of_ble_eq_true rfl) dX12_pricing_57) hS (fun x242 H locs h241 hM hS => ?_)
              obtain ⟨p243, p244, p245, p246⟩ := h241
              have := zl_1
              have J70 : ∀ (I252 : zq_M) (H : Heap) (locs : List Loc) (ls : Array Slot), (zq_hm X (zk, zk) I252 H) → (va_S (zq_A X) s.heap H locs) → (zq_fr (zf X zw_X12_pricing (fun _ => False)) I I252) → (zWF X I252 h0) → (lv_has ls 8 [(6, .int j232), (5, .int j233), (4, .int j234), (0, .ref h0), (1, .int p1), (2, .int p2), (3, .int p3)]) → W p l e R s m args below meth c H locs 0 0 Q (F0 m 70 ls []) := by
                intro I252 H locs ls hM hS hR F253 hl
                refine lv_aload_n hx hb dX12_pricing_70 rfl (lv_at hl 3 rfl) ?_
                refine lv_iload_n hx hb dX12_pricing_71 rfl (lv_at hl 5 rfl) ?_
                refine zq_calli (zq_rV (As := [.int p2]) (rest := []) E hZ hM k_h0 (c_X12_moneyIn l X zk (zk) I252 L h0 k_h0 p2 ⟨by omega, by omega⟩ (by omega) (F253) (by omega)) zmX12_401 zM_X12_moneyIn (hro (5) 3 (by first | decide | omega) (by decide)) ⟨by decide, by decide⟩ rfl hl.1 rfl rfl (Nat.le_of_ble_eq_true rfl) dX12_pricing_72) hS (fun x264 I265 H locs h263 hM hS => ?_)
                obtain ⟨fr266, p267⟩ := h263
                have hR := zq_fr.call hR fr266 (zf_sub (by decide +kernel) (fun _ _ q => q.elim))
                have hWF268 := zWF.fr F253 L k_h0 fr266 (by decide)
                refine lv_istore (lv' := [(7, .int x264), (6, .int j232), (5, .int j233), (4, .int j234), (0, .ref h0), (1, .int p1), (2, .int p2), (3, .int p3)]) hx hb dX12_pricing_75 hl (by decide) rfl (fun ls hl => ?_)
                refine lv_iload hx hb dX12_pricing_77 (lv_at hl 0 rfl) ?_
                refine lv_iload hx hb dX12_pricing_79 (lv_at hl 2 rfl) ?_
                have J95 : ∀ (ls : Array Slot) (j269 : Int32) (j270 : Int32), ((-1) ≤ j269.toInt) → (0 ≤ j270.toInt ∧ j270.toInt ≤ 99) → (lv_has ls 8 [(5, .int j269), (4, .int j270), (7, .int x264), (6, .int j232), (0, .ref h0), (1, .int p1), (2, .int p2), (3, .int p3)]) → W p l e R s m args below meth c H locs 0 0 Q (F0 m 95 ls []) := by
                  intro ls j269 j270 gj269 gj270 hl
                  have := zi_rng j269
                  obtain ⟨x272, ex272⟩ : ∃ y : Int32, y = j232 + 1 := ⟨_, rfl⟩
                  have tx272 := zi_add ex272 (rfl : j232.toInt = j232.toInt) zl_1 ⟨by omega, by omega⟩
                  refine lv_iinc (v := x272) (lv' := [(6, .int x272), (5, .int j269), (4, .int j270), (7, .int x264), (0, .ref h0), (1, .int p1), (2, .int p2), (3, .int p3)]) hx hb dX12_pricing_95 hl (k := 3) rfl (by rw [ex272]; rfl) (by decide) rfl (fun ls hl => ?_)
                  refine lv_goto (tgt := 45) hx hb dX12_pricing_98 (by decide) ?_
                  exact ih45 I265 H locs ls x272 j269 j270 (by omega) hM hS hR (⟨by omega, by omega⟩) (by have := zi_rng j269; omega) (⟨by omega, by omega⟩) hWF268 (lv_sub hl [0, 1, 2, 4, 5, 6, 7] rfl)
                refine lv_icmp_gt (tgt := 87) hx hb dX12_pricing_81 (by decide) (fun b273 => ?_) (fun b273 => ?_)
                · have b273 := zi_lt b273 (rfl : j233.toInt = j233.toInt) (rfl : x264.toInt = x264.toInt)
                  refine lv_iload hx hb dX12_pricing_87 (lv_at hl 1 rfl) ?_
                  refine lv_istore (lv' := [(4, .int j232), (7, .int x264), (6, .int j232), (5, .int j233), (0, .ref h0), (1, .int p1), (2, .int p2), (3, .int p3)]) hx hb dX12_pricing_89 hl (by decide) rfl (fun ls hl => ?_)
                  refine lv_iload hx hb dX12_pricing_91 (lv_at hl 1 rfl) ?_
                  refine lv_istore (lv' := [(5, .int x264), (4, .int j232), (7, .int x264), (6, .int j232), (0, .ref h0), (1, .int p1), (2, .int p2), (3, .int p3)]) hx hb dX12_pricing_93 hl (by decide) rfl (fun ls hl => ?_)
                  exact J95 ls x264 j232 (by have := zi_rng x264; omega) (⟨by omega, by omega⟩) (lv_sub hl [0, 1, 2, 3, 4, 5, 6, 7] rfl)
                · have b273 := zi_nlt b273 (rfl : j233.toInt = j233.toInt) (rfl : x264.toInt = x264.toInt)
                  refine lv_goto (tgt := 95) hx hb dX12_pricing_84 (by decide) ?_
                  exact J95 ls j233 j234 (by have := zi_rng j233; omega) (⟨by omega, by omega⟩) (lv_sub hl [2, 3, 0, 1, 4, 5, 6, 7] rfl)
              refine lv_icmp_eq (tgt := 70) hx hb dX12_pricing_60 (by decide) (fun b274 => ?_) (fun b274 => ?_)
              · have b274 := zi_eq b274 (rfl : j232.toInt = j232.toInt) (rfl : x242.toInt = x242.toInt)
                exact J70 I235 H locs ls hM hS hR F236 (lv_sub hl [0, 1, 2, 3, 4, 5, 6] rfl)
              · have b274 := zi_ne b274 (rfl : j232.toInt = j232.toInt) (rfl : x242.toInt = x242.toInt)
                refine lv_aload_n hx hb dX12_pricing_63 rfl (lv_at hl 3 rfl) ?_
                refine lv_iload_n hx hb dX12_pricing_64 rfl (lv_at hl 4 rfl) ?_
                refine lv_iload hx hb dX12_pricing_65 (lv_at hl 0 rfl) ?_
                refine zq_callv (zq_rV (As := [.int p1, .int j232]) (rest := []) E hZ hM k_h0 (c_X12_asks l X zk (zk) I235 L h0 k_h0 p1 j232 ⟨by omega, by omega⟩ ⟨by omega, by omega⟩ (by omega)) zmX12_381 zM_X12_asks (hro (1) 3 (by first | decide | omega) (by decide)) ⟨by decide, by decide⟩ rfl hl.1 rfl rfl (Nat.le_of_ble_eq_true rfl) dX12_pricing_67) hS (fun I277 H locs h275 hM hS => ?_)
                have fr278 := h275
                have hR := zq_fr.call hR fr278 (zf_sub (by decide +kernel) (fun _ _ q => q.elim))
                have hWF279 := zWF.fr F236 L k_h0 fr278 (by decide)
                exact J70 I277 H locs ls hM hS hR hWF279 (lv_sub hl [0, 1, 2, 3, 4, 5, 6] rfl)
        exact J45 (100 + 1 - (1 : Int32).toInt).toNat I120 H locs ls (1 : Int32) (-1 : Int32) (0 : Int32) (by omega) hM hS hR (by rw [zl_1]; decide) (by rw [zl_m1]; decide) (by rw [zl_0]; decide) hWF123 (lv_sub hl [0, 1, 2, 3, 4, 5, 6] rfl)
      · have b117 := zi_eq b117 (rfl : x114.toInt = x114.toInt) (zl_0 : (0 : Int32).toInt = 0)
        refine lv_iconst (v := (-1)) hx hb dX12_pricing_30 (by decide +kernel) ?_
        subst hQ
        exact zq_iret E hr hZ hM hS ⟨hR, (by have := zl_m1; omega)⟩ hlocks dX12_pricing_31
def zw_X12_out : List (Nat × Nat) := [(10, 18), (59, 999), (61, 999)]
set_option maxHeartbeats 8000000 in
set_option maxRecDepth 100000 in
theorem c_X12_out (l : Launch) (X : zq_X) (zk zn : Nat) (I : zq_M) (L : zq_L X)  (h0 : Nat) (k_h0 : zq_k X h0 = 10) (q_0 : zk ≤ 4400 ∧ zn ≤ 4400) (q_1 : zWF X I h0) (q_2 : zk ≤ 2200) : Met l yX12_out (zt_w yX12_out cX12_out 3 (some .int)) (zq_rm (5)) (va_Pc [.ref h0] (zq_W X (zk, zk) I)) (va_Qi (fun (r : Int32) I2 => zq_fr (zf X zw_X12_out (fun _ => False)) I I2 ∧ ((-2) ≤ r.toInt ∧ r.toInt ≤ 4500)) (zq_E X (zk, zk)) (zq_A X)) 0 0 (zq_A X) := by
  refine Met.ofW (cc := cX12_out) (maxL := 3) (ret := (some .int)) (by decide) rfl ?_
  intro p e s m args below meth c s₁ B hml hv
  obtain ⟨hargs, hM, hZ⟩ := hv
  have hown : s.vm.findClass RX12 = some m.cls := findClass_of_methodNamed B.named
  have hts := atoms_spec (ws := zt_w yX12_out cX12_out 3 (some .int)) B.pre
  have E : CallFix p m c cX12_out 3 s args (Cond.code yX12_out cX12_out 3 (some .int) :: zt) RX12 := ⟨B.exec, B.bytes, hml, hown, hts⟩
  have hx := B.exec
  have hb := B.bytes
  have hr := B.returns
  have hlocks := B.notSynchronized
  clear B
  have hS : va_S (zq_A X) s.heap s.heap [] := va_S.rf
  have hR : zq_fr (zf X zw_X12_out (fun _ => False)) I I := zq_fr.rf
  have hl := lv_entry ([.ref h0]) (n := 3) (by exact Nat.le_of_ble_eq_true rfl)
  have hg : entryFrame m args 3 = F0 m 0 ((lg_sl ([.ref h0]) ++ List.replicate (3 - (lg_sl ([.ref h0])).length) Slot.unset).toArray) [] := by rw [hargs]; exact lg_entry_eq m ([.ref h0]) 3
  rw [hg]
  clear hg hargs
  generalize (lg_sl ([.ref h0]) ++ List.replicate (3 - (lg_sl ([.ref h0])).length) Slot.unset).toArray = ls at hl ⊢
  have hl : lv_has ls 3 [(0, .ref h0)] := by exact hl
  obtain ⟨R, hRm⟩ : ∃ R : Room, R = (headSpec (zt_w yX12_out cX12_out 3 (some .int)) (zq_rm (5))).room := ⟨_, rfl⟩
  rw [← hRm]
  have hro : ∀ d q : Nat, d + 1 ≤ 5 → q ≤ 45 → zq_rok d q R := fun d q h1 h2 => by rw [hRm]; exact zq_rokI h1 h2
  generalize hQ : MQ below _ args s 0 0 (zq_A X) = Q
  obtain ⟨H, hH⟩ : ∃ H, H = s.heap := ⟨_, rfl⟩
  obtain ⟨locs, hlo⟩ : ∃ x : List Loc, x = [] := ⟨_, rfl⟩
  rw [show W p l e R s m args below meth c s.heap [] 0 0 Q = W p l e R s m args below meth c H locs 0 0 Q by rw [hH, hlo]]
  have hM : zq_hm X (zk, zk) I H := by rw [hH]; exact hM
  have hS : va_S (zq_A X) s.heap H locs := by rw [hH, hlo]; exact hS
  clear hH hlo
  refine lv_aload_n hx hb dX12_out_0 rfl (lv_at hl 0 rfl) ?_
  refine zq_pcalli (zq_rV (As := []) (rest := []) E hZ hM k_h0 (c_X12_isTrade l X zk (zk) I L h0 k_h0 (by omega)) zmX12_357 zM_X12_isTrade (hro (0) 1 (by first | decide | omega) (by decide)) ⟨by decide, by decide⟩ rfl hl.1 rfl rfl (Nat.le_of_ble_eq_true rfl) dX12_out_1) hS (fun x102 H locs h101 hM hS => ?_)
  have p103 := h101
  refine lv_if_ne (tgt := 9) hx hb dX12_out_4 (by decide) (fun b104 => ?_) (fun b104 => ?_)
  · have b104 := zi_ne b104 (rfl : x102.toInt = x102.toInt) (zl_0 : (0 : Int32).toInt = 0)
    refine lv_bipush (v := (-2)) hx hb dX12_out_9 (by decide +kernel) ?_
    refine lv_istore_n (lv' := [(1, .int (-2 : Int32)), (0, .ref h0)]) hx hb dX12_out_11 rfl hl (by decide) rfl (fun ls hl => ?_)
    refine lv_aload_n hx hb dX12_out_12 rfl (lv_at hl 1 rfl) ?_
    refine zq_callv (zq_rV (As := []) (rest := []) E hZ hM k_h0 (c_X12_keeps l X zk (zk) I L h0 k_h0 (by omega) (by omega)) zmX12_388 zM_X12_keeps (hro (0) 2 (by first | decide | omega) (by decide)) ⟨by decide, by decide⟩ rfl hl.1 rfl rfl (Nat.le_of_ble_eq_true rfl) dX12_out_13) hS (fun I107 H locs h105 hM hS => ?_)
    obtain ⟨fr108, p109⟩ := h105
    have hR := zq_fr.call hR fr108 (zf_sub (by decide +kernel) (fun _ _ q => q.elim))
    have hWF110 := zWF.fr q_1 L k_h0 fr108 (by decide)
    refine lv_iconst (v := 0) hx hb dX12_out_16 (by decide +kernel) ?_
    refine lv_istore_n (lv' := [(2, .int (0 : Int32)), (1, .int (-2 : Int32)), (0, .ref h0)]) hx hb dX12_out_17 rfl hl (by decide) rfl (fun ls hl => ?_)
    have J18 : ∀ (n201 : Nat) (I198 : zq_M) (H : Heap) (locs : List Loc) (ls : Array Slot) (zv200 : Nat) (j196 : Int32) (j197 : Int32), 60 + 1 - j196.toInt ≤ ((n201 : Nat) : Int) → (zq_hm X (zk, zv200) I198 H) → (va_S (zq_A X) s.heap H locs) → (zq_fr (zf X zw_X12_out (fun _ => False)) I I198) → (0 ≤ j196.toInt ∧ j196.toInt ≤ 60) → ((-2) ≤ j197.toInt ∧ j197.toInt ≤ 4500) → (zWF X I198 h0) → (((zv200 : Nat) : Int) ≤ ((zk : Nat) : Int) + 4 * j196.toInt) → (lv_has ls 3 [(2, .int j196), (1, .int j197), (0, .ref h0)]) → W p l e R s m args below meth c H locs 0 0 Q (F0 m 18 ls []) := by
      intro n201
      induction n201 with
      | zero => intro I198 H locs ls zv200 j196 j197 mu202 hM hS hR gj196 gj197 F199 hz9 hl; exfalso; have := zi_rng j196; omega
      | succ n201 ih18 =>
        intro I198 H locs ls zv200 j196 j197 mu202 hM hS hR gj196 gj197 F199 hz9 hl
        refine lv_iload_n hx hb dX12_out_18 rfl (lv_at hl 0 rfl) ?_
        refine lv_bipush (v := 60) hx hb dX12_out_19 (by decide +kernel) ?_
        have J54 : ∀ (ls : Array Slot), (lv_has ls 3 [(2, .int j196), (1, .int j197), (0, .ref h0)]) → W p l e R s m args below meth c H locs 0 0 Q (F0 m 54 ls []) := by
          intro ls hl
          refine lv_aload_n hx hb dX12_out_54 rfl (lv_at hl 2 rfl) ?_
          refine zq_callv (zq_rV (As := []) (rest := []) E hZ hM k_h0 (c_X12_laysBack l X zk (zv200) I198 L h0 k_h0 (by omega)) zmX12_391 zM_X12_laysBack (hro (0) 2 (by first | decide | omega) (by decide)) ⟨by decide, by decide⟩ rfl hl.1 rfl rfl (Nat.le_of_ble_eq_true rfl) dX12_out_55) hS (fun I223 H locs h221 hM hS => ?_)
          obtain ⟨fr224, p225⟩ := h221
          have hR := zq_fr.call hR fr224 (zf_sub (by decide +kernel) (fun _ _ q => q.elim))
          have hWF226 := zWF.fr F199 L k_h0 fr224 (by decide)
          refine lv_iload_n hx hb dX12_out_58 rfl (lv_at hl 1 rfl) ?_
          subst hQ
          exact zq_iret E hr hZ hM hS ⟨hR, (by omega)⟩ hlocks dX12_out_59
        refine lv_icmp_ge (tgt := 54) hx hb dX12_out_21 (by decide) (fun b227 => ?_) (fun b227 => ?_)
        · have b227 := zi_le b227 (zl_60 : (60 : Int32).toInt = 60) (rfl : j196.toInt = j196.toInt)
          exact J54 ls (lv_sub hl [0, 1, 2] rfl)
        · have b227 := zi_nle b227 (zl_60 : (60 : Int32).toInt = 60) (rfl : j196.toInt = j196.toInt)
          refine lv_iload_n hx hb dX12_out_24 rfl (lv_at hl 1 rfl) ?_
          refine lv_if_ge (tgt := 54) hx hb dX12_out_25 (by decide) (fun b228 => ?_) (fun b228 => ?_)
          · have b228 := zi_le b228 (zl_0 : (0 : Int32).toInt = 0) (rfl : j197.toInt = j197.toInt)
            exact J54 ls (lv_sub hl [0, 1, 2] rfl)
          · have b228 := zi_nle b228 (zl_0 : (0 : Int32).toInt = 0) (rfl : j197.toInt = j197.toInt)
            refine lv_aload_n hx hb dX12_out_28 rfl (lv_at hl 2 rfl) ?_
            refine zq_pcalli (zq_rV (As := []) (rest := []) E hZ hM k_h0 (c_X12_isOut l X zk (zv200) I198 L h0 k_h0 (by omega)) zmX12_425 zM_X12_isOut (hro (3) 2 (by first | decide | omega) (by decide)) ⟨by decide, by decide⟩ rfl hl.1 rfl rfl (Nat.le_of_ble_eq_true rfl) dX12_out_29) hS (fun x230 H locs h229 hM hS => ?_)
            have p231 := h229
            have J43 : ∀ (ls : Array Slot) (j234 : Int32), ((-2) ≤ j234.toInt ∧ j234.toInt ≤ 4500) → (lv_has ls 3 [(2, .int j196), (1, .int j234), (0, .ref h0)]) → W p l e R s m args below meth c H locs 0 0 Q (F0 m 43 ls []) := by
              intro ls j234 gj234 hl
              refine lv_aload_n hx hb dX12_out_43 rfl (lv_at hl 2 rfl) ?_
              refine zq_calli (zq_rV (As := []) (rest := []) E hZ hM k_h0 (c_X12_passes l X zk (zv200) I198 L h0 k_h0 (by omega) (F199) (by omega)) zmX12_363 zM_X12_passes (hro (4) 3 (by first | decide | omega) (by decide)) ⟨by decide, by decide⟩ rfl hl.1 rfl rfl (Nat.le_of_ble_eq_true rfl) dX12_out_44) hS (fun x242 I243 H locs h241 hM hS => ?_)
              have fr244 := h241
              have hR := zq_fr.call hR fr244 (zf_sub (by decide +kernel) (fun _ _ q => q.elim))
              have hWF245 := zWF.fr F199 L k_h0 fr244 (by decide)
              refine lv_pop hx hb dX12_out_47 rfl ?_
              obtain ⟨x246, ex246⟩ : ∃ y : Int32, y = j196 + 1 := ⟨_, rfl⟩
              have tx246 := zi_add ex246 (rfl : j196.toInt = j196.toInt) zl_1 ⟨by omega, by omega⟩
              refine lv_iinc (v := x246) (lv' := [(2, .int x246), (1, .int j234), (0, .ref h0)]) hx hb dX12_out_48 hl (k := 0) rfl (by rw [ex246]; rfl) (by decide) rfl (fun ls hl => ?_)
              refine lv_goto (tgt := 18) hx hb dX12_out_51 (by decide) ?_
              exact ih18 I243 H locs ls ((zv200 + 4)) x246 j234 (by omega) hM hS hR (⟨by omega, by omega⟩) (⟨by omega, by omega⟩) hWF245 (by have := zl_0; omega) (lv_sub hl [0, 1, 2] rfl)
            refine lv_if_eq (tgt := 43) hx hb dX12_out_32 (by decide) (fun b247 => ?_) (fun b247 => ?_)
            · have b247 := zi_eq b247 (rfl : x230.toInt = x230.toInt) (zl_0 : (0 : Int32).toInt = 0)
              exact J43 ls j197 (⟨by omega, by omega⟩) (lv_sub hl [0, 1, 2] rfl)
            · have b247 := zi_ne b247 (rfl : x230.toInt = x230.toInt) (zl_0 : (0 : Int32).toInt = 0)
              refine lv_aload_n hx hb dX12_out_35 rfl (lv_at hl 2 rfl) ?_
              refine zq_getr E hM k_h0 (zFX12_39 E hZ) ⟨by decide, by decide, by decide, rfl⟩ dX12_out_36 ?_
              have k248 : zq_k X (zq_r X h0 20) = 59 := zq_lk L.1 k_h0 rfl (by decide)
              refine lv_bipush (v := 12) hx hb dX12_out_39 (by decide +kernel) ?_
              refine zq_ian (n := 106) (j := 12) E hZ hM k248 ⟨by decide, rfl⟩ (by rw [zl_12]; decide) (by decide +kernel) dX12_out_41 (fun x249 ex249 gx249 => ?_)
              replace gx249 : 0 ≤ x249.toInt ∧ x249.toInt ≤ ((zv200 : Nat) : Int) := gx249
              refine lv_istore_n (lv' := [(1, .int x249), (2, .int j196), (0, .ref h0)]) hx hb dX12_out_42 rfl hl (by decide) rfl (fun ls hl => ?_)
              exact J43 ls x249 (⟨by omega, by omega⟩) (lv_sub hl [1, 0, 2] rfl)
    exact J18 (60 + 1 - (0 : Int32).toInt).toNat I107 H locs ls (zk) (0 : Int32) (-2 : Int32) (by omega) hM hS hR (by rw [zl_0]; decide) (by rw [zl_m2]; decide) hWF110 (by have := zl_0; omega) (lv_sub hl [0, 1, 2] rfl)
  · have b104 := zi_eq b104 (rfl : x102.toInt = x102.toInt) (zl_0 : (0 : Int32).toInt = 0)
    refine lv_iconst (v := (-1)) hx hb dX12_out_7 (by decide +kernel) ?_
    subst hQ
    exact zq_iret E hr hZ hM hS ⟨hR, (by have := zl_m1; omega)⟩ hlocks dX12_out_8
set_option maxHeartbeats 8000000 in
set_option maxRecDepth 100000 in
theorem c_X12_draw (l : Launch) (X : zq_X) (zk zn : Nat) (I : zq_M) (L : zq_L X)  (h0 : Nat) (k_h0 : zq_k X h0 = 10) (p1 : Int32) (g_p1 : 1 ≤ p1.toInt ∧ p1.toInt ≤ 1000) (q_0 : zk ≤ 4400 ∧ zn ≤ 4400) : Met l yX12_draw (zt_w yX12_draw cX12_draw 2 (some .int)) (zq_rm (0)) (va_Pc [.ref h0, .int p1] (zq_W X (zk, zn) I)) (va_Qi (fun (r : Int32) I2 => I2 = I ∧ True) (zq_E X (zk, zn)) (zq_A X)) 0 0 (zq_A X) := by
  refine Met.ofW (cc := cX12_draw) (maxL := 2) (ret := (some .int)) (by decide) rfl ?_
  intro p e s m args below meth c s₁ B hml hv
  obtain ⟨hargs, hM, hZ⟩ := hv
  have hown : s.vm.findClass RX12 = some m.cls := findClass_of_methodNamed B.named
  have hts := atoms_spec (ws := zt_w yX12_draw cX12_draw 2 (some .int)) B.pre
  have E : CallFix p m c cX12_draw 2 s args (Cond.code yX12_draw cX12_draw 2 (some .int) :: zt) RX12 := ⟨B.exec, B.bytes, hml, hown, hts⟩
  have hx := B.exec
  have hb := B.bytes
  have hr := B.returns
  have hlocks := B.notSynchronized
  clear B
  have hS : va_S (zq_A X) s.heap s.heap [] := va_S.rf
  have hl := lv_entry ([.ref h0, .int p1]) (n := 2) (by exact Nat.le_of_ble_eq_true rfl)
  have hg : entryFrame m args 2 = F0 m 0 ((lg_sl ([.ref h0, .int p1]) ++ List.replicate (2 - (lg_sl ([.ref h0, .int p1])).length) Slot.unset).toArray) [] := by rw [hargs]; exact lg_entry_eq m ([.ref h0, .int p1]) 2
  rw [hg]
  clear hg hargs
  generalize (lg_sl ([.ref h0, .int p1]) ++ List.replicate (2 - (lg_sl ([.ref h0, .int p1])).length) Slot.unset).toArray = ls at hl ⊢
  have hl : lv_has ls 2 [(0, .ref h0), (1, .int p1)] := by exact hl
  obtain ⟨R, hRm⟩ : ∃ R : Room, R = (headSpec (zt_w yX12_draw cX12_draw 2 (some .int)) (zq_rm (0))).room := ⟨_, rfl⟩
  rw [← hRm]
  generalize hQ : MQ below _ args s 0 0 (zq_A X) = Q
  obtain ⟨H, hH⟩ : ∃ H, H = s.heap := ⟨_, rfl⟩
  obtain ⟨locs, hlo⟩ : ∃ x : List Loc, x = [] := ⟨_, rfl⟩
  rw [show W p l e R s m args below meth c s.heap [] 0 0 Q = W p l e R s m args below meth c H locs 0 0 Q by rw [hH, hlo]]
  have hM : zq_hm X (zk, zn) I H := by rw [hH]; exact hM
  have hS : va_S (zq_A X) s.heap H locs := by rw [hH, hlo]; exact hS
  clear hH hlo
  refine lv_aload_n hx hb dX12_draw_0 rfl (lv_at hl 0 rfl) ?_
  refine lv_aload_n hx hb dX12_draw_1 rfl (lv_at hl 0 rfl) ?_
  refine zq_getl E hM k_h0 (zFX12_442 E hZ) ⟨by decide, by decide, by decide, rfl⟩ dX12_draw_2 (fun y101 => ?_)
  refine W.ldc2 (v := 1103515245) hx hb hown (hts _ (List.mem_cons_of_mem _ zCX12_446)) rfl dX12_draw_5 ?_
  refine W.eq (g2 := F0 m 8 ls [.long (1103515245 : Int64), .long y101, .ref h0]) rfl ?_
  refine lv_lmul hx hb dX12_draw_8 ?_
  refine lv_topl (fun y102 ey102 => ?_)
  refine W.ldc2 (v := 12345) hx hb hown (hts _ (List.mem_cons_of_mem _ zCX12_448)) rfl dX12_draw_9 ?_
  refine W.eq (g2 := F0 m 12 ls [.long (12345 : Int64), .long y102, .ref h0]) rfl ?_
  refine lv_ladd hx hb dX12_draw_12 ?_
  refine lv_topl (fun y103 ey103 => ?_)
  refine W.ldc2 (v := 2147483648) hx hb hown (hts _ (List.mem_cons_of_mem _ zCX12_450)) rfl dX12_draw_13 ?_
  refine W.eq (g2 := F0 m 16 ls [.long (2147483648 : Int64), .long y103, .ref h0]) rfl ?_
  refine lv_lrem hx hb dX12_draw_16 (by decide +kernel) ?_
  refine lv_topl (fun y104 ey104 => ?_)
  refine W.eq (g2 := F0 m 17 ls [.long y104, .ref h0]) rfl ?_
  refine zq_putl E hM hS k_h0 (zGX12_442 E hZ) ⟨by decide, by decide, by decide, rfl⟩ dX12_draw_17 (fun H locs hM hS => ?_)
  refine lv_aload_n hx hb dX12_draw_20 rfl (lv_at hl 0 rfl) ?_
  refine zq_getl E hM k_h0 (zFX12_442 E hZ) ⟨by decide, by decide, by decide, rfl⟩ dX12_draw_21 (fun y105 => ?_)
  refine W.ldc2 (v := 65536) hx hb hown (hts _ (List.mem_cons_of_mem _ zCX12_452)) rfl dX12_draw_24 ?_
  refine W.eq (g2 := F0 m 27 ls [.long (65536 : Int64), .long y105]) rfl ?_
  refine lv_ldiv hx hb dX12_draw_27 (by decide +kernel) ?_
  refine lv_topl (fun y106 ey106 => ?_)
  refine lv_iload_n hx hb dX12_draw_28 rfl (lv_at hl 1 rfl) ?_
  refine lv_i2l hx hb dX12_draw_29 rfl ?_
  refine lv_topl (fun y107 ey107 => ?_)
  have ty107 := zi_i2l ey107
  refine lv_lrem hx hb dX12_draw_30 (fun q => by have hz := congrArg Int64.toInt q; rw [show (0 : Int64).toInt = 0 from by decide +kernel] at hz; omega) ?_
  refine lv_topl (fun y108 ey108 => ?_)
  refine lv_l2i hx hb dX12_draw_31 rfl ?_
  refine lv_topi (fun x109 ex109 => ?_)
  subst hQ
  exact zq_iret E hr hZ hM hS ⟨rfl, trivial⟩ hlocks dX12_draw_32
def zw_X12_years : List (Nat × Nat) := [(10, 18), (10, 23), (59, 999), (61, 999)]
set_option maxHeartbeats 8000000 in
set_option maxRecDepth 100000 in
theorem c_X12_years (l : Launch) (X : zq_X) (zk zn : Nat) (I : zq_M) (L : zq_L X)  (h0 : Nat) (k_h0 : zq_k X h0 = 10) (p1 : Int32) (p2 : Int32) (p3 : Int32) (q_0 : zk ≤ 4400 ∧ zn ≤ 4400) (q_1 : zWF X I h0) (q_2 : zk ≤ 2200) : Met l yX12_years (zt_w yX12_years cX12_years 8 (some .int)) (zq_rm (5)) (va_Pc [.ref h0, .int p1, .int p2, .int p3] (zq_W X (zk, zk) I)) (va_Qi (fun (r : Int32) I2 => zq_fr (zf X zw_X12_years (fun _ => False)) I I2) (zq_E X (zk, zk)) (zq_A X)) 0 0 (zq_A X) := by
  refine Met.ofW (cc := cX12_years) (maxL := 8) (ret := (some .int)) (by decide) rfl ?_
  intro p e s m args below meth c s₁ B hml hv
  obtain ⟨hargs, hM, hZ⟩ := hv
  have hown : s.vm.findClass RX12 = some m.cls := findClass_of_methodNamed B.named
  have hts := atoms_spec (ws := zt_w yX12_years cX12_years 8 (some .int)) B.pre
  have E : CallFix p m c cX12_years 8 s args (Cond.code yX12_years cX12_years 8 (some .int) :: zt) RX12 := ⟨B.exec, B.bytes, hml, hown, hts⟩
  have hx := B.exec
  have hb := B.bytes
  have hr := B.returns
  have hlocks := B.notSynchronized
  clear B
  have hS : va_S (zq_A X) s.heap s.heap [] := va_S.rf
  have hR : zq_fr (zf X zw_X12_years (fun _ => False)) I I := zq_fr.rf
  have hl := lv_entry ([.ref h0, .int p1, .int p2, .int p3]) (n := 8) (by exact Nat.le_of_ble_eq_true rfl)
  have hg : entryFrame m args 8 = F0 m 0 ((lg_sl ([.ref h0, .int p1, .int p2, .int p3]) ++ List.replicate (8 - (lg_sl ([.ref h0, .int p1, .int p2, .int p3])).length) Slot.unset).toArray) [] := by rw [hargs]; exact lg_entry_eq m ([.ref h0, .int p1, .int p2, .int p3]) 8
  rw [hg]
  clear hg hargs
  generalize (lg_sl ([.ref h0, .int p1, .int p2, .int p3]) ++ List.replicate (8 - (lg_sl ([.ref h0, .int p1, .int p2, .int p3])).length) Slot.unset).toArray = ls at hl ⊢
  have hl : lv_has ls 8 [(0, .ref h0), (1, .int p1), (2, .int p2), (3, .int p3)] := by exact hl
  obtain ⟨R, hRm⟩ : ∃ R : Room, R = (headSpec (zt_w yX12_years cX12_years 8 (some .int)) (zq_rm (5))).room := ⟨_, rfl⟩
  rw [← hRm]
  have hro : ∀ d q : Nat, d + 1 ≤ 5 → q ≤ 45 → zq_rok d q R := fun d q h1 h2 => by rw [hRm]; exact zq_rokI h1 h2
  generalize hQ : MQ below _ args s 0 0 (zq_A X) = Q
  obtain ⟨H, hH⟩ : ∃ H, H = s.heap := ⟨_, rfl⟩
  obtain ⟨locs, hlo⟩ : ∃ x : List Loc, x = [] := ⟨_, rfl⟩
  rw [show W p l e R s m args below meth c s.heap [] 0 0 Q = W p l e R s m args below meth c H locs 0 0 Q by rw [hH, hlo]]
  have hM : zq_hm X (zk, zk) I H := by rw [hH]; exact hM
  have hS : va_S (zq_A X) s.heap H locs := by rw [hH, hlo]; exact hS
  clear hH hlo
  refine lv_aload_n hx hb dX12_years_0 rfl (lv_at hl 0 rfl) ?_
  refine zq_pcalli (zq_rV (As := []) (rest := []) E hZ hM k_h0 (c_X12_isTrade l X zk (zk) I L h0 k_h0 (by omega)) zmX12_357 zM_X12_isTrade (hro (0) 1 (by first | decide | omega) (by decide)) ⟨by decide, by decide⟩ rfl hl.1 rfl rfl (Nat.le_of_ble_eq_true rfl) dX12_years_1) hS (fun x102 H locs h101 hM hS => ?_)
  have p103 := h101
  refine lv_if_eq (tgt := 41) hx hb dX12_years_4 (by decide) (fun b104 => ?_) (fun b104 => ?_)
  · have b104 := zi_eq b104 (rfl : x102.toInt = x102.toInt) (zl_0 : (0 : Int32).toInt = 0)
    refine lv_iconst (v := (-1)) hx hb dX12_years_41 (by decide +kernel) ?_
    subst hQ
    exact zq_iret E hr hZ hM hS hR hlocks dX12_years_42
  · have b104 := zi_ne b104 (rfl : x102.toInt = x102.toInt) (zl_0 : (0 : Int32).toInt = 0)
    refine lv_iload_n hx hb dX12_years_7 rfl (lv_at hl 1 rfl) ?_
    refine lv_i2l hx hb dX12_years_8 rfl ?_
    refine lv_topl (fun y105 ey105 => ?_)
    have ty105 := zi_i2l ey105
    have := zi_rng p1
    refine lv_lconst (v := 1) hx hb dX12_years_9 (by decide +kernel) ?_
    refine W.ldc2 (v := 10) hx hb hown (hts _ (List.mem_cons_of_mem _ zCX12_454)) rfl dX12_years_10 ?_
    refine W.eq (g2 := F0 m 13 ls [.long (10 : Int64), .long (1 : Int64), .long y105]) rfl ?_
    refine zq_pcalli (zq_rS (As := [.long y105, .long (1 : Int64), .long (10 : Int64)]) (rest := []) E hZ hM (c_X12_in l X zk (zk) I L y105 (1 : Int64) (10 : Int64)) zmX12_112 zM_X12_in (hro (0) 6 (by first | decide | omega) (by decide)) hl.1 rfl rfl (Nat.le_of_ble_eq_true rfl) dX12_years_13) hS (fun x107 H locs h106 hM hS => ?_)
    obtain ⟨p108, p109⟩ := h106
    have : (1 : Int64).toInt = 1 := by decide +kernel
    have : (10 : Int64).toInt = 10 := by decide +kernel
    refine lv_if_eq (tgt := 41) hx hb dX12_years_16 (by decide) (fun b110 => ?_) (fun b110 => ?_)
    · have b110 := zi_eq b110 (rfl : x107.toInt = x107.toInt) (zl_0 : (0 : Int32).toInt = 0)
      refine lv_iconst (v := (-1)) hx hb dX12_years_41 (by decide +kernel) ?_
      subst hQ
      exact zq_iret E hr hZ hM hS hR hlocks dX12_years_42
    · have b110 := zi_ne b110 (rfl : x107.toInt = x107.toInt) (zl_0 : (0 : Int32).toInt = 0)
      refine lv_iload_n hx hb dX12_years_19 rfl (lv_at hl 2 rfl) ?_
      refine lv_i2l hx hb dX12_years_20 rfl ?_
      refine lv_topl (fun y111 ey111 => ?_)
      have ty111 := zi_i2l ey111
      have := zi_rng p2
      refine lv_lconst (v := 1) hx hb dX12_years_21 (by decide +kernel) ?_
      refine W.ldc2 (v := 60) hx hb hown (hts _ (List.mem_cons_of_mem _ zCX12_384)) rfl dX12_years_22 ?_
      refine W.eq (g2 := F0 m 25 ls [.long (60 : Int64), .long (1 : Int64), .long y111]) rfl ?_
      refine zq_pcalli (zq_rS (As := [.long y111, .long (1 : Int64), .long (60 : Int64)]) (rest := []) E hZ hM (c_X12_in l X zk (zk) I L y111 (1 : Int64) (60 : Int64)) zmX12_112 zM_X12_in (hro (0) 6 (by first | decide | omega) (by decide)) hl.1 rfl rfl (Nat.le_of_ble_eq_true rfl) dX12_years_25) hS (fun x113 H locs h112 hM hS => ?_)
      obtain ⟨p114, p115⟩ := h112
      have : (1 : Int64).toInt = 1 := by decide +kernel
      have : (60 : Int64).toInt = 60 := by decide +kernel
      refine lv_if_eq (tgt := 41) hx hb dX12_years_28 (by decide) (fun b116 => ?_) (fun b116 => ?_)
      · have b116 := zi_eq b116 (rfl : x113.toInt = x113.toInt) (zl_0 : (0 : Int32).toInt = 0)
        refine lv_iconst (v := (-1)) hx hb dX12_years_41 (by decide +kernel) ?_
        subst hQ
        exact zq_iret E hr hZ hM hS hR hlocks dX12_years_42
      · have b116 := zi_ne b116 (rfl : x113.toInt = x113.toInt) (zl_0 : (0 : Int32).toInt = 0)
        refine lv_iload_n hx hb dX12_years_31 rfl (lv_at hl 3 rfl) ?_
        refine lv_i2l hx hb dX12_years_32 rfl ?_
        refine lv_topl (fun y117 ey117 => ?_)
        have ty117 := zi_i2l ey117
        have := zi_rng p3
        refine lv_lconst (v := 0) hx hb dX12_years_33 (by decide +kernel) ?_
        refine lv_lconst (v := 1) hx hb dX12_years_34 (by decide +kernel) ?_
        refine zq_pcalli (zq_rS (As := [.long y117, .long (0 : Int64), .long (1 : Int64)]) (rest := []) E hZ hM (c_X12_in l X zk (zk) I L y117 (0 : Int64) (1 : Int64)) zmX12_112 zM_X12_in (hro (0) 6 (by first | decide | omega) (by decide)) hl.1 rfl rfl (Nat.le_of_ble_eq_true rfl) dX12_years_35) hS (fun x119 H locs h118 hM hS => ?_)
        obtain ⟨p120, p121⟩ := h118
        have : (0 : Int64).toInt = 0 := by decide +kernel
        have : (1 : Int64).toInt = 1 := by decide +kernel
        refine lv_if_ne (tgt := 43) hx hb dX12_years_38 (by decide) (fun b122 => ?_) (fun b122 => ?_)
        · have b122 := zi_ne b122 (rfl : x119.toInt = x119.toInt) (zl_0 : (0 : Int32).toInt = 0)
          refine lv_aload_n hx hb dX12_years_43 rfl (lv_at hl 0 rfl) ?_
          refine lv_aload_n hx hb dX12_years_44 rfl (lv_at hl 0 rfl) ?_
          refine zq_gn E hM k_h0 (zFX12_439 E hZ) (Or.inl ⟨by decide, by decide, by decide, rfl⟩) dX12_years_45 (fun x123 ex123 gx123 => ?_)
          clear gx123
          refine lv_i2l hx hb dX12_years_48 rfl ?_
          refine lv_topl (fun y124 ey124 => ?_)
          have ty124 := zi_i2l ey124
          have := zi_rng x123
          refine zq_putl E hM hS k_h0 (zGX12_442 E hZ) ⟨by decide, by decide, by decide, rfl⟩ dX12_years_49 (fun H locs hM hS => ?_)
          refine lv_iconst (v := 0) hx hb dX12_years_52 (by decide +kernel) ?_
          refine lv_istore (lv' := [(4, .int (0 : Int32)), (0, .ref h0), (1, .int p1), (2, .int p2), (3, .int p3)]) hx hb dX12_years_53 hl (by decide) rfl (fun ls hl => ?_)
          refine lv_iconst (v := 0) hx hb dX12_years_55 (by decide +kernel) ?_
          refine lv_istore (lv' := [(5, .int (0 : Int32)), (4, .int (0 : Int32)), (0, .ref h0), (1, .int p1), (2, .int p2), (3, .int p3)]) hx hb dX12_years_56 hl (by decide) rfl (fun ls hl => ?_)
          refine W.eq (g2 := F0 m 58 ls []) rfl ?_
          refine lv_aload_n hx hb dX12_years_58 rfl (lv_at hl 2 rfl) ?_
          refine zq_callv (zq_rV (As := []) (rest := []) E hZ hM k_h0 (c_X12_keeps l X zk (zk) I L h0 k_h0 (by omega) (by omega)) zmX12_388 zM_X12_keeps (hro (0) 2 (by first | decide | omega) (by decide)) ⟨by decide, by decide⟩ rfl hl.1 rfl rfl (Nat.le_of_ble_eq_true rfl) dX12_years_59) hS (fun I127 H locs h125 hM hS => ?_)
          obtain ⟨fr128, p129⟩ := h125
          have hR := zq_fr.call hR fr128 (zf_sub (by decide +kernel) (fun _ _ q => q.elim))
          have hWF130 := zWF.fr q_1 L k_h0 fr128 (by decide)
          refine lv_iconst (v := 0) hx hb dX12_years_62 (by decide +kernel) ?_
          refine lv_istore (lv' := [(6, .int (0 : Int32)), (5, .int (0 : Int32)), (4, .int (0 : Int32)), (0, .ref h0), (1, .int p1), (2, .int p2), (3, .int p3)]) hx hb dX12_years_63 hl (by decide) rfl (fun ls hl => ?_)
          have J65 : ∀ (n638 : Nat) (I636 : zq_M) (H : Heap) (locs : List Loc) (ls : Array Slot) (j633 : Int32) (j634 : Int32) (j635 : Int32), 10 + 1 - j633.toInt ≤ ((n638 : Nat) : Int) → (zq_hm X (zk, zk) I636 H) → (va_S (zq_A X) s.heap H locs) → (zq_fr (zf X zw_X12_years (fun _ => False)) I I636) → (0 ≤ j633.toInt ∧ j633.toInt ≤ 10) → (zWF X I636 h0) → (lv_has ls 8 [(6, .int j633), (5, .int j634), (4, .int j635), (0, .ref h0), (1, .int p1), (2, .int p2), (3, .int p3)]) → W p l e R s m args below meth c H locs 0 0 Q (F0 m 65 ls []) := by
            intro n638
            induction n638 with
            | zero => intro I636 H locs ls j633 j634 j635 mu639 hM hS hR gj633 F637 hl; exfalso; have := zi_rng j633; omega
            | succ n638 ih65 =>
              intro I636 H locs ls j633 j634 j635 mu639 hM hS hR gj633 F637 hl
              refine lv_iload hx hb dX12_years_65 (lv_at hl 0 rfl) ?_
              refine lv_iload_n hx hb dX12_years_67 rfl (lv_at hl 4 rfl) ?_
              refine lv_icmp_ge (tgt := 127) hx hb dX12_years_68 (by decide) (fun b640 => ?_) (fun b640 => ?_)
              · have b640 := zi_le b640 (rfl : p1.toInt = p1.toInt) (rfl : j633.toInt = j633.toInt)
                refine lv_aload_n hx hb dX12_years_127 rfl (lv_at hl 3 rfl) ?_
                refine lv_bipush (v := 100) hx hb dX12_years_128 (by decide +kernel) ?_
                refine zq_pn E hM hS k_h0 (zGX12_46 E hZ) ⟨by decide, by decide, by decide, rfl⟩ (zq_any _) dX12_years_130 (fun I641 H locs eI641 hM hS => ?_)
                have hR := zq_fr.putE hR eI641 (zf_i k_h0 rfl rfl)
                have hWF642 := zWF.put F637 L k_h0 eI641 k_h0 (by decide)
                refine lv_iload_n hx hb dX12_years_133 rfl (lv_at hl 6 rfl) ?_
                refine lv_if_ne (tgt := 142) hx hb dX12_years_134 (by decide) (fun b643 => ?_) (fun b643 => ?_)
                · have b643 := zi_ne b643 (rfl : p3.toInt = p3.toInt) (zl_0 : (0 : Int32).toInt = 0)
                  refine lv_iload hx hb dX12_years_142 (lv_at hl 1 rfl) ?_
                  subst hQ
                  exact zq_iret E hr hZ hM hS hR hlocks dX12_years_144
                · have b643 := zi_eq b643 (rfl : p3.toInt = p3.toInt) (zl_0 : (0 : Int32).toInt = 0)
                  refine lv_iload hx hb dX12_years_137 (lv_at hl 2 rfl) ?_
                  refine lv_goto (tgt := 144) hx hb dX12_years_139 (by decide) ?_
                  subst hQ
                  exact zq_iret E hr hZ hM hS hR hlocks dX12_years_144
              · have b640 := zi_nle b640 (rfl : p1.toInt = p1.toInt) (rfl : j633.toInt = j633.toInt)
                refine lv_iconst (v := 0) hx hb dX12_years_71 (by decide +kernel) ?_
                refine lv_istore (lv' := [(7, .int (0 : Int32)), (6, .int j633), (5, .int j634), (4, .int j635), (0, .ref h0), (1, .int p1), (2, .int p2), (3, .int p3)]) hx hb dX12_years_72 hl (by decide) rfl (fun ls hl => ?_)
                have J74 : ∀ (n742 : Nat) (I739 : zq_M) (H : Heap) (locs : List Loc) (ls : Array Slot) (zv741 : Nat) (j737 : Int32) (j738 : Int32), 60 + 1 - j737.toInt ≤ ((n742 : Nat) : Int) → (zq_hm X (zk, zv741) I739 H) → (va_S (zq_A X) s.heap H locs) → (zq_fr (zf X zw_X12_years (fun _ => False)) I I739) → (0 ≤ j737.toInt ∧ j737.toInt ≤ 60) → (zWF X I739 h0) → (((zv741 : Nat) : Int) ≤ ((zk : Nat) : Int) + 4 * j737.toInt) → (lv_has ls 8 [(7, .int j737), (6, .int j633), (5, .int j738), (4, .int j635), (0, .ref h0), (1, .int p1), (2, .int p2), (3, .int p3)]) → W p l e R s m args below meth c H locs 0 0 Q (F0 m 74 ls []) := by
                  intro n742
                  induction n742 with
                  | zero => intro I739 H locs ls zv741 j737 j738 mu743 hM hS hR gj737 F740 hz9 hl; exfalso; have := zi_rng j737; omega
                  | succ n742 ih74 =>
                    intro I739 H locs ls zv741 j737 j738 mu743 hM hS hR gj737 F740 hz9 hl
                    refine lv_iload hx hb dX12_years_74 (lv_at hl 0 rfl) ?_
                    refine lv_iload_n hx hb dX12_years_76 rfl (lv_at hl 6 rfl) ?_
                    refine lv_icmp_ge (tgt := 105) hx hb dX12_years_77 (by decide) (fun b744 => ?_) (fun b744 => ?_)
                    · have b744 := zi_le b744 (rfl : p2.toInt = p2.toInt) (rfl : j737.toInt = j737.toInt)
                      refine lv_iload hx hb dX12_years_105 (lv_at hl 3 rfl) ?_
                      refine lv_aload_n hx hb dX12_years_107 rfl (lv_at hl 4 rfl) ?_
                      refine zq_getr E hM k_h0 (zFX12_39 E hZ) ⟨by decide, by decide, by decide, rfl⟩ dX12_years_108 ?_
                      have k745 : zq_k X (zq_r X h0 20) = 59 := zq_lk L.1 k_h0 rfl (by decide)
                      refine lv_bipush (v := 10) hx hb dX12_years_111 (by decide +kernel) ?_
                      refine zq_ian (n := 106) (j := 10) E hZ hM k745 ⟨by decide, rfl⟩ (by rw [zl_10]; decide) (by decide +kernel) dX12_years_113 (fun x746 ex746 gx746 => ?_)
                      clear gx746
                      refine lv_iadd hx hb dX12_years_114 ?_
                      refine lv_topi (fun x747 ex747 => ?_)
                      refine lv_istore (lv' := [(4, .int x747), (7, .int j737), (6, .int j633), (5, .int j738), (0, .ref h0), (1, .int p1), (2, .int p2), (3, .int p3)]) hx hb dX12_years_115 hl (by decide) rfl (fun ls hl => ?_)
                      refine lv_aload_n hx hb dX12_years_117 rfl (lv_at hl 4 rfl) ?_
                      refine zq_callv (zq_rV (As := []) (rest := []) E hZ hM k_h0 (c_X12_laysBack l X zk (zv741) I739 L h0 k_h0 (by omega)) zmX12_391 zM_X12_laysBack (hro (0) 2 (by first | decide | omega) (by decide)) ⟨by decide, by decide⟩ rfl hl.1 rfl rfl (Nat.le_of_ble_eq_true rfl) dX12_years_118) hS (fun I750 H locs h748 hM hS => ?_)
                      obtain ⟨fr751, p752⟩ := h748
                      have hR := zq_fr.call hR fr751 (zf_sub (by decide +kernel) (fun _ _ q => q.elim))
                      have hWF753 := zWF.fr F740 L k_h0 fr751 (by decide)
                      refine W.eq (g2 := F0 m 121 ls []) rfl ?_
                      obtain ⟨x754, ex754⟩ : ∃ y : Int32, y = j633 + 1 := ⟨_, rfl⟩
                      have tx754 := zi_add ex754 (rfl : j633.toInt = j633.toInt) zl_1 ⟨by omega, by omega⟩
                      refine lv_iinc (v := x754) (lv' := [(6, .int x754), (4, .int x747), (7, .int j737), (5, .int j738), (0, .ref h0), (1, .int p1), (2, .int p2), (3, .int p3)]) hx hb dX12_years_121 hl (k := 2) rfl (by rw [ex754]; rfl) (by decide) rfl (fun ls hl => ?_)
                      refine lv_goto (tgt := 65) hx hb dX12_years_124 (by decide) ?_
                      exact ih65 I750 H locs ls x754 j738 x747 (by omega) hM hS hR (⟨by omega, by omega⟩) hWF753 (lv_sub hl [0, 3, 1, 4, 5, 6, 7] rfl)
                    · have b744 := zi_nle b744 (rfl : p2.toInt = p2.toInt) (rfl : j737.toInt = j737.toInt)
                      refine lv_aload_n hx hb dX12_years_80 rfl (lv_at hl 4 rfl) ?_
                      refine lv_aload_n hx hb dX12_years_81 rfl (lv_at hl 4 rfl) ?_
                      refine lv_bipush (v := 101) hx hb dX12_years_82 (by decide +kernel) ?_
                      refine zq_pcalli (zq_rV (As := [.int (101 : Int32)]) (rest := [.ref h0]) E hZ hM k_h0 (c_X12_draw l X zk (zv741) I739 L h0 k_h0 (101 : Int32) (by rw [zl_101]; decide) (by have := zl_101; omega)) zmX12_456 zM_X12_draw (hro (0) 2 (by first | decide | omega) (by decide)) ⟨by decide, by decide⟩ rfl hl.1 rfl rfl (Nat.le_of_ble_eq_true rfl) dX12_years_84) hS (fun x756 H locs h755 hM hS => ?_)
                      clear h755
                      have := zl_101
                      refine zq_pn E hM hS k_h0 (zGX12_46 E hZ) ⟨by decide, by decide, by decide, rfl⟩ (zq_any _) dX12_years_87 (fun I757 H locs eI757 hM hS => ?_)
                      have hR := zq_fr.putE hR eI757 (zf_i k_h0 rfl rfl)
                      have hWF758 := zWF.put F740 L k_h0 eI757 k_h0 (by decide)
                      refine lv_iload hx hb dX12_years_90 (lv_at hl 2 rfl) ?_
                      refine lv_aload_n hx hb dX12_years_92 rfl (lv_at hl 4 rfl) ?_
                      refine zq_calli (zq_rV (As := []) (rest := [.int j738]) E hZ hM k_h0 (c_X12_passes l X zk (zv741) I757 L h0 k_h0 (by omega) (hWF758) (by omega)) zmX12_363 zM_X12_passes (hro (4) 3 (by first | decide | omega) (by decide)) ⟨by decide, by decide⟩ rfl hl.1 rfl rfl (Nat.le_of_ble_eq_true rfl) dX12_years_93) hS (fun x760 I761 H locs h759 hM hS => ?_)
                      have fr762 := h759
                      have hR := zq_fr.call hR fr762 (zf_sub (by decide +kernel) (fun _ _ q => q.elim))
                      have hWF763 := zWF.fr hWF758 L k_h0 fr762 (by decide)
                      refine lv_iadd hx hb dX12_years_96 ?_
                      refine lv_topi (fun x764 ex764 => ?_)
                      refine W.eq (g2 := F0 m 97 ls [.int x764]) rfl ?_
                      refine lv_istore (lv' := [(5, .int x764), (7, .int j737), (6, .int j633), (4, .int j635), (0, .ref h0), (1, .int p1), (2, .int p2), (3, .int p3)]) hx hb dX12_years_97 hl (by decide) rfl (fun ls hl => ?_)
                      obtain ⟨x765, ex765⟩ : ∃ y : Int32, y = j737 + 1 := ⟨_, rfl⟩
                      have tx765 := zi_add ex765 (rfl : j737.toInt = j737.toInt) zl_1 ⟨by omega, by omega⟩
                      refine lv_iinc (v := x765) (lv' := [(7, .int x765), (5, .int x764), (6, .int j633), (4, .int j635), (0, .ref h0), (1, .int p1), (2, .int p2), (3, .int p3)]) hx hb dX12_years_99 hl (k := 1) rfl (by rw [ex765]; rfl) (by decide) rfl (fun ls hl => ?_)
                      refine lv_goto (tgt := 74) hx hb dX12_years_102 (by decide) ?_
                      exact ih74 I761 H locs ls ((zv741 + 4)) x765 x764 (by omega) hM hS hR (⟨by omega, by omega⟩) hWF763 (by have := zl_0; omega) (lv_sub hl [0, 2, 1, 3, 4, 5, 6, 7] rfl)
                exact J74 (60 + 1 - (0 : Int32).toInt).toNat I636 H locs ls (zk) (0 : Int32) j634 (by omega) hM hS hR (by rw [zl_0]; decide) F637 (by have := zl_0; omega) (lv_sub hl [0, 1, 2, 3, 4, 5, 6, 7] rfl)
          exact J65 (10 + 1 - (0 : Int32).toInt).toNat I127 H locs ls (0 : Int32) (0 : Int32) (0 : Int32) (by omega) hM hS hR (by rw [zl_0]; decide) hWF130 (lv_sub hl [0, 1, 2, 3, 4, 5, 6] rfl)
        · have b122 := zi_eq b122 (rfl : x119.toInt = x119.toInt) (zl_0 : (0 : Int32).toInt = 0)
          refine lv_iconst (v := (-1)) hx hb dX12_years_41 (by decide +kernel) ?_
          subst hQ
          exact zq_iret E hr hZ hM hS hR hlocks dX12_years_42
set_option maxHeartbeats 8000000 in
set_option maxRecDepth 100000 in
theorem c_X12_power (l : Launch) (X : zq_X) (zk zn : Nat) (I : zq_M) (L : zq_L X)  (p1 : Int32) (p2 : Int32) (g_p1 : 1 ≤ p1.toInt ∧ p1.toInt ≤ 5) (g_p2 : (-10) ≤ p2.toInt ∧ p2.toInt ≤ 3) : Met l yX12_power (zt_w yX12_power cX12_power 4 (some .int)) (zq_rm (0)) (va_Pc [.int p1, .int p2] (zq_W X (zk, zn) I)) (va_Qi (fun (r : Int32) I2 => I2 = I ∧ (1 ≤ r.toInt ∧ r.toInt ≤ 125)) (zq_E X (zk, zn)) (zq_A X)) 0 0 (zq_A X) := by
  refine Met.ofW (cc := cX12_power) (maxL := 4) (ret := (some .int)) (by decide) rfl ?_
  intro p e s m args below meth c s₁ B hml hv
  obtain ⟨hargs, hM, hZ⟩ := hv
  have hown : s.vm.findClass RX12 = some m.cls := findClass_of_methodNamed B.named
  have hts := atoms_spec (ws := zt_w yX12_power cX12_power 4 (some .int)) B.pre
  have E : CallFix p m c cX12_power 4 s args (Cond.code yX12_power cX12_power 4 (some .int) :: zt) RX12 := ⟨B.exec, B.bytes, hml, hown, hts⟩
  have hx := B.exec
  have hb := B.bytes
  have hr := B.returns
  have hlocks := B.notSynchronized
  clear B
  have hS : va_S (zq_A X) s.heap s.heap [] := va_S.rf
  have hl := lv_entry ([.int p1, .int p2]) (n := 4) (by exact Nat.le_of_ble_eq_true rfl)
  have hg : entryFrame m args 4 = F0 m 0 ((lg_sl ([.int p1, .int p2]) ++ List.replicate (4 - (lg_sl ([.int p1, .int p2])).length) Slot.unset).toArray) [] := by rw [hargs]; exact lg_entry_eq m ([.int p1, .int p2]) 4
  rw [hg]
  clear hg hargs
  generalize (lg_sl ([.int p1, .int p2]) ++ List.replicate (4 - (lg_sl ([.int p1, .int p2])).length) Slot.unset).toArray = ls at hl ⊢
  have hl : lv_has ls 4 [(0, .int p1), (1, .int p2)] := by exact hl
  obtain ⟨R, hRm⟩ : ∃ R : Room, R = (headSpec (zt_w yX12_power cX12_power 4 (some .int)) (zq_rm (0))).room := ⟨_, rfl⟩
  rw [← hRm]
  generalize hQ : MQ below _ args s 0 0 (zq_A X) = Q
  obtain ⟨H, hH⟩ : ∃ H, H = s.heap := ⟨_, rfl⟩
  obtain ⟨locs, hlo⟩ : ∃ x : List Loc, x = [] := ⟨_, rfl⟩
  rw [show W p l e R s m args below meth c s.heap [] 0 0 Q = W p l e R s m args below meth c H locs 0 0 Q by rw [hH, hlo]]
  have hM : zq_hm X (zk, zn) I H := by rw [hH]; exact hM
  have hS : va_S (zq_A X) s.heap H locs := by rw [hH, hlo]; exact hS
  clear hH hlo
  refine lv_iconst (v := 1) hx hb dX12_power_0 (by decide +kernel) ?_
  refine lv_istore_n (lv' := [(2, .int (1 : Int32)), (0, .int p1), (1, .int p2)]) hx hb dX12_power_1 rfl hl (by decide) rfl (fun ls hl => ?_)
  refine lv_iconst (v := 0) hx hb dX12_power_2 (by decide +kernel) ?_
  refine lv_istore_n (lv' := [(3, .int (0 : Int32)), (2, .int (1 : Int32)), (0, .int p1), (1, .int p2)]) hx hb dX12_power_3 rfl hl (by decide) rfl (fun ls hl => ?_)
  have J4 : ∀ (n119 : Nat) (ls : Array Slot) (j117 : Int32) (j118 : Int32), 3 + 1 - j117.toInt ≤ ((n119 : Nat) : Int) → (0 ≤ j117.toInt ∧ j117.toInt ≤ 3) → (1 ≤ j118.toInt ∧ j118.toInt ≤ 125) → ((j117.toInt ≤ 0 → j118.toInt ≤ 1) ∧ (j117.toInt ≤ 1 → j118.toInt ≤ 5) ∧ (j117.toInt ≤ 2 → j118.toInt ≤ 25)) → (lv_has ls 4 [(3, .int j117), (2, .int j118), (0, .int p1), (1, .int p2)]) → W p l e R s m args below meth c H locs 0 0 Q (F0 m 4 ls []) := by
    intro n119
    induction n119 with
    | zero => intro ls j117 j118 mu120 gj117 gj118 hp9 hl; exfalso; have := zi_rng j117; omega
    | succ n119 ih4 =>
      intro ls j117 j118 mu120 gj117 gj118 hp9 hl
      refine lv_iload_n hx hb dX12_power_4 rfl (lv_at hl 0 rfl) ?_
      refine lv_iload_n hx hb dX12_power_5 rfl (lv_at hl 3 rfl) ?_
      refine lv_icmp_ge (tgt := 19) hx hb dX12_power_6 (by decide) (fun b121 => ?_) (fun b121 => ?_)
      · have b121 := zi_le b121 (rfl : p2.toInt = p2.toInt) (rfl : j117.toInt = j117.toInt)
        refine lv_iload_n hx hb dX12_power_19 rfl (lv_at hl 1 rfl) ?_
        subst hQ
        exact zq_iret E hr hZ hM hS ⟨rfl, (by omega)⟩ hlocks dX12_power_20
      · have b121 := zi_nle b121 (rfl : p2.toInt = p2.toInt) (rfl : j117.toInt = j117.toInt)
        refine lv_iload_n hx hb dX12_power_9 rfl (lv_at hl 1 rfl) ?_
        refine lv_iload_n hx hb dX12_power_10 rfl (lv_at hl 2 rfl) ?_
        refine lv_imul hx hb dX12_power_11 ?_
        refine lv_topi (fun x122 ex122 => ?_)
        have tx122 := zi_mulb ex122 1 25 1 5 ⟨by omega, by omega⟩ ⟨by omega, by omega⟩ (by decide)
        have tx122 : 1 ≤ x122.toInt ∧ x122.toInt ≤ 125 := ⟨tx122.2.1, tx122.2.2⟩
        have h5x122 : x122.toInt ≤ j118.toInt * 5 := by rw [(zi_mulb ex122 1 25 1 5 ⟨by omega, by omega⟩ ⟨by omega, by omega⟩ (by decide)).1]; exact Int.mul_le_mul_of_nonneg_left (by omega) (by omega)
        refine lv_istore_n (lv' := [(2, .int x122), (3, .int j117), (0, .int p1), (1, .int p2)]) hx hb dX12_power_12 rfl hl (by decide) rfl (fun ls hl => ?_)
        obtain ⟨x123, ex123⟩ : ∃ y : Int32, y = j117 + 1 := ⟨_, rfl⟩
        have tx123 := zi_add ex123 (rfl : j117.toInt = j117.toInt) zl_1 ⟨by omega, by omega⟩
        refine lv_iinc (v := x123) (lv' := [(3, .int x123), (2, .int x122), (0, .int p1), (1, .int p2)]) hx hb dX12_power_13 hl (k := 1) rfl (by rw [ex123]; rfl) (by decide) rfl (fun ls hl => ?_)
        refine lv_goto (tgt := 4) hx hb dX12_power_16 (by decide) ?_
        exact ih4 ls x123 x122 (by omega) (⟨by omega, by omega⟩) (⟨by omega, by omega⟩) (by have := zl_0; have := zl_1; omega) (lv_sub hl [0, 1, 2, 3] rfl)
  exact J4 (3 + 1 - (0 : Int32).toInt).toNat ls (0 : Int32) (1 : Int32) (by omega) (by rw [zl_0]; decide) (by rw [zl_1]; decide) (by have := zl_0; have := zl_1; omega) (lv_sub hl [0, 1, 2, 3] rfl)
set_option maxHeartbeats 8000000 in
set_option maxRecDepth 100000 in
theorem c_X12_townIn (l : Launch) (X : zq_X) (zk zn : Nat) (I : zq_M) (L : zq_L X)  (h0 : Nat) (k_h0 : zq_k X h0 = 10) (p1 : Int32) (p2 : Int32) (g_p1 : 0 ≤ p1.toInt ∧ p1.toInt ≤ 124) (g_p2 : 0 ≤ p2.toInt ∧ p2.toInt ≤ 2) (q_0 : zk ≤ 4400 ∧ zn ≤ 4400) : Met l yX12_townIn (zt_w yX12_townIn cX12_townIn 3 (some .int)) (zq_rm (1)) (va_Pc [.ref h0, .int p1, .int p2] (zq_W X (zk, zn) I)) (va_Qi (fun (r : Int32) I2 => I2 = I ∧ ((-1) ≤ r.toInt ∧ r.toInt ≤ 3)) (zq_E X (zk, zn)) (zq_A X)) 0 0 (zq_A X) := by
  refine Met.ofW (cc := cX12_townIn) (maxL := 3) (ret := (some .int)) (by decide) rfl ?_
  intro p e s m args below meth c s₁ B hml hv
  obtain ⟨hargs, hM, hZ⟩ := hv
  have hown : s.vm.findClass RX12 = some m.cls := findClass_of_methodNamed B.named
  have hts := atoms_spec (ws := zt_w yX12_townIn cX12_townIn 3 (some .int)) B.pre
  have E : CallFix p m c cX12_townIn 3 s args (Cond.code yX12_townIn cX12_townIn 3 (some .int) :: zt) RX12 := ⟨B.exec, B.bytes, hml, hown, hts⟩
  have hx := B.exec
  have hb := B.bytes
  have hr := B.returns
  have hlocks := B.notSynchronized
  clear B
  have hS : va_S (zq_A X) s.heap s.heap [] := va_S.rf
  have hl := lv_entry ([.ref h0, .int p1, .int p2]) (n := 3) (by exact Nat.le_of_ble_eq_true rfl)
  have hg : entryFrame m args 3 = F0 m 0 ((lg_sl ([.ref h0, .int p1, .int p2]) ++ List.replicate (3 - (lg_sl ([.ref h0, .int p1, .int p2])).length) Slot.unset).toArray) [] := by rw [hargs]; exact lg_entry_eq m ([.ref h0, .int p1, .int p2]) 3
  rw [hg]
  clear hg hargs
  generalize (lg_sl ([.ref h0, .int p1, .int p2]) ++ List.replicate (3 - (lg_sl ([.ref h0, .int p1, .int p2])).length) Slot.unset).toArray = ls at hl ⊢
  have hl : lv_has ls 3 [(0, .ref h0), (1, .int p1), (2, .int p2)] := by exact hl
  obtain ⟨R, hRm⟩ : ∃ R : Room, R = (headSpec (zt_w yX12_townIn cX12_townIn 3 (some .int)) (zq_rm (1))).room := ⟨_, rfl⟩
  rw [← hRm]
  have hro : ∀ d q : Nat, d + 1 ≤ 1 → q ≤ 45 → zq_rok d q R := fun d q h1 h2 => by rw [hRm]; exact zq_rokI h1 h2
  generalize hQ : MQ below _ args s 0 0 (zq_A X) = Q
  obtain ⟨H, hH⟩ : ∃ H, H = s.heap := ⟨_, rfl⟩
  obtain ⟨locs, hlo⟩ : ∃ x : List Loc, x = [] := ⟨_, rfl⟩
  rw [show W p l e R s m args below meth c s.heap [] 0 0 Q = W p l e R s m args below meth c H locs 0 0 Q by rw [hH, hlo]]
  have hM : zq_hm X (zk, zn) I H := by rw [hH]; exact hM
  have hS : va_S (zq_A X) s.heap H locs := by rw [hH, hlo]; exact hS
  clear hH hlo
  refine lv_iload_n hx hb dX12_townIn_0 rfl (lv_at hl 1 rfl) ?_
  refine lv_aload_n hx hb dX12_townIn_1 rfl (lv_at hl 0 rfl) ?_
  refine zq_getr E hM k_h0 (zFX12_39 E hZ) ⟨by decide, by decide, by decide, rfl⟩ dX12_townIn_2 ?_
  have k101 : zq_k X (zq_r X h0 20) = 59 := zq_lk L.1 k_h0 rfl (by decide)
  refine lv_iconst (v := 3) hx hb dX12_townIn_5 (by decide +kernel) ?_
  refine zq_ian (n := 106) (j := 3) E hZ hM k101 ⟨by decide, rfl⟩ (by rw [zl_3]; decide) (by decide +kernel) dX12_townIn_6 (fun x102 ex102 gx102 => ?_)
  replace gx102 : 0 ≤ x102.toInt ∧ x102.toInt ≤ 4 := gx102
  refine lv_iconst (v := 1) hx hb dX12_townIn_7 (by decide +kernel) ?_
  refine lv_iadd hx hb dX12_townIn_8 ?_
  refine lv_topi (fun x103 ex103 => ?_)
  have tx103 := zi_add ex103 (rfl : x102.toInt = x102.toInt) (zl_1 : (1 : Int32).toInt = 1) ⟨by omega, by omega⟩
  refine lv_aload_n hx hb dX12_townIn_9 rfl (lv_at hl 0 rfl) ?_
  refine zq_getr E hM k_h0 (zFX12_39 E hZ) ⟨by decide, by decide, by decide, rfl⟩ dX12_townIn_10 ?_
  have k104 : zq_k X (zq_r X h0 20) = 59 := zq_lk L.1 k_h0 rfl (by decide)
  refine W.eq (g2 := F0 m 13 ls [.ref (zq_r X h0 20), .int x103, .int p1]) rfl ?_
  refine lv_iconst (v := 2) hx hb dX12_townIn_13 (by decide +kernel) ?_
  refine zq_ian (n := 106) (j := 2) E hZ hM k104 ⟨by decide, rfl⟩ (by rw [zl_2]; decide) (by decide +kernel) dX12_townIn_14 (fun x105 ex105 gx105 => ?_)
  replace gx105 : 0 ≤ x105.toInt ∧ x105.toInt ≤ 3 := gx105
  refine lv_iconst (v := 1) hx hb dX12_townIn_15 (by decide +kernel) ?_
  refine lv_isub hx hb dX12_townIn_16 ?_
  refine lv_topi (fun x106 ex106 => ?_)
  have tx106 := zi_sub ex106 (rfl : x105.toInt = x105.toInt) (zl_1 : (1 : Int32).toInt = 1) ⟨by omega, by omega⟩
  refine lv_iload_n hx hb dX12_townIn_17 rfl (lv_at hl 2 rfl) ?_
  refine lv_isub hx hb dX12_townIn_18 ?_
  refine lv_topi (fun x107 ex107 => ?_)
  have tx107 := zi_sub ex107 (rfl : x106.toInt = x106.toInt) (rfl : p2.toInt = p2.toInt) ⟨by omega, by omega⟩
  refine zq_pcalli (zq_rS (As := [.int x103, .int x107]) (rest := [.int p1]) E hZ hM (c_X12_power l X zk (zn) I L x103 x107 ⟨by omega, by omega⟩ ⟨by omega, by omega⟩) zmX12_404 zM_X12_power (hro (0) 4 (by first | decide | omega) (by decide)) hl.1 rfl rfl (Nat.le_of_ble_eq_true rfl) dX12_townIn_19) hS (fun x109 H locs h108 hM hS => ?_)
  have p110 := h108
  refine lv_idiv hx hb dX12_townIn_22 (fun q => by have := zi_eq q rfl zl_0; omega) ?_
  refine lv_topi (fun x111 ex111 => ?_)
  have tx111 := zi_divn ex111 (rfl : p1.toInt = p1.toInt) (rfl : x109.toInt = x109.toInt) (by omega) (by omega)
  have tx111 := zi_divb tx111 (by omega) (by omega)
  refine lv_aload_n hx hb dX12_townIn_23 rfl (lv_at hl 0 rfl) ?_
  refine zq_getr E hM k_h0 (zFX12_39 E hZ) ⟨by decide, by decide, by decide, rfl⟩ dX12_townIn_24 ?_
  have k112 : zq_k X (zq_r X h0 20) = 59 := zq_lk L.1 k_h0 rfl (by decide)
  refine W.eq (g2 := F0 m 27 ls [.ref (zq_r X h0 20), .int x111]) rfl ?_
  refine lv_iconst (v := 3) hx hb dX12_townIn_27 (by decide +kernel) ?_
  refine zq_iald (n := 106) (j := 3) (v := x102) E hZ hM k112 ⟨by decide, rfl⟩ (by rw [zl_3]; decide) (by decide +kernel) ex102 dX12_townIn_28 ?_
  refine lv_iconst (v := 1) hx hb dX12_townIn_29 (by decide +kernel) ?_
  refine lv_iadd hx hb dX12_townIn_30 ?_
  refine lv_topi (fun x114 ex114 => ?_)
  have tx114 := zi_add ex114 (rfl : x102.toInt = x102.toInt) (zl_1 : (1 : Int32).toInt = 1) ⟨by omega, by omega⟩
  refine lv_irem hx hb dX12_townIn_31 (fun q => by have := zi_eq q rfl zl_0; omega) ?_
  refine lv_topi (fun x115 ex115 => ?_)
  have tx115 := zi_rem ex115 (rfl : x111.toInt = x111.toInt) (rfl : x114.toInt = x114.toInt) (by omega) (by omega)
  have tx115 := zi_remb tx115 (by omega)
  refine lv_iconst (v := 1) hx hb dX12_townIn_32 (by decide +kernel) ?_
  refine lv_isub hx hb dX12_townIn_33 ?_
  refine lv_topi (fun x116 ex116 => ?_)
  have tx116 := zi_sub ex116 (rfl : x115.toInt = x115.toInt) (zl_1 : (1 : Int32).toInt = 1) ⟨by omega, by omega⟩
  subst hQ
  exact zq_iret E hr hZ hM hS ⟨rfl, (by omega)⟩ hlocks dX12_townIn_34
