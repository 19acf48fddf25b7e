set_option maxHeartbeats 8000000 in
set_option maxRecDepth 100000 in
theorem c_X6_hasRoomFor (l : Launch) (X : zq_X) (zk zn : Nat) (I : zq_M) (L : zq_L X)  (h0 : Nat) (k_h0 : zq_k X h0 = 6) (p1 : Int32)  : Met l yX6_hasRoomFor (zt_w yX6_hasRoomFor cX6_hasRoomFor 2 (some .boolean)) (zq_rm (0)) (va_Pc [.ref h0, .int p1] (zq_W X (zk, zn) I)) (va_Qi (fun (r : Int32) I2 => I2 = I ∧ (0 ≤ r.toInt ∧ r.toInt ≤ 1)) (zq_E X (zk, zn)) (zq_A X)) 0 0 (zq_A X) := by
  refine Met.ofW (cc := cX6_hasRoomFor) (maxL := 2) (ret := (some .boolean)) (by decide) rfl ?_
  intro p e s m args below meth c s₁ B hml hv
  obtain ⟨hargs, hM, hZ⟩ := hv
  have hown : s.vm.findClass RX6 = some m.cls := findClass_of_methodNamed B.named
  have hts := atoms_spec (ws := zt_w yX6_hasRoomFor cX6_hasRoomFor 2 (some .boolean)) B.pre
  have E : CallFix p m c cX6_hasRoomFor 2 s args (Cond.code yX6_hasRoomFor cX6_hasRoomFor 2 (some .boolean) :: zt) RX6 := ⟨B.exec, B.bytes, hml, hown, hts⟩
  have hx := B.exec
  have hb := B.bytes
  have hr := B.returns
  have hlocks := B.notSynchronized
  clear B
  have hS : va_S (zq_A X) s.heap s.heap [] := va_S.rf
  have hl := lv_entry ([.ref h0, .int p1]) (n := 2) (by exact Nat.le_of_ble_eq_true rfl)
  have hg : entryFrame m args 2 = F0 m 0 ((lg_sl ([.ref h0, .int p1]) ++ List.replicate (2 - (lg_sl ([.ref h0, .int p1])).length) Slot.unset).toArray) [] := by rw [hargs]; exact lg_entry_eq m ([.ref h0, .int p1]) 2
  rw [hg]
  clear hg hargs
  generalize (lg_sl ([.ref h0, .int p1]) ++ List.replicate (2 - (lg_sl ([.ref h0, .int p1])).length) Slot.unset).toArray = ls at hl ⊢
  have hl : lv_has ls 2 [(0, .ref h0), (1, .int p1)] := by exact hl
  obtain ⟨R, hRm⟩ : ∃ R : Room, R = (headSpec (zt_w yX6_hasRoomFor cX6_hasRoomFor 2 (some .boolean)) (zq_rm (0))).room := ⟨_, rfl⟩
  rw [← hRm]
  generalize hQ : MQ below _ args s 0 0 (zq_A X) = Q
  obtain ⟨H, hH⟩ : ∃ H, H = s.heap := ⟨_, rfl⟩
  obtain ⟨locs, hlo⟩ : ∃ x : List Loc, x = [] := ⟨_, rfl⟩
  rw [show W p l e R s m args below meth c s.heap [] 0 0 Q = W p l e R s m args below meth c H locs 0 0 Q by rw [hH, hlo]]
  have hM : zq_hm X (zk, zn) I H := by rw [hH]; exact hM
  have hS : va_S (zq_A X) s.heap H locs := by rw [hH, hlo]; exact hS
  clear hH hlo
  refine lv_aload_n hx hb dX6_hasRoomFor_0 rfl (lv_at hl 0 rfl) ?_
  refine zq_gn E hM k_h0 (zFX6_42 E hZ) (Or.inl ⟨by decide, by decide, by decide, rfl⟩) dX6_hasRoomFor_1 (fun x101 ex101 gx101 => ?_)
  replace gx101 : 0 ≤ x101.toInt ∧ x101.toInt ≤ 400 := gx101
  refine lv_iload_n hx hb dX6_hasRoomFor_4 rfl (lv_at hl 1 rfl) ?_
  refine lv_iadd hx hb dX6_hasRoomFor_5 ?_
  refine lv_topi (fun x102 ex102 => ?_)
  refine lv_sipush (v := 400) hx hb dX6_hasRoomFor_6 (by decide +kernel) ?_
  refine lv_icmp_gt (tgt := 16) hx hb dX6_hasRoomFor_9 (by decide) (fun b103 => ?_) (fun b103 => ?_)
  · have b103 := zi_lt b103 (zl_400 : (400 : Int32).toInt = 400) (rfl : x102.toInt = x102.toInt)
    refine lv_iconst (v := 0) hx hb dX6_hasRoomFor_16 (by decide +kernel) ?_
    subst hQ
    exact zq_zret E hr hZ hM hS (show 0 ≤ (0 : Int32).toInt ∧ (0 : Int32).toInt ≤ 1 by decide +kernel) ⟨rfl, (by have := zl_0; omega)⟩ hlocks dX6_hasRoomFor_17
  · have b103 := zi_nlt b103 (zl_400 : (400 : Int32).toInt = 400) (rfl : x102.toInt = x102.toInt)
    refine lv_iconst (v := 1) hx hb dX6_hasRoomFor_12 (by decide +kernel) ?_
    refine lv_goto (tgt := 17) hx hb dX6_hasRoomFor_13 (by decide) ?_
    subst hQ
    exact zq_zret E hr hZ hM hS (show 0 ≤ (1 : Int32).toInt ∧ (1 : Int32).toInt ≤ 1 by decide +kernel) ⟨rfl, (by have := zl_1; omega)⟩ hlocks dX6_hasRoomFor_17
def zw_X6_add : List (Nat × Nat) := [(6, 1), (20, 999)]
set_option maxHeartbeats 8000000 in
set_option maxRecDepth 100000 in
theorem c_X6_add (l : Launch) (X : zq_X) (zk zn : Nat) (I : zq_M) (L : zq_L X)  (h0 : Nat) (k_h0 : zq_k X h0 = 6) (p1 : Int32)  : Met l yX6_add (zt_w yX6_add cX6_add 3 none) (zq_rm (0)) (va_Pc [.ref h0, .int p1] (zq_W X (zk, zn) I)) (va_Qv (fun I2 => zq_fr (zf X zw_X6_add (fun _ => False)) I I2) (zq_E X (zk, zn)) (zq_A X)) 0 0 (zq_A X) := by
  refine Met.ofW (cc := cX6_add) (maxL := 3) (ret := none) (by decide) rfl ?_
  intro p e s m args below meth c s₁ B hml hv
  obtain ⟨hargs, hM, hZ⟩ := hv
  have hown : s.vm.findClass RX6 = some m.cls := findClass_of_methodNamed B.named
  have hts := atoms_spec (ws := zt_w yX6_add cX6_add 3 none) B.pre
  have E : CallFix p m c cX6_add 3 s args (Cond.code yX6_add cX6_add 3 none :: zt) RX6 := ⟨B.exec, B.bytes, hml, hown, hts⟩
  have hx := B.exec
  have hb := B.bytes
  have hr := B.returns
  have hlocks := B.notSynchronized
  clear B
  have hS : va_S (zq_A X) s.heap s.heap [] := va_S.rf
  have hR : zq_fr (zf X zw_X6_add (fun _ => False)) I I := zq_fr.rf
  have hl := lv_entry ([.ref h0, .int p1]) (n := 3) (by exact Nat.le_of_ble_eq_true rfl)
  have hg : entryFrame m args 3 = F0 m 0 ((lg_sl ([.ref h0, .int p1]) ++ List.replicate (3 - (lg_sl ([.ref h0, .int p1])).length) Slot.unset).toArray) [] := by rw [hargs]; exact lg_entry_eq m ([.ref h0, .int p1]) 3
  rw [hg]
  clear hg hargs
  generalize (lg_sl ([.ref h0, .int p1]) ++ List.replicate (3 - (lg_sl ([.ref h0, .int p1])).length) Slot.unset).toArray = ls at hl ⊢
  have hl : lv_has ls 3 [(0, .ref h0), (1, .int p1)] := by exact hl
  obtain ⟨R, hRm⟩ : ∃ R : Room, R = (headSpec (zt_w yX6_add cX6_add 3 none) (zq_rm (0))).room := ⟨_, rfl⟩
  rw [← hRm]
  generalize hQ : MQ below _ args s 0 0 (zq_A X) = Q
  obtain ⟨H, hH⟩ : ∃ H, H = s.heap := ⟨_, rfl⟩
  obtain ⟨locs, hlo⟩ : ∃ x : List Loc, x = [] := ⟨_, rfl⟩
  rw [show W p l e R s m args below meth c s.heap [] 0 0 Q = W p l e R s m args below meth c H locs 0 0 Q by rw [hH, hlo]]
  have hM : zq_hm X (zk, zn) I H := by rw [hH]; exact hM
  have hS : va_S (zq_A X) s.heap H locs := by rw [hH, hlo]; exact hS
  clear hH hlo
  refine lv_bipush (v := 24) hx hb dX6_add_0 (by decide +kernel) ?_
  refine lv_istore_n (lv' := [(2, .int (24 : Int32)), (0, .ref h0), (1, .int p1)]) hx hb dX6_add_2 rfl hl (by decide) rfl (fun ls hl => ?_)
  have J3 : ∀ (n147 : Nat) (I146 : zq_M) (H : Heap) (locs : List Loc) (ls : Array Slot) (j145 : Int32), j145.toInt + 1 - (-8) ≤ ((n147 : Nat) : Int) → (zq_hm X (zk, zn) I146 H) → (va_S (zq_A X) s.heap H locs) → (zq_fr (zf X zw_X6_add (fun _ => False)) I I146) → ((-8) ≤ j145.toInt ∧ j145.toInt ≤ 24) → (lv_has ls 3 [(2, .int j145), (0, .ref h0), (1, .int p1)]) → W p l e R s m args below meth c H locs 0 0 Q (F0 m 3 ls []) := by
    intro n147
    induction n147 with
    | zero => intro I146 H locs ls j145 mu148 hM hS hR gj145 hl; exfalso; have := zi_rng j145; omega
    | succ n147 ih3 =>
      intro I146 H locs ls j145 mu148 hM hS hR gj145 hl
      refine lv_iload_n hx hb dX6_add_3 rfl (lv_at hl 0 rfl) ?_
      refine lv_if_lt (tgt := 46) hx hb dX6_add_4 (by decide) (fun b149 => ?_) (fun b149 => ?_)
      · have b149 := zi_lt b149 (rfl : j145.toInt = j145.toInt) (zl_0 : (0 : Int32).toInt = 0)
        subst hQ
        exact zq_vret E hr hZ hM hS hR hlocks dX6_add_46
      · have b149 := zi_nlt b149 (rfl : j145.toInt = j145.toInt) (zl_0 : (0 : Int32).toInt = 0)
        refine lv_aload_n hx hb dX6_add_7 rfl (lv_at hl 1 rfl) ?_
        refine zq_gn E hM k_h0 (zFX6_42 E hZ) (Or.inl ⟨by decide, by decide, by decide, rfl⟩) dX6_add_8 (fun x150 ex150 gx150 => ?_)
        replace gx150 : 0 ≤ x150.toInt ∧ x150.toInt ≤ 400 := gx150
        refine lv_sipush (v := 400) hx hb dX6_add_11 (by decide +kernel) ?_
        refine lv_icmp_ge (tgt := 46) hx hb dX6_add_14 (by decide) (fun b151 => ?_) (fun b151 => ?_)
        · have b151 := zi_le b151 (zl_400 : (400 : Int32).toInt = 400) (rfl : x150.toInt = x150.toInt)
          subst hQ
          exact zq_vret E hr hZ hM hS hR hlocks dX6_add_46
        · have b151 := zi_nle b151 (zl_400 : (400 : Int32).toInt = 400) (rfl : x150.toInt = x150.toInt)
          refine lv_aload_n hx hb dX6_add_17 rfl (lv_at hl 1 rfl) ?_
          refine zq_getr E hM k_h0 (zFX6_11 E hZ) ⟨by decide, by decide, by decide, rfl⟩ dX6_add_18 ?_
          have k152 : zq_k X (zq_r X h0 0) = 20 := zq_lk L.1 k_h0 rfl (by decide)
          refine lv_aload_n hx hb dX6_add_21 rfl (lv_at hl 1 rfl) ?_
          refine zq_gk (v := x150) E hM k_h0 (zFX6_42 E hZ) (Or.inl ⟨by decide, by decide, by decide, rfl⟩) ex150 dX6_add_22 ?_
          refine lv_iload_n hx hb dX6_add_25 rfl (lv_at hl 2 rfl) ?_
          refine lv_iload_n hx hb dX6_add_26 rfl (lv_at hl 0 rfl) ?_
          refine lv_ishr hx hb dX6_add_27 ?_
          refine lv_topi (fun x153 ex153 => ?_)
          refine lv_i2b hx hb dX6_add_28 rfl ?_
          refine lv_topi (fun x154 ex154 => ?_)
          refine zq_bsn (n := 400) (j := (x150.toNatClampNeg)) E hZ hM hS k152 ⟨by decide, rfl⟩ ⟨by omega, by omega⟩ rfl (fun _ => rfl) dX6_add_29 (fun x156 I155 H locs eI155 hM hS => ?_)
          have hR := zq_fr.putE hR eI155 (zf_ia k152 (by decide) rfl)
          refine W.eq (g2 := F0 m 30 ls []) rfl ?_
          refine lv_aload_n hx hb dX6_add_30 rfl (lv_at hl 1 rfl) ?_
          refine lv_dup hx hb dX6_add_31 rfl ?_
          refine zq_gk (v := x150) E hM k_h0 (zFX6_42 E hZ) (Or.inl ⟨by decide, by decide, by decide, rfl⟩) (zq_kp eI155 (Or.inl (zq_kne k_h0 k152 (by decide))) ex150) dX6_add_32 ?_
          refine lv_iconst (v := 1) hx hb dX6_add_35 (by decide +kernel) ?_
          refine lv_iadd hx hb dX6_add_36 ?_
          refine lv_topi (fun x157 ex157 => ?_)
          have tx157 := zi_add ex157 (rfl : x150.toInt = x150.toInt) (zl_1 : (1 : Int32).toInt = 1) ⟨by omega, by omega⟩
          refine zq_pn E hM hS k_h0 (zGX6_42 E hZ) ⟨by decide, by decide, by decide, rfl⟩ (show 0 ≤ x157.toInt ∧ x157.toInt ≤ 400 from ⟨by omega, by omega⟩) dX6_add_37 (fun I158 H locs eI158 hM hS => ?_)
          have hR := zq_fr.putE hR eI158 (zf_i k_h0 rfl rfl)
          obtain ⟨x159, ex159⟩ : ∃ y : Int32, y = j145 + (-8) := ⟨_, rfl⟩
          have tx159 := zi_add ex159 (rfl : j145.toInt = j145.toInt) zl_m8 ⟨by omega, by omega⟩
          refine lv_iinc (v := x159) (lv' := [(2, .int x159), (0, .ref h0), (1, .int p1)]) hx hb dX6_add_40 hl (k := 0) rfl (by rw [ex159]; rfl) (by decide) rfl (fun ls hl => ?_)
          refine lv_goto (tgt := 3) hx hb dX6_add_43 (by decide) ?_
          exact ih3 I158 H locs ls x159 (by omega) hM hS hR (⟨by omega, by omega⟩) (lv_sub hl [0, 1, 2] rfl)
  exact J3 ((24 : Int32).toInt + 1 - (-8)).toNat I H locs ls (24 : Int32) (by omega) hM hS hR (by rw [zl_24]; decide) (lv_sub hl [0, 1, 2] rfl)
set_option maxHeartbeats 8000000 in
set_option maxRecDepth 100000 in
theorem c_X6_isDigit (l : Launch) (X : zq_X) (zk zn : Nat) (I : zq_M) (L : zq_L X)  (p1 : Int32)  : Met l yX6_isDigit (zt_w yX6_isDigit cX6_isDigit 1 (some .boolean)) (zq_rm (0)) (va_Pc [.int p1] (zq_W X (zk, zn) I)) (va_Qi (fun (r : Int32) I2 => I2 = I ∧ (0 ≤ r.toInt ∧ r.toInt ≤ 1)) (zq_E X (zk, zn)) (zq_A X)) 0 0 (zq_A X) := by
  refine Met.ofW (cc := cX6_isDigit) (maxL := 1) (ret := (some .boolean)) (by decide) rfl ?_
  intro p e s m args below meth c s₁ B hml hv
  obtain ⟨hargs, hM, hZ⟩ := hv
  have hown : s.vm.findClass RX6 = some m.cls := findClass_of_methodNamed B.named
  have hts := atoms_spec (ws := zt_w yX6_isDigit cX6_isDigit 1 (some .boolean)) B.pre
  have E : CallFix p m c cX6_isDigit 1 s args (Cond.code yX6_isDigit cX6_isDigit 1 (some .boolean) :: zt) RX6 := ⟨B.exec, B.bytes, hml, hown, hts⟩
  have hx := B.exec
  have hb := B.bytes
  have hr := B.returns
  have hlocks := B.notSynchronized
  clear B
  have hS : va_S (zq_A X) s.heap s.heap [] := va_S.rf
  have hl := lv_entry ([.int p1]) (n := 1) (by exact Nat.le_of_ble_eq_true rfl)
  have hg : entryFrame m args 1 = F0 m 0 ((lg_sl ([.int p1]) ++ List.replicate (1 - (lg_sl ([.int p1])).length) Slot.unset).toArray) [] := by rw [hargs]; exact lg_entry_eq m ([.int p1]) 1
  rw [hg]
  clear hg hargs
  generalize (lg_sl ([.int p1]) ++ List.replicate (1 - (lg_sl ([.int p1])).length) Slot.unset).toArray = ls at hl ⊢
  have hl : lv_has ls 1 [(0, .int p1)] := by exact hl
  obtain ⟨R, hRm⟩ : ∃ R : Room, R = (headSpec (zt_w yX6_isDigit cX6_isDigit 1 (some .boolean)) (zq_rm (0))).room := ⟨_, rfl⟩
  rw [← hRm]
  generalize hQ : MQ below _ args s 0 0 (zq_A X) = Q
  obtain ⟨H, hH⟩ : ∃ H, H = s.heap := ⟨_, rfl⟩
  obtain ⟨locs, hlo⟩ : ∃ x : List Loc, x = [] := ⟨_, rfl⟩
  rw [show W p l e R s m args below meth c s.heap [] 0 0 Q = W p l e R s m args below meth c H locs 0 0 Q by rw [hH, hlo]]
  have hM : zq_hm X (zk, zn) I H := by rw [hH]; exact hM
  have hS : va_S (zq_A X) s.heap H locs := by rw [hH, hlo]; exact hS
  clear hH hlo
  refine lv_iload_n hx hb dX6_isDigit_0 rfl (lv_at hl 0 rfl) ?_
  refine lv_bipush (v := 48) hx hb dX6_isDigit_1 (by decide +kernel) ?_
  refine lv_icmp_lt (tgt := 16) hx hb dX6_isDigit_3 (by decide) (fun b101 => ?_) (fun b101 => ?_)
  · have b101 := zi_lt b101 (rfl : p1.toInt = p1.toInt) (zl_48 : (48 : Int32).toInt = 48)
    refine lv_iconst (v := 0) hx hb dX6_isDigit_16 (by decide +kernel) ?_
    subst hQ
    exact zq_zret E hr hZ hM hS (show 0 ≤ (0 : Int32).toInt ∧ (0 : Int32).toInt ≤ 1 by decide +kernel) ⟨rfl, (by have := zl_0; omega)⟩ hlocks dX6_isDigit_17
  · have b101 := zi_nlt b101 (rfl : p1.toInt = p1.toInt) (zl_48 : (48 : Int32).toInt = 48)
    refine lv_iload_n hx hb dX6_isDigit_6 rfl (lv_at hl 0 rfl) ?_
    refine lv_bipush (v := 57) hx hb dX6_isDigit_7 (by decide +kernel) ?_
    refine lv_icmp_gt (tgt := 16) hx hb dX6_isDigit_9 (by decide) (fun b102 => ?_) (fun b102 => ?_)
    · have b102 := zi_lt b102 (zl_57 : (57 : Int32).toInt = 57) (rfl : p1.toInt = p1.toInt)
      refine lv_iconst (v := 0) hx hb dX6_isDigit_16 (by decide +kernel) ?_
      subst hQ
      exact zq_zret E hr hZ hM hS (show 0 ≤ (0 : Int32).toInt ∧ (0 : Int32).toInt ≤ 1 by decide +kernel) ⟨rfl, (by have := zl_0; omega)⟩ hlocks dX6_isDigit_17
    · have b102 := zi_nlt b102 (zl_57 : (57 : Int32).toInt = 57) (rfl : p1.toInt = p1.toInt)
      refine lv_iconst (v := 1) hx hb dX6_isDigit_12 (by decide +kernel) ?_
      refine lv_goto (tgt := 17) hx hb dX6_isDigit_13 (by decide) ?_
      subst hQ
      exact zq_zret E hr hZ hM hS (show 0 ≤ (1 : Int32).toInt ∧ (1 : Int32).toInt ≤ 1 by decide +kernel) ⟨rfl, (by have := zl_1; omega)⟩ hlocks dX6_isDigit_17
set_option maxHeartbeats 8000000 in
set_option maxRecDepth 100000 in
theorem c_X6_isLetter (l : Launch) (X : zq_X) (zk zn : Nat) (I : zq_M) (L : zq_L X)  (p1 : Int32)  : Met l yX6_isLetter (zt_w yX6_isLetter cX6_isLetter 1 (some .boolean)) (zq_rm (0)) (va_Pc [.int p1] (zq_W X (zk, zn) I)) (va_Qi (fun (r : Int32) I2 => I2 = I ∧ (0 ≤ r.toInt ∧ r.toInt ≤ 1)) (zq_E X (zk, zn)) (zq_A X)) 0 0 (zq_A X) := by
  refine Met.ofW (cc := cX6_isLetter) (maxL := 1) (ret := (some .boolean)) (by decide) rfl ?_
  intro p e s m args below meth c s₁ B hml hv
  obtain ⟨hargs, hM, hZ⟩ := hv
  have hown : s.vm.findClass RX6 = some m.cls := findClass_of_methodNamed B.named
  have hts := atoms_spec (ws := zt_w yX6_isLetter cX6_isLetter 1 (some .boolean)) B.pre
  have E : CallFix p m c cX6_isLetter 1 s args (Cond.code yX6_isLetter cX6_isLetter 1 (some .boolean) :: zt) RX6 := ⟨B.exec, B.bytes, hml, hown, hts⟩
  have hx := B.exec
  have hb := B.bytes
  have hr := B.returns
  have hlocks := B.notSynchronized
  clear B
  have hS : va_S (zq_A X) s.heap s.heap [] := va_S.rf
  have hl := lv_entry ([.int p1]) (n := 1) (by exact Nat.le_of_ble_eq_true rfl)
  have hg : entryFrame m args 1 = F0 m 0 ((lg_sl ([.int p1]) ++ List.replicate (1 - (lg_sl ([.int p1])).length) Slot.unset).toArray) [] := by rw [hargs]; exact lg_entry_eq m ([.int p1]) 1
  rw [hg]
  clear hg hargs
  generalize (lg_sl ([.int p1]) ++ List.replicate (1 - (lg_sl ([.int p1])).length) Slot.unset).toArray = ls at hl ⊢
  have hl : lv_has ls 1 [(0, .int p1)] := by exact hl
  obtain ⟨R, hRm⟩ : ∃ R : Room, R = (headSpec (zt_w yX6_isLetter cX6_isLetter 1 (some .boolean)) (zq_rm (0))).room := ⟨_, rfl⟩
  rw [← hRm]
  generalize hQ : MQ below _ args s 0 0 (zq_A X) = Q
  obtain ⟨H, hH⟩ : ∃ H, H = s.heap := ⟨_, rfl⟩
  obtain ⟨locs, hlo⟩ : ∃ x : List Loc, x = [] := ⟨_, rfl⟩
  rw [show W p l e R s m args below meth c s.heap [] 0 0 Q = W p l e R s m args below meth c H locs 0 0 Q by rw [hH, hlo]]
  have hM : zq_hm X (zk, zn) I H := by rw [hH]; exact hM
  have hS : va_S (zq_A X) s.heap H locs := by rw [hH, hlo]; exact hS
  clear hH hlo
  refine lv_iload_n hx hb dX6_isLetter_0 rfl (lv_at hl 0 rfl) ?_
  refine lv_bipush (v := 97) hx hb dX6_isLetter_1 (by decide +kernel) ?_
  refine lv_icmp_lt (tgt := 16) hx hb dX6_isLetter_3 (by decide) (fun b101 => ?_) (fun b101 => ?_)
  · have b101 := zi_lt b101 (rfl : p1.toInt = p1.toInt) (zl_97 : (97 : Int32).toInt = 97)
    refine lv_iconst (v := 0) hx hb dX6_isLetter_16 (by decide +kernel) ?_
    subst hQ
    exact zq_zret E hr hZ hM hS (show 0 ≤ (0 : Int32).toInt ∧ (0 : Int32).toInt ≤ 1 by decide +kernel) ⟨rfl, (by have := zl_0; omega)⟩ hlocks dX6_isLetter_17
  · have b101 := zi_nlt b101 (rfl : p1.toInt = p1.toInt) (zl_97 : (97 : Int32).toInt = 97)
    refine lv_iload_n hx hb dX6_isLetter_6 rfl (lv_at hl 0 rfl) ?_
    refine lv_bipush (v := 122) hx hb dX6_isLetter_7 (by decide +kernel) ?_
    refine lv_icmp_gt (tgt := 16) hx hb dX6_isLetter_9 (by decide) (fun b102 => ?_) (fun b102 => ?_)
    · have b102 := zi_lt b102 (zl_122 : (122 : Int32).toInt = 122) (rfl : p1.toInt = p1.toInt)
      refine lv_iconst (v := 0) hx hb dX6_isLetter_16 (by decide +kernel) ?_
      subst hQ
      exact zq_zret E hr hZ hM hS (show 0 ≤ (0 : Int32).toInt ∧ (0 : Int32).toInt ≤ 1 by decide +kernel) ⟨rfl, (by have := zl_0; omega)⟩ hlocks dX6_isLetter_17
    · have b102 := zi_nlt b102 (zl_122 : (122 : Int32).toInt = 122) (rfl : p1.toInt = p1.toInt)
      refine lv_iconst (v := 1) hx hb dX6_isLetter_12 (by decide +kernel) ?_
      refine lv_goto (tgt := 17) hx hb dX6_isLetter_13 (by decide) ?_
      subst hQ
      exact zq_zret E hr hZ hM hS (show 0 ≤ (1 : Int32).toInt ∧ (1 : Int32).toInt ≤ 1 by decide +kernel) ⟨rfl, (by have := zl_1; omega)⟩ hlocks dX6_isLetter_17
set_option maxHeartbeats 8000000 in
set_option maxRecDepth 100000 in
theorem c_X6_byteAt (l : Launch) (X : zq_X) (zk zn : Nat) (I : zq_M) (L : zq_L X)  (h0 : Nat) (k_h0 : zq_k X h0 = 6) (p1 : Int32)  : Met l yX6_byteAt (zt_w yX6_byteAt cX6_byteAt 2 (some .int)) (zq_rm (0)) (va_Pc [.ref h0, .int p1] (zq_W X (zk, zn) I)) (va_Qi (fun (r : Int32) I2 => I2 = I ∧ ((-1) ≤ r.toInt ∧ r.toInt ≤ 255)) (zq_E X (zk, zn)) (zq_A X)) 0 0 (zq_A X) := by
  refine Met.ofW (cc := cX6_byteAt) (maxL := 2) (ret := (some .int)) (by decide) rfl ?_
  intro p e s m args below meth c s₁ B hml hv
  obtain ⟨hargs, hM, hZ⟩ := hv
  have hown : s.vm.findClass RX6 = some m.cls := findClass_of_methodNamed B.named
  have hts := atoms_spec (ws := zt_w yX6_byteAt cX6_byteAt 2 (some .int)) B.pre
  have E : CallFix p m c cX6_byteAt 2 s args (Cond.code yX6_byteAt cX6_byteAt 2 (some .int) :: zt) RX6 := ⟨B.exec, B.bytes, hml, hown, hts⟩
  have hx := B.exec
  have hb := B.bytes
  have hr := B.returns
  have hlocks := B.notSynchronized
  clear B
  have hS : va_S (zq_A X) s.heap s.heap [] := va_S.rf
  have hl := lv_entry ([.ref h0, .int p1]) (n := 2) (by exact Nat.le_of_ble_eq_true rfl)
  have hg : entryFrame m args 2 = F0 m 0 ((lg_sl ([.ref h0, .int p1]) ++ List.replicate (2 - (lg_sl ([.ref h0, .int p1])).length) Slot.unset).toArray) [] := by rw [hargs]; exact lg_entry_eq m ([.ref h0, .int p1]) 2
  rw [hg]
  clear hg hargs
  generalize (lg_sl ([.ref h0, .int p1]) ++ List.replicate (2 - (lg_sl ([.ref h0, .int p1])).length) Slot.unset).toArray = ls at hl ⊢
  have hl : lv_has ls 2 [(0, .ref h0), (1, .int p1)] := by exact hl
  obtain ⟨R, hRm⟩ : ∃ R : Room, R = (headSpec (zt_w yX6_byteAt cX6_byteAt 2 (some .int)) (zq_rm (0))).room := ⟨_, rfl⟩
  rw [← hRm]
  generalize hQ : MQ below _ args s 0 0 (zq_A X) = Q
  obtain ⟨H, hH⟩ : ∃ H, H = s.heap := ⟨_, rfl⟩
  obtain ⟨locs, hlo⟩ : ∃ x : List Loc, x = [] := ⟨_, rfl⟩
  rw [show W p l e R s m args below meth c s.heap [] 0 0 Q = W p l e R s m args below meth c H locs 0 0 Q by rw [hH, hlo]]
  have hM : zq_hm X (zk, zn) I H := by rw [hH]; exact hM
  have hS : va_S (zq_A X) s.heap H locs := by rw [hH, hlo]; exact hS
  clear hH hlo
  refine lv_iload_n hx hb dX6_byteAt_0 rfl (lv_at hl 1 rfl) ?_
  refine lv_if_lt (tgt := 32) hx hb dX6_byteAt_1 (by decide) (fun b101 => ?_) (fun b101 => ?_)
  · have b101 := zi_lt b101 (rfl : p1.toInt = p1.toInt) (zl_0 : (0 : Int32).toInt = 0)
    refine lv_iconst (v := (-1)) hx hb dX6_byteAt_32 (by decide +kernel) ?_
    subst hQ
    exact zq_iret E hr hZ hM hS ⟨rfl, (by have := zl_m1; omega)⟩ hlocks dX6_byteAt_33
  · have b101 := zi_nlt b101 (rfl : p1.toInt = p1.toInt) (zl_0 : (0 : Int32).toInt = 0)
    refine lv_iload_n hx hb dX6_byteAt_4 rfl (lv_at hl 1 rfl) ?_
    refine lv_aload_n hx hb dX6_byteAt_5 rfl (lv_at hl 0 rfl) ?_
    refine zq_gn E hM k_h0 (zFX6_42 E hZ) (Or.inl ⟨by decide, by decide, by decide, rfl⟩) dX6_byteAt_6 (fun x102 ex102 gx102 => ?_)
    replace gx102 : 0 ≤ x102.toInt ∧ x102.toInt ≤ 400 := gx102
    refine lv_icmp_ge (tgt := 32) hx hb dX6_byteAt_9 (by decide) (fun b103 => ?_) (fun b103 => ?_)
    · have b103 := zi_le b103 (rfl : x102.toInt = x102.toInt) (rfl : p1.toInt = p1.toInt)
      refine lv_iconst (v := (-1)) hx hb dX6_byteAt_32 (by decide +kernel) ?_
      subst hQ
      exact zq_iret E hr hZ hM hS ⟨rfl, (by have := zl_m1; omega)⟩ hlocks dX6_byteAt_33
    · have b103 := zi_nle b103 (rfl : x102.toInt = x102.toInt) (rfl : p1.toInt = p1.toInt)
      refine lv_iload_n hx hb dX6_byteAt_12 rfl (lv_at hl 1 rfl) ?_
      refine lv_sipush (v := 400) hx hb dX6_byteAt_13 (by decide +kernel) ?_
      refine lv_icmp_ge (tgt := 32) hx hb dX6_byteAt_16 (by decide) (fun b104 => ?_) (fun b104 => ?_)
      · have b104 := zi_le b104 (zl_400 : (400 : Int32).toInt = 400) (rfl : p1.toInt = p1.toInt)
        exfalso; omega
      · have b104 := zi_nle b104 (zl_400 : (400 : Int32).toInt = 400) (rfl : p1.toInt = p1.toInt)
        refine lv_aload_n hx hb dX6_byteAt_19 rfl (lv_at hl 0 rfl) ?_
        refine zq_getr E hM k_h0 (zFX6_11 E hZ) ⟨by decide, by decide, by decide, rfl⟩ dX6_byteAt_20 ?_
        have k105 : zq_k X (zq_r X h0 0) = 20 := zq_lk L.1 k_h0 rfl (by decide)
        refine lv_iload_n hx hb dX6_byteAt_23 rfl (lv_at hl 1 rfl) ?_
        refine zq_ban (n := 400) (j := (p1.toNatClampNeg)) E hZ hM k105 ⟨by decide, rfl⟩ ⟨by omega, by omega⟩ rfl dX6_byteAt_24 (fun x106 ex106 gx106 => ?_)
        clear gx106
        refine lv_sipush (v := 255) hx hb dX6_byteAt_25 (by decide +kernel) ?_
        refine lv_iand hx hb dX6_byteAt_28 ?_
        refine lv_topi (fun x107 ex107 => ?_)
        have tx107 := zi_and 8 (by decide +kernel) (by decide) ex107
        refine lv_goto (tgt := 33) hx hb dX6_byteAt_29 (by decide) ?_
        subst hQ
        exact zq_iret E hr hZ hM hS ⟨rfl, (by omega)⟩ hlocks dX6_byteAt_33
def zw_X6_addToken : List (Nat × Nat) := [(6, 7), (22, 999), (43, 999)]
set_option maxHeartbeats 8000000 in
set_option maxRecDepth 100000 in
theorem c_X6_addToken (l : Launch) (X : zq_X) (zk zn : Nat) (I : zq_M) (L : zq_L X)  (h0 : Nat) (k_h0 : zq_k X h0 = 6) (p1 : Int32) (p2 : Int32) (p3 : Int32) (p4 : Nat) (k_p4 : zq_k X p4 = 12) (g_p2 : 0 ≤ p2.toInt ∧ p2.toInt ≤ 400) : Met l yX6_addToken (zt_w yX6_addToken cX6_addToken 5 none) (zq_rm (0)) (va_Pc [.ref h0, .int p1, .int p2, .int p3, .ref p4] (zq_W X (zk, zn) I)) (va_Qv (fun I2 => zq_fr (zf X zw_X6_addToken (fun _ => False)) I I2) (zq_E X (zk, zn)) (zq_A X)) 0 0 (zq_A X) := by
  refine Met.ofW (cc := cX6_addToken) (maxL := 5) (ret := none) (by decide) rfl ?_
  intro p e s m args below meth c s₁ B hml hv
  obtain ⟨hargs, hM, hZ⟩ := hv
  have hown : s.vm.findClass RX6 = some m.cls := findClass_of_methodNamed B.named
  have hts := atoms_spec (ws := zt_w yX6_addToken cX6_addToken 5 none) B.pre
  have E : CallFix p m c cX6_addToken 5 s args (Cond.code yX6_addToken cX6_addToken 5 none :: zt) RX6 := ⟨B.exec, B.bytes, hml, hown, hts⟩
  have hx := B.exec
  have hb := B.bytes
  have hr := B.returns
  have hlocks := B.notSynchronized
  clear B
  have hS : va_S (zq_A X) s.heap s.heap [] := va_S.rf
  have hR : zq_fr (zf X zw_X6_addToken (fun _ => False)) I I := zq_fr.rf
  have hl := lv_entry ([.ref h0, .int p1, .int p2, .int p3, .ref p4]) (n := 5) (by exact Nat.le_of_ble_eq_true rfl)
  have hg : entryFrame m args 5 = F0 m 0 ((lg_sl ([.ref h0, .int p1, .int p2, .int p3, .ref p4]) ++ List.replicate (5 - (lg_sl ([.ref h0, .int p1, .int p2, .int p3, .ref p4])).length) Slot.unset).toArray) [] := by rw [hargs]; exact lg_entry_eq m ([.ref h0, .int p1, .int p2, .int p3, .ref p4]) 5
  rw [hg]
  clear hg hargs
  generalize (lg_sl ([.ref h0, .int p1, .int p2, .int p3, .ref p4]) ++ List.replicate (5 - (lg_sl ([.ref h0, .int p1, .int p2, .int p3, .ref p4])).length) Slot.unset).toArray = ls at hl ⊢
  have hl : lv_has ls 5 [(0, .ref h0), (1, .int p1), (2, .int p2), (3, .int p3), (4, .ref p4)] := by exact hl
  obtain ⟨R, hRm⟩ : ∃ R : Room, R = (headSpec (zt_w yX6_addToken cX6_addToken 5 none) (zq_rm (0))).room := ⟨_, rfl⟩
  rw [← hRm]
  generalize hQ : MQ below _ args s 0 0 (zq_A X) = Q
  obtain ⟨H, hH⟩ : ∃ H, H = s.heap := ⟨_, rfl⟩
  obtain ⟨locs, hlo⟩ : ∃ x : List Loc, x = [] := ⟨_, rfl⟩
  rw [show W p l e R s m args below meth c s.heap [] 0 0 Q = W p l e R s m args below meth c H locs 0 0 Q by rw [hH, hlo]]
  have hM : zq_hm X (zk, zn) I H := by rw [hH]; exact hM
  have hS : va_S (zq_A X) s.heap H locs := by rw [hH, hlo]; exact hS
  clear hH hlo
  refine lv_aload_n hx hb dX6_addToken_0 rfl (lv_at hl 0 rfl) ?_
  refine zq_gn E hM k_h0 (zFX6_52 E hZ) (Or.inl ⟨by decide, by decide, by decide, rfl⟩) dX6_addToken_1 (fun x101 ex101 gx101 => ?_)
  replace gx101 : 0 ≤ x101.toInt ∧ x101.toInt ≤ 401 := gx101
  refine lv_aload_n hx hb dX6_addToken_4 rfl (lv_at hl 0 rfl) ?_
  refine zq_getr E hM k_h0 (zFX6_25 E hZ) ⟨by decide, by decide, by decide, rfl⟩ dX6_addToken_5 ?_
  have k102 : zq_k X (zq_r X h0 3) = 22 := zq_lk L.1 k_h0 rfl (by decide)
  refine zq_alen (n := 401) (t := 0) (v := 401) E hZ hM k102 ⟨by decide, rfl⟩ (by decide) (by decide +kernel) dX6_addToken_8 ?_
  refine lv_icmp_ge (tgt := 63) hx hb dX6_addToken_9 (by decide) (fun b103 => ?_) (fun b103 => ?_)
  · have b103 := zi_le b103 (zl_401 : (401 : Int32).toInt = 401) (rfl : x101.toInt = x101.toInt)
    subst hQ
    exact zq_vret E hr hZ hM hS hR hlocks dX6_addToken_63
  · have b103 := zi_nle b103 (zl_401 : (401 : Int32).toInt = 401) (rfl : x101.toInt = x101.toInt)
    refine lv_aload_n hx hb dX6_addToken_12 rfl (lv_at hl 0 rfl) ?_
    refine zq_getr E hM k_h0 (zFX6_25 E hZ) ⟨by decide, by decide, by decide, rfl⟩ dX6_addToken_13 ?_
    have k104 : zq_k X (zq_r X h0 3) = 22 := zq_lk L.1 k_h0 rfl (by decide)
    refine lv_aload_n hx hb dX6_addToken_16 rfl (lv_at hl 0 rfl) ?_
    refine zq_gk (v := x101) E hM k_h0 (zFX6_52 E hZ) (Or.inl ⟨by decide, by decide, by decide, rfl⟩) ex101 dX6_addToken_17 ?_
    refine lv_iload_n hx hb dX6_addToken_20 rfl (lv_at hl 1 rfl) ?_
    refine zq_isn (n := 401) (j := (x101.toNatClampNeg)) E hZ hM hS k104 ⟨by decide, rfl⟩ ⟨by omega, by omega⟩ rfl (zq_any _) dX6_addToken_21 (fun I105 H locs eI105 hM hS => ?_)
    have hR := zq_fr.putE hR eI105 (zf_ia k104 (by decide) rfl)
    refine lv_aload_n hx hb dX6_addToken_22 rfl (lv_at hl 0 rfl) ?_
    refine zq_getr E hM k_h0 (zFX6_29 E hZ) ⟨by decide, by decide, by decide, rfl⟩ dX6_addToken_23 ?_
    have k106 : zq_k X (zq_r X h0 4) = 43 := zq_lk L.1 k_h0 rfl (by decide)
    refine lv_aload_n hx hb dX6_addToken_26 rfl (lv_at hl 0 rfl) ?_
    refine W.eq (g2 := F0 m 27 ls [.ref h0, .ref (zq_r X h0 4)]) rfl ?_
    refine zq_gk (v := x101) E hM k_h0 (zFX6_52 E hZ) (Or.inl ⟨by decide, by decide, by decide, rfl⟩) (zq_kp eI105 (Or.inl (zq_kne k_h0 k104 (by decide))) ex101) dX6_addToken_27 ?_
    refine lv_iload_n hx hb dX6_addToken_30 rfl (lv_at hl 2 rfl) ?_
    refine zq_isn (n := 401) (j := (x101.toNatClampNeg)) E hZ hM hS k106 ⟨by decide, rfl⟩ ⟨by omega, by omega⟩ rfl (show 0 ≤ p2.toInt ∧ p2.toInt ≤ 400 from ⟨by omega, by omega⟩) dX6_addToken_31 (fun I107 H locs eI107 hM hS => ?_)
    have hR := zq_fr.putE hR eI107 (zf_ia k106 (by decide) rfl)
    refine lv_aload_n hx hb dX6_addToken_32 rfl (lv_at hl 0 rfl) ?_
    refine zq_getr E hM k_h0 (zFX6_32 E hZ) ⟨by decide, by decide, by decide, rfl⟩ dX6_addToken_33 ?_
    have k108 : zq_k X (zq_r X h0 5) = 22 := zq_lk L.1 k_h0 rfl (by decide)
    refine lv_aload_n hx hb dX6_addToken_36 rfl (lv_at hl 0 rfl) ?_
    refine zq_gk (v := x101) E hM k_h0 (zFX6_52 E hZ) (Or.inl ⟨by decide, by decide, by decide, rfl⟩) (zq_kp eI107 (Or.inl (zq_kne k_h0 k106 (by decide))) (zq_kp eI105 (Or.inl (zq_kne k_h0 k104 (by decide))) ex101)) dX6_addToken_37 ?_
    refine lv_iload_n hx hb dX6_addToken_40 rfl (lv_at hl 3 rfl) ?_
    refine zq_isn (n := 401) (j := (x101.toNatClampNeg)) E hZ hM hS k108 ⟨by decide, rfl⟩ ⟨by omega, by omega⟩ rfl (zq_any _) dX6_addToken_41 (fun I109 H locs eI109 hM hS => ?_)
    have hR := zq_fr.putE hR eI109 (zf_ia k108 (by decide) rfl)
    refine lv_aload_n hx hb dX6_addToken_42 rfl (lv_at hl 0 rfl) ?_
    refine W.eq (g2 := F0 m 43 ls [.ref h0]) rfl ?_
    refine zq_getr E hM k_h0 (zFX6_35 E hZ) ⟨by decide, by decide, by decide, rfl⟩ dX6_addToken_43 ?_
    have k110 : zq_k X (zq_r X h0 6) = 23 := zq_lk L.1 k_h0 rfl (by decide)
    refine lv_aload_n hx hb dX6_addToken_46 rfl (lv_at hl 0 rfl) ?_
    refine zq_gk (v := x101) E hM k_h0 (zFX6_52 E hZ) (Or.inl ⟨by decide, by decide, by decide, rfl⟩) (zq_kp eI109 (Or.inl (zq_kne k_h0 k108 (by decide))) (zq_kp eI107 (Or.inl (zq_kne k_h0 k106 (by decide))) (zq_kp eI105 (Or.inl (zq_kne k_h0 k104 (by decide))) ex101))) dX6_addToken_47 ?_
    refine lv_aload hx hb dX6_addToken_50 (lv_at hl 4 rfl) ?_
    refine zq_wast (n := 401) E hZ hM hS k110 ⟨by decide, rfl⟩ k_p4 ⟨by omega, by omega⟩ dX6_addToken_52 (fun H locs hM hS => ?_)
    refine lv_aload_n hx hb dX6_addToken_53 rfl (lv_at hl 0 rfl) ?_
    refine lv_dup hx hb dX6_addToken_54 rfl ?_
    refine zq_gk (v := x101) E hM k_h0 (zFX6_52 E hZ) (Or.inl ⟨by decide, by decide, by decide, rfl⟩) (zq_kp eI109 (Or.inl (zq_kne k_h0 k108 (by decide))) (zq_kp eI107 (Or.inl (zq_kne k_h0 k106 (by decide))) (zq_kp eI105 (Or.inl (zq_kne k_h0 k104 (by decide))) ex101))) dX6_addToken_55 ?_
    refine lv_iconst (v := 1) hx hb dX6_addToken_58 (by decide +kernel) ?_
    refine lv_iadd hx hb dX6_addToken_59 ?_
    refine lv_topi (fun x111 ex111 => ?_)
    have tx111 := zi_add ex111 (rfl : x101.toInt = x101.toInt) (zl_1 : (1 : Int32).toInt = 1) ⟨by omega, by omega⟩
    refine W.eq (g2 := F0 m 60 ls [.int x111, .ref h0]) rfl ?_
    refine zq_pn E hM hS k_h0 (zGX6_52 E hZ) ⟨by decide, by decide, by decide, rfl⟩ (show 0 ≤ x111.toInt ∧ x111.toInt ≤ 401 from ⟨by omega, by omega⟩) dX6_addToken_60 (fun I112 H locs eI112 hM hS => ?_)
    have hR := zq_fr.putE hR eI112 (zf_i k_h0 rfl rfl)
    subst hQ
    exact zq_vret E hr hZ hM hS hR hlocks dX6_addToken_63
def zw_X6_splitNumber : List (Nat × Nat) := [(6, 7), (22, 999), (43, 999)]
set_option maxHeartbeats 8000000 in
set_option maxRecDepth 100000 in
theorem c_X6_splitNumber (l : Launch) (X : zq_X) (zk zn : Nat) (I : zq_M) (L : zq_L X)  (h0 : Nat) (k_h0 : zq_k X h0 = 6) (p1 : Int32) (g_p1 : 0 ≤ p1.toInt ∧ p1.toInt ≤ 399) : Met l yX6_splitNumber (zt_w yX6_splitNumber cX6_splitNumber 4 (some .int)) (zq_rm (1)) (va_Pc [.ref h0, .int p1] (zq_W X (zk, zn) I)) (va_Qi (fun (r : Int32) I2 => zq_fr (zf X zw_X6_splitNumber (fun _ => False)) I I2 ∧ (0 ≤ r.toInt ∧ r.toInt ≤ 400)) (zq_E X (zk, zn)) (zq_A X)) 0 0 (zq_A X) := by
  refine Met.ofW (cc := cX6_splitNumber) (maxL := 4) (ret := (some .int)) (by decide) rfl ?_
  intro p e s m args below meth c s₁ B hml hv
  obtain ⟨hargs, hM, hZ⟩ := hv
  have hown : s.vm.findClass RX6 = some m.cls := findClass_of_methodNamed B.named
  have hts := atoms_spec (ws := zt_w yX6_splitNumber cX6_splitNumber 4 (some .int)) B.pre
  have E : CallFix p m c cX6_splitNumber 4 s args (Cond.code yX6_splitNumber cX6_splitNumber 4 (some .int) :: zt) RX6 := ⟨B.exec, B.bytes, hml, hown, hts⟩
  have hx := B.exec
  have hb := B.bytes
  have hr := B.returns
  have hlocks := B.notSynchronized
  clear B
  have hS : va_S (zq_A X) s.heap s.heap [] := va_S.rf
  have hR : zq_fr (zf X zw_X6_splitNumber (fun _ => False)) I I := zq_fr.rf
  have hl := lv_entry ([.ref h0, .int p1]) (n := 4) (by exact Nat.le_of_ble_eq_true rfl)
  have hg : entryFrame m args 4 = F0 m 0 ((lg_sl ([.ref h0, .int p1]) ++ List.replicate (4 - (lg_sl ([.ref h0, .int p1])).length) Slot.unset).toArray) [] := by rw [hargs]; exact lg_entry_eq m ([.ref h0, .int p1]) 4
  rw [hg]
  clear hg hargs
  generalize (lg_sl ([.ref h0, .int p1]) ++ List.replicate (4 - (lg_sl ([.ref h0, .int p1])).length) Slot.unset).toArray = ls at hl ⊢
  have hl : lv_has ls 4 [(0, .ref h0), (1, .int p1)] := by exact hl
  obtain ⟨R, hRm⟩ : ∃ R : Room, R = (headSpec (zt_w yX6_splitNumber cX6_splitNumber 4 (some .int)) (zq_rm (1))).room := ⟨_, rfl⟩
  rw [← hRm]
  have hro : ∀ d q : Nat, d + 1 ≤ 1 → q ≤ 45 → zq_rok d q R := fun d q h1 h2 => by rw [hRm]; exact zq_rokI h1 h2
  generalize hQ : MQ below _ args s 0 0 (zq_A X) = Q
  obtain ⟨H, hH⟩ : ∃ H, H = s.heap := ⟨_, rfl⟩
  obtain ⟨locs, hlo⟩ : ∃ x : List Loc, x = [] := ⟨_, rfl⟩
  rw [show W p l e R s m args below meth c s.heap [] 0 0 Q = W p l e R s m args below meth c H locs 0 0 Q by rw [hH, hlo]]
  have hM : zq_hm X (zk, zn) I H := by rw [hH]; exact hM
  have hS : va_S (zq_A X) s.heap H locs := by rw [hH, hlo]; exact hS
  clear hH hlo
  refine lv_iconst (v := 0) hx hb dX6_splitNumber_0 (by decide +kernel) ?_
  refine lv_istore_n (lv' := [(2, .int (0 : Int32)), (0, .ref h0), (1, .int p1)]) hx hb dX6_splitNumber_1 rfl hl (by decide) rfl (fun ls hl => ?_)
  refine lv_iload_n hx hb dX6_splitNumber_2 rfl (lv_at hl 2 rfl) ?_
  refine lv_istore_n (lv' := [(3, .int p1), (2, .int (0 : Int32)), (0, .ref h0), (1, .int p1)]) hx hb dX6_splitNumber_3 rfl hl (by decide) rfl (fun ls hl => ?_)
  have J4 : ∀ (n253 : Nat) (H : Heap) (locs : List Loc) (ls : Array Slot) (j251 : Int32) (j252 : Int32), 400 + 1 - j251.toInt ≤ ((n253 : Nat) : Int) → (zq_hm X (zk, zn) I H) → (va_S (zq_A X) s.heap H locs) → (0 ≤ j251.toInt ∧ j251.toInt ≤ 400) → (lv_has ls 4 [(3, .int j251), (2, .int j252), (0, .ref h0), (1, .int p1)]) → W p l e R s m args below meth c H locs 0 0 Q (F0 m 4 ls []) := by
    intro n253
    induction n253 with
    | zero => intro H locs ls j251 j252 mu254 hM hS gj251 hl; exfalso; have := zi_rng j251; omega
    | succ n253 ih4 =>
      intro H locs ls j251 j252 mu254 hM hS gj251 hl
      refine lv_iload_n hx hb dX6_splitNumber_4 rfl (lv_at hl 0 rfl) ?_
      refine lv_aload_n hx hb dX6_splitNumber_5 rfl (lv_at hl 2 rfl) ?_
      refine zq_gn E hM k_h0 (zFX6_42 E hZ) (Or.inl ⟨by decide, by decide, by decide, rfl⟩) dX6_splitNumber_6 (fun x255 ex255 gx255 => ?_)
      replace gx255 : 0 ≤ x255.toInt ∧ x255.toInt ≤ 400 := gx255
      have J50 : ∀ (H : Heap) (locs : List Loc) (ls : Array Slot), (zq_hm X (zk, zn) I H) → (va_S (zq_A X) s.heap H locs) → (lv_has ls 4 [(3, .int j251), (2, .int j252), (0, .ref h0), (1, .int p1)]) → W p l e R s m args below meth c H locs 0 0 Q (F0 m 50 ls []) := by
        intro H locs ls hM hS hl
        refine lv_aload_n hx hb dX6_splitNumber_50 rfl (lv_at hl 2 rfl) ?_
        refine lv_bipush (v := (-2)) hx hb dX6_splitNumber_51 (by decide +kernel) ?_
        refine lv_iload_n hx hb dX6_splitNumber_53 rfl (lv_at hl 3 rfl) ?_
        refine lv_iload_n hx hb dX6_splitNumber_54 rfl (lv_at hl 0 rfl) ?_
        refine lv_iload_n hx hb dX6_splitNumber_55 rfl (lv_at hl 3 rfl) ?_
        refine lv_isub hx hb dX6_splitNumber_56 ?_
        refine lv_topi (fun x278 ex278 => ?_)
        have tx278 := zi_sub ex278 (rfl : j251.toInt = j251.toInt) (rfl : p1.toInt = p1.toInt) ⟨by omega, by omega⟩
        refine lv_iconst (v := 5) hx hb dX6_splitNumber_57 (by decide +kernel) ?_
        have J66 : ∀ (ls : Array Slot) (j279 : Int32), (lv_has ls 4 [(3, .int j251), (2, .int j252), (0, .ref h0), (1, .int p1)]) → W p l e R s m args below meth c H locs 0 0 Q (F0 m 66 ls [.int j279, .int p1, .int (-2 : Int32), .ref h0]) := by
          intro ls j279 hl
          refine zq_getw (nm := "OTHER") E hZ hM (by decide) (List.mem_cons_of_mem _ zLX6_38) dX6_splitNumber_66 (fun w285 kw285 => ?_)
          refine zq_callv (zq_rV (As := [.int (-2 : Int32), .int p1, .int j279, .ref w285]) (rest := []) E hZ hM k_h0 (c_X6_addToken l X zk (zn) I L h0 k_h0 (-2 : Int32) p1 j279 w285 kw285 ⟨by omega, by omega⟩) zmX6_81 zM_X6_addToken (hro (0) 5 (by first | decide | omega) (by decide)) ⟨by decide, by decide⟩ rfl hl.1 rfl rfl (Nat.le_of_ble_eq_true rfl) dX6_splitNumber_69) hS (fun I288 H locs h286 hM hS => ?_)
          have fr289 := h286
          have := zl_m2
          have hR := zq_fr.call hR fr289 (zf_sub (by decide +kernel) (fun _ _ q => q.elim))
          refine lv_iload_n hx hb dX6_splitNumber_72 rfl (lv_at hl 0 rfl) ?_
          subst hQ
          exact zq_iret E hr hZ hM hS ⟨hR, (by omega)⟩ hlocks dX6_splitNumber_73
        refine lv_icmp_le (tgt := 65) hx hb dX6_splitNumber_58 (by decide) (fun b290 => ?_) (fun b290 => ?_)
        · have b290 := zi_le b290 (rfl : x278.toInt = x278.toInt) (zl_5 : (5 : Int32).toInt = 5)
          refine lv_iload_n hx hb dX6_splitNumber_65 rfl (lv_at hl 1 rfl) ?_
          exact J66 ls j252 (lv_sub hl [0, 1, 2, 3] rfl)
        · have b290 := zi_nle b290 (rfl : x278.toInt = x278.toInt) (zl_5 : (5 : Int32).toInt = 5)
          refine lv_iconst (v := (-1)) hx hb dX6_splitNumber_61 (by decide +kernel) ?_
          refine lv_goto (tgt := 66) hx hb dX6_splitNumber_62 (by decide) ?_
          exact J66 ls (-1 : Int32) (lv_sub hl [0, 1, 2, 3] rfl)
      refine lv_icmp_ge (tgt := 50) hx hb dX6_splitNumber_9 (by decide) (fun b291 => ?_) (fun b291 => ?_)
      · have b291 := zi_le b291 (rfl : x255.toInt = x255.toInt) (rfl : j251.toInt = j251.toInt)
        exact J50 H locs ls hM hS (lv_sub hl [0, 1, 2, 3] rfl)
      · have b291 := zi_nle b291 (rfl : x255.toInt = x255.toInt) (rfl : j251.toInt = j251.toInt)
        refine lv_aload_n hx hb dX6_splitNumber_12 rfl (lv_at hl 2 rfl) ?_
        refine lv_iload_n hx hb dX6_splitNumber_13 rfl (lv_at hl 0 rfl) ?_
        refine zq_pcalli (zq_rV (As := [.int j251]) (rest := []) E hZ hM k_h0 (c_X6_byteAt l X zk (zn) I L h0 k_h0 j251) zmX6_55 zM_X6_byteAt (hro (0) 2 (by first | decide | omega) (by decide)) ⟨by decide, by decide⟩ rfl hl.1 rfl rfl (Nat.le_of_ble_eq_true rfl) dX6_splitNumber_14) hS (fun x293 H locs h292 hM hS => ?_)
        have p294 := h292
        refine zq_pcalli (zq_rS (As := [.int x293]) (rest := []) E hZ hM (c_X6_isDigit l X zk (zn) I L x293) zmX6_59 zM_X6_isDigit (hro (0) 1 (by first | decide | omega) (by decide)) hl.1 rfl rfl (Nat.le_of_ble_eq_true rfl) dX6_splitNumber_17) hS (fun x296 H locs h295 hM hS => ?_)
        have p297 := h295
        refine lv_if_eq (tgt := 50) hx hb dX6_splitNumber_20 (by decide) (fun b298 => ?_) (fun b298 => ?_)
        · have b298 := zi_eq b298 (rfl : x296.toInt = x296.toInt) (zl_0 : (0 : Int32).toInt = 0)
          exact J50 H locs ls hM hS (lv_sub hl [0, 1, 2, 3] rfl)
        · have b298 := zi_ne b298 (rfl : x296.toInt = x296.toInt) (zl_0 : (0 : Int32).toInt = 0)
          refine lv_iload_n hx hb dX6_splitNumber_23 rfl (lv_at hl 0 rfl) ?_
          refine lv_iload_n hx hb dX6_splitNumber_24 rfl (lv_at hl 3 rfl) ?_
          refine lv_isub hx hb dX6_splitNumber_25 ?_
          refine lv_topi (fun x299 ex299 => ?_)
          have tx299 := zi_sub ex299 (rfl : j251.toInt = j251.toInt) (rfl : p1.toInt = p1.toInt) ⟨by omega, by omega⟩
          refine lv_iconst (v := 5) hx hb dX6_splitNumber_26 (by decide +kernel) ?_
          have J44 : ∀ (H : Heap) (locs : List Loc) (ls : Array Slot) (j306 : Int32), (zq_hm X (zk, zn) I H) → (va_S (zq_A X) s.heap H locs) → (lv_has ls 4 [(3, .int j251), (2, .int j306), (0, .ref h0), (1, .int p1)]) → W p l e R s m args below meth c H locs 0 0 Q (F0 m 44 ls []) := by
            intro H locs ls j306 hM hS hl
            obtain ⟨x308, ex308⟩ : ∃ y : Int32, y = j251 + 1 := ⟨_, rfl⟩
            have tx308 := zi_add ex308 (rfl : j251.toInt = j251.toInt) zl_1 ⟨by omega, by omega⟩
            refine lv_iinc (v := x308) (lv' := [(3, .int x308), (2, .int j306), (0, .ref h0), (1, .int p1)]) hx hb dX6_splitNumber_44 hl (k := 0) rfl (by rw [ex308]; rfl) (by decide) rfl (fun ls hl => ?_)
            refine lv_goto (tgt := 4) hx hb dX6_splitNumber_47 (by decide) ?_
            exact ih4 H locs ls x308 j306 (by omega) hM hS (⟨by omega, by omega⟩) (lv_sub hl [0, 1, 2, 3] rfl)
          refine lv_icmp_ge (tgt := 44) hx hb dX6_splitNumber_27 (by decide) (fun b309 => ?_) (fun b309 => ?_)
          · have b309 := zi_le b309 (zl_5 : (5 : Int32).toInt = 5) (rfl : x299.toInt = x299.toInt)
            exact J44 H locs ls j252 hM hS (lv_sub hl [0, 1, 2, 3] rfl)
          · have b309 := zi_nle b309 (zl_5 : (5 : Int32).toInt = 5) (rfl : x299.toInt = x299.toInt)
            refine lv_iload_n hx hb dX6_splitNumber_30 rfl (lv_at hl 1 rfl) ?_
            refine lv_bipush (v := 10) hx hb dX6_splitNumber_31 (by decide +kernel) ?_
            refine lv_imul hx hb dX6_splitNumber_33 ?_
            refine lv_topi (fun x310 ex310 => ?_)
            refine lv_aload_n hx hb dX6_splitNumber_34 rfl (lv_at hl 2 rfl) ?_
            refine lv_iload_n hx hb dX6_splitNumber_35 rfl (lv_at hl 0 rfl) ?_
            refine zq_pcalli (zq_rV (As := [.int j251]) (rest := [.int x310]) E hZ hM k_h0 (c_X6_byteAt l X zk (zn) I L h0 k_h0 j251) zmX6_55 zM_X6_byteAt (hro (0) 2 (by first | decide | omega) (by decide)) ⟨by decide, by decide⟩ rfl hl.1 rfl rfl (Nat.le_of_ble_eq_true rfl) dX6_splitNumber_36) hS (fun x312 H locs h311 hM hS => ?_)
            have p313 := h311
            refine lv_iadd hx hb dX6_splitNumber_39 ?_
            refine lv_topi (fun x314 ex314 => ?_)
            refine lv_bipush (v := 48) hx hb dX6_splitNumber_40 (by decide +kernel) ?_
            refine lv_isub hx hb dX6_splitNumber_42 ?_
            refine lv_topi (fun x315 ex315 => ?_)
            refine W.eq (g2 := F0 m 43 ls [.int x315]) rfl ?_
            refine lv_istore_n (lv' := [(2, .int x315), (3, .int j251), (0, .ref h0), (1, .int p1)]) hx hb dX6_splitNumber_43 rfl hl (by decide) rfl (fun ls hl => ?_)
            exact J44 H locs ls x315 hM hS (lv_sub hl [1, 0, 2, 3] rfl)
  exact J4 (400 + 1 - p1.toInt).toNat H locs ls p1 (0 : Int32) (by omega) hM hS (⟨by omega, by omega⟩) (lv_sub hl [0, 1, 2, 3] rfl)
set_option maxHeartbeats 8000000 in
set_option maxRecDepth 100000 in
theorem c_X6_isText (l : Launch) (X : zq_X) (zk zn : Nat) (I : zq_M) (L : zq_L X)  (h0 : Nat) (k_h0 : zq_k X h0 = 6) (p1 : Nat) (k_p1 : zq_k X p1 = 13) (p2 : Int32) (p3 : Int32)  : Met l yX6_isText (zt_w yX6_isText cX6_isText 5 (some .boolean)) (zq_rm (4)) (va_Pc [.ref h0, .ref p1, .int p2, .int p3] (zq_W X (zk, zn) I)) (va_Qi (fun (r : Int32) I2 => I2 = I ∧ (0 ≤ r.toInt ∧ r.toInt ≤ 1)) (zq_E X (zk, zn)) (zq_A X)) 0 0 (zq_A X) := by
  refine Met.ofW (cc := cX6_isText) (maxL := 5) (ret := (some .boolean)) (by decide) rfl ?_
  intro p e s m args below meth c s₁ B hml hv
  obtain ⟨hargs, hM, hZ⟩ := hv
  have hown : s.vm.findClass RX6 = some m.cls := findClass_of_methodNamed B.named
  have hts := atoms_spec (ws := zt_w yX6_isText cX6_isText 5 (some .boolean)) B.pre
  have E : CallFix p m c cX6_isText 5 s args (Cond.code yX6_isText cX6_isText 5 (some .boolean) :: zt) RX6 := ⟨B.exec, B.bytes, hml, hown, hts⟩
  have hx := B.exec
  have hb := B.bytes
  have hr := B.returns
  have hlocks := B.notSynchronized
  clear B
  have hS : va_S (zq_A X) s.heap s.heap [] := va_S.rf
  have hl := lv_entry ([.ref h0, .ref p1, .int p2, .int p3]) (n := 5) (by exact Nat.le_of_ble_eq_true rfl)
  have hg : entryFrame m args 5 = F0 m 0 ((lg_sl ([.ref h0, .ref p1, .int p2, .int p3]) ++ List.replicate (5 - (lg_sl ([.ref h0, .ref p1, .int p2, .int p3])).length) Slot.unset).toArray) [] := by rw [hargs]; exact lg_entry_eq m ([.ref h0, .ref p1, .int p2, .int p3]) 5
  rw [hg]
  clear hg hargs
  generalize (lg_sl ([.ref h0, .ref p1, .int p2, .int p3]) ++ List.replicate (5 - (lg_sl ([.ref h0, .ref p1, .int p2, .int p3])).length) Slot.unset).toArray = ls at hl ⊢
  have hl : lv_has ls 5 [(0, .ref h0), (1, .ref p1), (2, .int p2), (3, .int p3)] := by exact hl
  obtain ⟨R, hRm⟩ : ∃ R : Room, R = (headSpec (zt_w yX6_isText cX6_isText 5 (some .boolean)) (zq_rm (4))).room := ⟨_, rfl⟩
  rw [← hRm]
  have hro : ∀ d q : Nat, d + 1 ≤ 4 → q ≤ 45 → zq_rok d q R := fun d q h1 h2 => by rw [hRm]; exact zq_rokI h1 h2
  generalize hQ : MQ below _ args s 0 0 (zq_A X) = Q
  obtain ⟨H, hH⟩ : ∃ H, H = s.heap := ⟨_, rfl⟩
  obtain ⟨locs, hlo⟩ : ∃ x : List Loc, x = [] := ⟨_, rfl⟩
  rw [show W p l e R s m args below meth c s.heap [] 0 0 Q = W p l e R s m args below meth c H locs 0 0 Q by rw [hH, hlo]]
  have hM : zq_hm X (zk, zn) I H := by rw [hH]; exact hM
  have hS : va_S (zq_A X) s.heap H locs := by rw [hH, hlo]; exact hS
  clear hH hlo
  refine lv_aload_n hx hb dX6_isText_0 rfl (lv_at hl 1 rfl) ?_
  refine zq_pcalli (zq_rVs (As := []) (rest := []) E hZ hM k_p1 (c_J0_length_8abf5 l X zk (zn) I L p1 k_p1) zmX6_93 zM_J0_length_8abf5 (hro (1) 1 (by first | decide | omega) (by decide)) hl.1 rfl rfl (Nat.le_of_ble_eq_true rfl) dX6_isText_1) hS (fun x102 H locs h101 hM hS => ?_)
  obtain ⟨p103, p104⟩ := h101
  have := zi_rng x102
  refine lv_iload_n hx hb dX6_isText_4 rfl (lv_at hl 3 rfl) ?_
  refine lv_iload_n hx hb dX6_isText_5 rfl (lv_at hl 2 rfl) ?_
  refine lv_isub hx hb dX6_isText_6 ?_
  refine lv_topi (fun x105 ex105 => ?_)
  refine lv_icmp_eq (tgt := 12) hx hb dX6_isText_7 (by decide) (fun b106 => ?_) (fun b106 => ?_)
  · have b106 := zi_eq b106 (rfl : x102.toInt = x102.toInt) (rfl : x105.toInt = x105.toInt)
    refine lv_iconst (v := 0) hx hb dX6_isText_12 (by decide +kernel) ?_
    refine lv_istore (lv' := [(4, .int (0 : Int32)), (0, .ref h0), (1, .ref p1), (2, .int p2), (3, .int p3)]) hx hb dX6_isText_13 hl (by decide) rfl (fun ls hl => ?_)
    have J15 : ∀ (n147 : Nat) (H : Heap) (locs : List Loc) (ls : Array Slot) (j146 : Int32), 2147483647 + 1 - j146.toInt ≤ ((n147 : Nat) : Int) → (zq_hm X (zk, zn) I H) → (va_S (zq_A X) s.heap H locs) → (0 ≤ j146.toInt) → (lv_has ls 5 [(4, .int j146), (0, .ref h0), (1, .ref p1), (2, .int p2), (3, .int p3)]) → W p l e R s m args below meth c H locs 0 0 Q (F0 m 15 ls []) := by
      intro n147
      induction n147 with
      | zero => intro H locs ls j146 mu148 hM hS gj146 hl; exfalso; have := zi_rng j146; omega
      | succ n147 ih15 =>
        intro H locs ls j146 mu148 hM hS gj146 hl
        have := zi_rng j146
        refine lv_iload hx hb dX6_isText_15 (lv_at hl 0 rfl) ?_
        refine lv_aload_n hx hb dX6_isText_17 rfl (lv_at hl 2 rfl) ?_
        refine zq_pcalli (zq_rVs (As := []) (rest := [.int j146]) E hZ hM k_p1 (c_J0_length_8abf5 l X zk (zn) I L p1 k_p1) zmX6_93 zM_J0_length_8abf5 (hro (1) 1 (by first | decide | omega) (by decide)) hl.1 rfl rfl (Nat.le_of_ble_eq_true rfl) dX6_isText_18) hS (fun x150 H locs h149 hM hS => ?_)
        obtain ⟨p151, p152⟩ := h149
        have := zi_rng x150
        refine lv_icmp_ge (tgt := 49) hx hb dX6_isText_21 (by decide) (fun b153 => ?_) (fun b153 => ?_)
        · have b153 := zi_le b153 (rfl : x150.toInt = x150.toInt) (rfl : j146.toInt = j146.toInt)
          refine lv_iconst (v := 1) hx hb dX6_isText_49 (by decide +kernel) ?_
          subst hQ
          exact zq_zret E hr hZ hM hS (show 0 ≤ (1 : Int32).toInt ∧ (1 : Int32).toInt ≤ 1 by decide +kernel) ⟨rfl, (by have := zl_1; omega)⟩ hlocks dX6_isText_50
        · have b153 := zi_nle b153 (rfl : x150.toInt = x150.toInt) (rfl : j146.toInt = j146.toInt)
          refine lv_aload_n hx hb dX6_isText_24 rfl (lv_at hl 2 rfl) ?_
          refine lv_iload hx hb dX6_isText_25 (lv_at hl 0 rfl) ?_
          refine zq_pcalli (zq_rVs (As := [.int j146]) (rest := []) E hZ hM k_p1 (c_J0_charAt_5068e l X zk (zn) I L p1 k_p1 j146 ⟨by omega, by omega⟩ (by omega)) zmX6_98 zM_J0_charAt_5068e (hro (3) 2 (by first | decide | omega) (by decide)) hl.1 rfl rfl (Nat.le_of_ble_eq_true rfl) dX6_isText_27) hS (fun x155 H locs h154 hM hS => ?_)
          have p156 := h154
          refine lv_aload_n hx hb dX6_isText_30 rfl (lv_at hl 1 rfl) ?_
          refine lv_iload_n hx hb dX6_isText_31 rfl (lv_at hl 3 rfl) ?_
          refine lv_iload hx hb dX6_isText_32 (lv_at hl 0 rfl) ?_
          refine lv_iadd hx hb dX6_isText_34 ?_
          refine lv_topi (fun x157 ex157 => ?_)
          refine zq_pcalli (zq_rV (As := [.int x157]) (rest := [.int x155]) E hZ hM k_h0 (c_X6_byteAt l X zk (zn) I L h0 k_h0 x157) zmX6_55 zM_X6_byteAt (hro (0) 2 (by first | decide | omega) (by decide)) ⟨by decide, by decide⟩ rfl hl.1 rfl rfl (Nat.le_of_ble_eq_true rfl) dX6_isText_35) hS (fun x159 H locs h158 hM hS => ?_)
          have p160 := h158
          refine lv_icmp_eq (tgt := 43) hx hb dX6_isText_38 (by decide) (fun b161 => ?_) (fun b161 => ?_)
          · have b161 := zi_eq b161 (rfl : x155.toInt = x155.toInt) (rfl : x159.toInt = x159.toInt)
            obtain ⟨x162, ex162⟩ : ∃ y : Int32, y = j146 + 1 := ⟨_, rfl⟩
            have tx162 := zi_add ex162 (rfl : j146.toInt = j146.toInt) zl_1 ⟨by omega, by omega⟩
            refine lv_iinc (v := x162) (lv' := [(4, .int x162), (0, .ref h0), (1, .ref p1), (2, .int p2), (3, .int p3)]) hx hb dX6_isText_43 hl (k := 0) rfl (by rw [ex162]; rfl) (by decide) rfl (fun ls hl => ?_)
            refine lv_goto (tgt := 15) hx hb dX6_isText_46 (by decide) ?_
            exact ih15 H locs ls x162 (by have := zi_rng x162; omega) hM hS (by have := zi_rng x162; omega) (lv_sub hl [0, 1, 2, 3, 4] rfl)
          · have b161 := zi_ne b161 (rfl : x155.toInt = x155.toInt) (rfl : x159.toInt = x159.toInt)
            refine lv_iconst (v := 0) hx hb dX6_isText_41 (by decide +kernel) ?_
            subst hQ
            exact zq_zret E hr hZ hM hS (show 0 ≤ (0 : Int32).toInt ∧ (0 : Int32).toInt ≤ 1 by decide +kernel) ⟨rfl, (by have := zl_0; omega)⟩ hlocks dX6_isText_42
    exact J15 (2147483647 + 1 - (0 : Int32).toInt).toNat H locs ls (0 : Int32) (by omega) hM hS (by rw [zl_0]; decide) (lv_sub hl [0, 1, 2, 3, 4] rfl)
  · have b106 := zi_ne b106 (rfl : x102.toInt = x102.toInt) (rfl : x105.toInt = x105.toInt)
    refine lv_iconst (v := 0) hx hb dX6_isText_10 (by decide +kernel) ?_
    subst hQ
    exact zq_zret E hr hZ hM hS (show 0 ≤ (0 : Int32).toInt ∧ (0 : Int32).toInt ≤ 1 by decide +kernel) ⟨rfl, (by have := zl_0; omega)⟩ hlocks dX6_isText_11
def zw_X6_splitWord : List (Nat × Nat) := [(6, 7), (22, 999), (43, 999)]
set_option maxHeartbeats 8000000 in
set_option maxRecDepth 100000 in
theorem c_X6_splitWord (l : Launch) (X : zq_X) (zk zn : Nat) (I : zq_M) (L : zq_L X)  (h0 : Nat) (k_h0 : zq_k X h0 = 6) (p1 : Int32) (g_p1 : 0 ≤ p1.toInt ∧ p1.toInt ≤ 399) : Met l yX6_splitWord (zt_w yX6_splitWord cX6_splitWord 5 (some .int)) (zq_rm (5)) (va_Pc [.ref h0, .int p1] (zq_W X (zk, zn) I)) (va_Qi (fun (r : Int32) I2 => zq_fr (zf X zw_X6_splitWord (fun _ => False)) I I2 ∧ (0 ≤ r.toInt ∧ r.toInt ≤ 400)) (zq_E X (zk, zn)) (zq_A X)) 0 0 (zq_A X) := by
  refine Met.ofW (cc := cX6_splitWord) (maxL := 5) (ret := (some .int)) (by decide) rfl ?_
  intro p e s m args below meth c s₁ B hml hv
  obtain ⟨hargs, hM, hZ⟩ := hv
  have hown : s.vm.findClass RX6 = some m.cls := findClass_of_methodNamed B.named
  have hts := atoms_spec (ws := zt_w yX6_splitWord cX6_splitWord 5 (some .int)) B.pre
  have E : CallFix p m c cX6_splitWord 5 s args (Cond.code yX6_splitWord cX6_splitWord 5 (some .int) :: zt) RX6 := ⟨B.exec, B.bytes, hml, hown, hts⟩
  have hx := B.exec
  have hb := B.bytes
  have hr := B.returns
  have hlocks := B.notSynchronized
  clear B
  have hS : va_S (zq_A X) s.heap s.heap [] := va_S.rf
  have hR : zq_fr (zf X zw_X6_splitWord (fun _ => False)) I I := zq_fr.rf
  have hl := lv_entry ([.ref h0, .int p1]) (n := 5) (by exact Nat.le_of_ble_eq_true rfl)
  have hg : entryFrame m args 5 = F0 m 0 ((lg_sl ([.ref h0, .int p1]) ++ List.replicate (5 - (lg_sl ([.ref h0, .int p1])).length) Slot.unset).toArray) [] := by rw [hargs]; exact lg_entry_eq m ([.ref h0, .int p1]) 5
  rw [hg]
  clear hg hargs
  generalize (lg_sl ([.ref h0, .int p1]) ++ List.replicate (5 - (lg_sl ([.ref h0, .int p1])).length) Slot.unset).toArray = ls at hl ⊢
  have hl : lv_has ls 5 [(0, .ref h0), (1, .int p1)] := by exact hl
  obtain ⟨R, hRm⟩ : ∃ R : Room, R = (headSpec (zt_w yX6_splitWord cX6_splitWord 5 (some .int)) (zq_rm (5))).room := ⟨_, rfl⟩
  rw [← hRm]
  have hro : ∀ d q : Nat, d + 1 ≤ 5 → q ≤ 45 → zq_rok d q R := fun d q h1 h2 => by rw [hRm]; exact zq_rokI h1 h2
  generalize hQ : MQ below _ args s 0 0 (zq_A X) = Q
  obtain ⟨H, hH⟩ : ∃ H, H = s.heap := ⟨_, rfl⟩
  obtain ⟨locs, hlo⟩ : ∃ x : List Loc, x = [] := ⟨_, rfl⟩
  rw [show W p l e R s m args below meth c s.heap [] 0 0 Q = W p l e R s m args below meth c H locs 0 0 Q by rw [hH, hlo]]
  have hM : zq_hm X (zk, zn) I H := by rw [hH]; exact hM
  have hS : va_S (zq_A X) s.heap H locs := by rw [hH, hlo]; exact hS
  clear hH hlo
  refine lv_iload_n hx hb dX6_splitWord_0 rfl (lv_at hl 1 rfl) ?_
  refine lv_istore_n (lv' := [(2, .int p1), (0, .ref h0), (1, .int p1)]) hx hb dX6_splitWord_1 rfl hl (by decide) rfl (fun ls hl => ?_)
  have J2 : ∀ (n276 : Nat) (H : Heap) (locs : List Loc) (ls : Array Slot) (j275 : Int32), 400 + 1 - j275.toInt ≤ ((n276 : Nat) : Int) → (zq_hm X (zk, zn) I H) → (va_S (zq_A X) s.heap H locs) → (0 ≤ j275.toInt ∧ j275.toInt ≤ 400) → (lv_has ls 5 [(2, .int j275), (0, .ref h0), (1, .int p1)]) → W p l e R s m args below meth c H locs 0 0 Q (F0 m 2 ls []) := by
    intro n276
    induction n276 with
    | zero => intro H locs ls j275 mu277 hM hS gj275 hl; exfalso; have := zi_rng j275; omega
    | succ n276 ih2 =>
      intro H locs ls j275 mu277 hM hS gj275 hl
      refine lv_iload_n hx hb dX6_splitWord_2 rfl (lv_at hl 0 rfl) ?_
      refine lv_aload_n hx hb dX6_splitWord_3 rfl (lv_at hl 1 rfl) ?_
      refine zq_gn E hM k_h0 (zFX6_42 E hZ) (Or.inl ⟨by decide, by decide, by decide, rfl⟩) dX6_splitWord_4 (fun x278 ex278 gx278 => ?_)
      replace gx278 : 0 ≤ x278.toInt ∧ x278.toInt ≤ 400 := gx278
      have J27 : ∀ (H : Heap) (locs : List Loc) (ls : Array Slot), (zq_hm X (zk, zn) I H) → (va_S (zq_A X) s.heap H locs) → (lv_has ls 5 [(2, .int j275), (0, .ref h0), (1, .int p1)]) → W p l e R s m args below meth c H locs 0 0 Q (F0 m 27 ls []) := by
        intro H locs ls hM hS hl
        refine zq_getw (nm := "OTHER") E hZ hM (by decide) (List.mem_cons_of_mem _ zLX6_38) dX6_splitWord_27 (fun w364 kw364 => ?_)
        refine lv_astore_n (lv' := [(3, .ref w364), (2, .int j275), (0, .ref h0), (1, .int p1)]) hx hb dX6_splitWord_30 rfl hl (by decide) rfl (fun ls hl => ?_)
        refine lv_iconst (v := 0) hx hb dX6_splitWord_31 (by decide +kernel) ?_
        refine lv_istore (lv' := [(4, .int (0 : Int32)), (3, .ref w364), (2, .int j275), (0, .ref h0), (1, .int p1)]) hx hb dX6_splitWord_32 hl (by decide) rfl (fun ls hl => ?_)
        have J34 : ∀ (n427 : Nat) (H : Heap) (locs : List Loc) (ls : Array Slot) (j425 : Int32) (jr426 : Nat), 21 + 1 - j425.toInt ≤ ((n427 : Nat) : Int) → (zq_hm X (zk, zn) I H) → (va_S (zq_A X) s.heap H locs) → (0 ≤ j425.toInt ∧ j425.toInt ≤ 21) → (zq_k X jr426 = 12) → (lv_has ls 5 [(4, .int j425), (3, .ref jr426), (2, .int j275), (0, .ref h0), (1, .int p1)]) → W p l e R s m args below meth c H locs 0 0 Q (F0 m 34 ls []) := by
          intro n427
          induction n427 with
          | zero => intro H locs ls j425 jr426 mu428 hM hS gj425 kjr426 hl; exfalso; have := zi_rng j425; omega
          | succ n427 ih34 =>
            intro H locs ls j425 jr426 mu428 hM hS gj425 kjr426 hl
            refine lv_iload hx hb dX6_splitWord_34 (lv_at hl 0 rfl) ?_
            refine lv_aload_n hx hb dX6_splitWord_36 rfl (lv_at hl 3 rfl) ?_
            refine zq_getr E hM k_h0 (zFX6_21 E hZ) ⟨by decide, by decide, by decide, rfl⟩ dX6_splitWord_37 ?_
            have k429 : zq_k X (zq_r X h0 2) = 21 := zq_lk L.1 k_h0 rfl (by decide)
            refine zq_alen (n := 21) (t := 9) (v := 21) E hZ hM k429 ⟨by decide, rfl⟩ (by decide) (by decide +kernel) dX6_splitWord_40 ?_
            refine lv_icmp_ge (tgt := 77) hx hb dX6_splitWord_41 (by decide) (fun b430 => ?_) (fun b430 => ?_)
            · have b430 := zi_le b430 (zl_21 : (21 : Int32).toInt = 21) (rfl : j425.toInt = j425.toInt)
              refine lv_aload_n hx hb dX6_splitWord_77 rfl (lv_at hl 3 rfl) ?_
              refine lv_bipush (v := (-3)) hx hb dX6_splitWord_78 (by decide +kernel) ?_
              refine lv_iload_n hx hb dX6_splitWord_80 rfl (lv_at hl 4 rfl) ?_
              refine lv_iconst (v := (-1)) hx hb dX6_splitWord_81 (by decide +kernel) ?_
              refine lv_aload_n hx hb dX6_splitWord_82 rfl (lv_at hl 1 rfl) ?_
              refine zq_callv (zq_rV (As := [.int (-3 : Int32), .int p1, .int (-1 : Int32), .ref jr426]) (rest := []) E hZ hM k_h0 (c_X6_addToken l X zk (zn) I L h0 k_h0 (-3 : Int32) p1 (-1 : Int32) jr426 kjr426 ⟨by omega, by omega⟩) zmX6_81 zM_X6_addToken (hro (0) 5 (by first | decide | omega) (by decide)) ⟨by decide, by decide⟩ rfl hl.1 rfl rfl (Nat.le_of_ble_eq_true rfl) dX6_splitWord_83) hS (fun I433 H locs h431 hM hS => ?_)
              have fr434 := h431
              have := zl_m3
              have := zl_m1
              have hR := zq_fr.call hR fr434 (zf_sub (by decide +kernel) (fun _ _ q => q.elim))
              refine lv_iload_n hx hb dX6_splitWord_86 rfl (lv_at hl 2 rfl) ?_
              subst hQ
              exact zq_iret E hr hZ hM hS ⟨hR, (by omega)⟩ hlocks dX6_splitWord_87
            · have b430 := zi_nle b430 (zl_21 : (21 : Int32).toInt = 21) (rfl : j425.toInt = j425.toInt)
              refine lv_aload_n hx hb dX6_splitWord_44 rfl (lv_at hl 3 rfl) ?_
              refine lv_aload_n hx hb dX6_splitWord_45 rfl (lv_at hl 3 rfl) ?_
              refine zq_getr E hM k_h0 (zFX6_21 E hZ) ⟨by decide, by decide, by decide, rfl⟩ dX6_splitWord_46 ?_
              have k435 : zq_k X (zq_r X h0 2) = 21 := zq_lk L.1 k_h0 rfl (by decide)
              refine lv_iload hx hb dX6_splitWord_49 (lv_at hl 0 rfl) ?_
              refine zq_wald (n := 21) E hZ hM k435 ⟨by decide, rfl⟩ ⟨by omega, by omega⟩ dX6_splitWord_51 (fun w436 kw436 => ?_)
              refine zq_wtext E hZ hM kw436 (List.mem_cons_of_mem _ zLX6_85) dX6_splitWord_52 (fun t437 kt437 => ?_)
              refine lv_iload_n hx hb dX6_splitWord_55 rfl (lv_at hl 4 rfl) ?_
              refine lv_iload_n hx hb dX6_splitWord_56 rfl (lv_at hl 2 rfl) ?_
              refine zq_pcalli (zq_rV (As := [.ref t437, .int p1, .int j275]) (rest := []) E hZ hM k_h0 (c_X6_isText l X zk (zn) I L h0 k_h0 t437 kt437 p1 j275) zmX6_89 zM_X6_isText (hro (4) 5 (by first | decide | omega) (by decide)) ⟨by decide, by decide⟩ rfl hl.1 rfl rfl (Nat.le_of_ble_eq_true rfl) dX6_splitWord_57) hS (fun x439 H locs h438 hM hS => ?_)
              have p440 := h438
              refine W.eq (g2 := F0 m 60 ls [.int x439]) rfl ?_
              have J71 : ∀ (ls : Array Slot) (jr443 : Nat), (zq_k X jr443 = 12) → (lv_has ls 5 [(4, .int j425), (3, .ref jr443), (2, .int j275), (0, .ref h0), (1, .int p1)]) → W p l e R s m args below meth c H locs 0 0 Q (F0 m 71 ls []) := by
                intro ls jr443 kjr443 hl
                obtain ⟨x445, ex445⟩ : ∃ y : Int32, y = j425 + 1 := ⟨_, rfl⟩
                have tx445 := zi_add ex445 (rfl : j425.toInt = j425.toInt) zl_1 ⟨by omega, by omega⟩
                refine lv_iinc (v := x445) (lv' := [(4, .int x445), (3, .ref jr443), (2, .int j275), (0, .ref h0), (1, .int p1)]) hx hb dX6_splitWord_71 hl (k := 0) rfl (by rw [ex445]; rfl) (by decide) rfl (fun ls hl => ?_)
                refine lv_goto (tgt := 34) hx hb dX6_splitWord_74 (by decide) ?_
                exact ih34 H locs ls x445 jr443 (by omega) hM hS (⟨by omega, by omega⟩) kjr443 (lv_sub hl [0, 1, 2, 3, 4] rfl)
              refine lv_if_eq (tgt := 71) hx hb dX6_splitWord_60 (by decide) (fun b446 => ?_) (fun b446 => ?_)
              · have b446 := zi_eq b446 (rfl : x439.toInt = x439.toInt) (zl_0 : (0 : Int32).toInt = 0)
                exact J71 ls jr426 kjr426 (lv_sub hl [0, 1, 2, 3, 4] rfl)
              · have b446 := zi_ne b446 (rfl : x439.toInt = x439.toInt) (zl_0 : (0 : Int32).toInt = 0)
                refine lv_aload_n hx hb dX6_splitWord_63 rfl (lv_at hl 3 rfl) ?_
                refine zq_getr E hM k_h0 (zFX6_21 E hZ) ⟨by decide, by decide, by decide, rfl⟩ dX6_splitWord_64 ?_
                have k447 : zq_k X (zq_r X h0 2) = 21 := zq_lk L.1 k_h0 rfl (by decide)
                refine lv_iload hx hb dX6_splitWord_67 (lv_at hl 0 rfl) ?_
                refine zq_wald (n := 21) E hZ hM k447 ⟨by decide, rfl⟩ ⟨by omega, by omega⟩ dX6_splitWord_69 (fun w448 kw448 => ?_)
                refine lv_astore_n (lv' := [(3, .ref w448), (4, .int j425), (2, .int j275), (0, .ref h0), (1, .int p1)]) hx hb dX6_splitWord_70 rfl hl (by decide) rfl (fun ls hl => ?_)
                exact J71 ls w448 kw448 (lv_sub hl [1, 0, 2, 3, 4] rfl)
        exact J34 (21 + 1 - (0 : Int32).toInt).toNat H locs ls (0 : Int32) w364 (by omega) hM hS (by rw [zl_0]; decide) kw364 (lv_sub hl [0, 1, 2, 3, 4] rfl)
      refine lv_icmp_ge (tgt := 27) hx hb dX6_splitWord_7 (by decide) (fun b449 => ?_) (fun b449 => ?_)
      · have b449 := zi_le b449 (rfl : x278.toInt = x278.toInt) (rfl : j275.toInt = j275.toInt)
        exact J27 H locs ls hM hS (lv_sub hl [0, 1, 2] rfl)
      · have b449 := zi_nle b449 (rfl : x278.toInt = x278.toInt) (rfl : j275.toInt = j275.toInt)
        refine lv_aload_n hx hb dX6_splitWord_10 rfl (lv_at hl 1 rfl) ?_
        refine lv_iload_n hx hb dX6_splitWord_11 rfl (lv_at hl 0 rfl) ?_
        refine zq_pcalli (zq_rV (As := [.int j275]) (rest := []) E hZ hM k_h0 (c_X6_byteAt l X zk (zn) I L h0 k_h0 j275) zmX6_55 zM_X6_byteAt (hro (0) 2 (by first | decide | omega) (by decide)) ⟨by decide, by decide⟩ rfl hl.1 rfl rfl (Nat.le_of_ble_eq_true rfl) dX6_splitWord_12) hS (fun x451 H locs h450 hM hS => ?_)
        have p452 := h450
        refine zq_pcalli (zq_rS (As := [.int x451]) (rest := []) E hZ hM (c_X6_isLetter l X zk (zn) I L x451) zmX6_66 zM_X6_isLetter (hro (0) 1 (by first | decide | omega) (by decide)) hl.1 rfl rfl (Nat.le_of_ble_eq_true rfl) dX6_splitWord_15) hS (fun x454 H locs h453 hM hS => ?_)
        have p455 := h453
        refine lv_if_eq (tgt := 27) hx hb dX6_splitWord_18 (by decide) (fun b456 => ?_) (fun b456 => ?_)
        · have b456 := zi_eq b456 (rfl : x454.toInt = x454.toInt) (zl_0 : (0 : Int32).toInt = 0)
          exact J27 H locs ls hM hS (lv_sub hl [0, 1, 2] rfl)
        · have b456 := zi_ne b456 (rfl : x454.toInt = x454.toInt) (zl_0 : (0 : Int32).toInt = 0)
          obtain ⟨x457, ex457⟩ : ∃ y : Int32, y = j275 + 1 := ⟨_, rfl⟩
          have tx457 := zi_add ex457 (rfl : j275.toInt = j275.toInt) zl_1 ⟨by omega, by omega⟩
          refine lv_iinc (v := x457) (lv' := [(2, .int x457), (0, .ref h0), (1, .int p1)]) hx hb dX6_splitWord_21 hl (k := 0) rfl (by rw [ex457]; rfl) (by decide) rfl (fun ls hl => ?_)
          refine lv_goto (tgt := 2) hx hb dX6_splitWord_24 (by decide) ?_
          exact ih2 H locs ls x457 (by omega) hM hS (⟨by omega, by omega⟩) (lv_sub hl [0, 1, 2] rfl)
  exact J2 (400 + 1 - p1.toInt).toNat H locs ls p1 (by omega) hM hS (⟨by omega, by omega⟩) (lv_sub hl [0, 1, 2] rfl)
def zw_X6_splitSign : List (Nat × Nat) := [(6, 7), (22, 999), (43, 999)]
set_option maxHeartbeats 8000000 in
set_option maxRecDepth 100000 in
theorem c_X6_splitSign (l : Launch) (X : zq_X) (zk zn : Nat) (I : zq_M) (L : zq_L X)  (h0 : Nat) (k_h0 : zq_k X h0 = 6) (p1 : Int32) (g_p1 : 0 ≤ p1.toInt ∧ p1.toInt ≤ 399) : Met l yX6_splitSign (zt_w yX6_splitSign cX6_splitSign 5 (some .int)) (zq_rm (1)) (va_Pc [.ref h0, .int p1] (zq_W X (zk, zn) I)) (va_Qi (fun (r : Int32) I2 => zq_fr (zf X zw_X6_splitSign (fun _ => False)) I I2 ∧ (0 ≤ r.toInt ∧ r.toInt ≤ 401)) (zq_E X (zk, zn)) (zq_A X)) 0 0 (zq_A X) := by
  refine Met.ofW (cc := cX6_splitSign) (maxL := 5) (ret := (some .int)) (by decide) rfl ?_
  intro p e s m args below meth c s₁ B hml hv
  obtain ⟨hargs, hM, hZ⟩ := hv
  have hown : s.vm.findClass RX6 = some m.cls := findClass_of_methodNamed B.named
  have hts := atoms_spec (ws := zt_w yX6_splitSign cX6_splitSign 5 (some .int)) B.pre
  have E : CallFix p m c cX6_splitSign 5 s args (Cond.code yX6_splitSign cX6_splitSign 5 (some .int) :: zt) RX6 := ⟨B.exec, B.bytes, hml, hown, hts⟩
  have hx := B.exec
  have hb := B.bytes
  have hr := B.returns
  have hlocks := B.notSynchronized
  clear B
  have hS : va_S (zq_A X) s.heap s.heap [] := va_S.rf
  have hR : zq_fr (zf X zw_X6_splitSign (fun _ => False)) I I := zq_fr.rf
  have hl := lv_entry ([.ref h0, .int p1]) (n := 5) (by exact Nat.le_of_ble_eq_true rfl)
  have hg : entryFrame m args 5 = F0 m 0 ((lg_sl ([.ref h0, .int p1]) ++ List.replicate (5 - (lg_sl ([.ref h0, .int p1])).length) Slot.unset).toArray) [] := by rw [hargs]; exact lg_entry_eq m ([.ref h0, .int p1]) 5
  rw [hg]
  clear hg hargs
  generalize (lg_sl ([.ref h0, .int p1]) ++ List.replicate (5 - (lg_sl ([.ref h0, .int p1])).length) Slot.unset).toArray = ls at hl ⊢
  have hl : lv_has ls 5 [(0, .ref h0), (1, .int p1)] := by exact hl
  obtain ⟨R, hRm⟩ : ∃ R : Room, R = (headSpec (zt_w yX6_splitSign cX6_splitSign 5 (some .int)) (zq_rm (1))).room := ⟨_, rfl⟩
  rw [← hRm]
  have hro : ∀ d q : Nat, d + 1 ≤ 1 → q ≤ 45 → zq_rok d q R := fun d q h1 h2 => by rw [hRm]; exact zq_rokI h1 h2
  generalize hQ : MQ below _ args s 0 0 (zq_A X) = Q
  obtain ⟨H, hH⟩ : ∃ H, H = s.heap := ⟨_, rfl⟩
  obtain ⟨locs, hlo⟩ : ∃ x : List Loc, x = [] := ⟨_, rfl⟩
  rw [show W p l e R s m args below meth c s.heap [] 0 0 Q = W p l e R s m args below meth c H locs 0 0 Q by rw [hH, hlo]]
  have hM : zq_hm X (zk, zn) I H := by rw [hH]; exact hM
  have hS : va_S (zq_A X) s.heap H locs := by rw [hH, hlo]; exact hS
  clear hH hlo
  refine lv_aload_n hx hb dX6_splitSign_0 rfl (lv_at hl 0 rfl) ?_
  refine lv_iload_n hx hb dX6_splitSign_1 rfl (lv_at hl 1 rfl) ?_
  refine zq_pcalli (zq_rV (As := [.int p1]) (rest := []) E hZ hM k_h0 (c_X6_byteAt l X zk (zn) I L h0 k_h0 p1) zmX6_55 zM_X6_byteAt (hro (0) 2 (by first | decide | omega) (by decide)) ⟨by decide, by decide⟩ rfl hl.1 rfl rfl (Nat.le_of_ble_eq_true rfl) dX6_splitSign_2) hS (fun x102 H locs h101 hM hS => ?_)
  have p103 := h101
  refine lv_istore_n (lv' := [(2, .int x102), (0, .ref h0), (1, .int p1)]) hx hb dX6_splitSign_5 rfl hl (by decide) rfl (fun ls hl => ?_)
  refine lv_iload_n hx hb dX6_splitSign_6 rfl (lv_at hl 0 rfl) ?_
  refine lv_bipush (v := 60) hx hb dX6_splitSign_7 (by decide +kernel) ?_
  have J35 : ∀ (H : Heap) (locs : List Loc) (ls : Array Slot) (j108 : Int32), (zq_hm X (zk, zn) I H) → (va_S (zq_A X) s.heap H locs) → (0 ≤ j108.toInt ∧ j108.toInt ≤ 1) → (lv_has ls 5 [(2, .int x102), (0, .ref h0), (1, .int p1)]) → W p l e R s m args below meth c H locs 0 0 Q (F0 m 35 ls [.int j108]) := by
    intro H locs ls j108 hM hS gj108 hl
    refine lv_istore_n (lv' := [(3, .int j108), (2, .int x102), (0, .ref h0), (1, .int p1)]) hx hb dX6_splitSign_35 rfl hl (by decide) rfl (fun ls hl => ?_)
    refine lv_iload_n hx hb dX6_splitSign_36 rfl (lv_at hl 1 rfl) ?_
    refine lv_bipush (v := 60) hx hb dX6_splitSign_37 (by decide +kernel) ?_
    have J51 : ∀ (ls : Array Slot) (j118 : Int32), (256 ≤ j118.toInt ∧ j118.toInt ≤ 257) → (lv_has ls 5 [(3, .int j108), (2, .int x102), (0, .ref h0), (1, .int p1)]) → W p l e R s m args below meth c H locs 0 0 Q (F0 m 51 ls [.int j118]) := by
      intro ls j118 gj118 hl
      refine lv_istore (lv' := [(4, .int j118), (3, .int j108), (2, .int x102), (0, .ref h0), (1, .int p1)]) hx hb dX6_splitSign_51 hl (by decide) rfl (fun ls hl => ?_)
      refine lv_aload_n hx hb dX6_splitSign_53 rfl (lv_at hl 3 rfl) ?_
      refine lv_iload_n hx hb dX6_splitSign_54 rfl (lv_at hl 1 rfl) ?_
      have J64 : ∀ (ls : Array Slot) (j127 : Int32), ((-1) ≤ j127.toInt ∧ j127.toInt ≤ 257) → (lv_has ls 5 [(4, .int j118), (3, .int j108), (2, .int x102), (0, .ref h0), (1, .int p1)]) → W p l e R s m args below meth c H locs 0 0 Q (F0 m 64 ls [.int j127, .ref h0]) := by
        intro ls j127 gj127 hl
        refine lv_iload_n hx hb dX6_splitSign_64 rfl (lv_at hl 4 rfl) ?_
        refine lv_iconst (v := (-1)) hx hb dX6_splitSign_65 (by decide +kernel) ?_
        refine zq_getw (nm := "OTHER") E hZ hM (by decide) (List.mem_cons_of_mem _ zLX6_38) dX6_splitSign_66 (fun w135 kw135 => ?_)
        refine zq_callv (zq_rV (As := [.int j127, .int p1, .int (-1 : Int32), .ref w135]) (rest := []) E hZ hM k_h0 (c_X6_addToken l X zk (zn) I L h0 k_h0 j127 p1 (-1 : Int32) w135 kw135 ⟨by omega, by omega⟩) zmX6_81 zM_X6_addToken (hro (0) 5 (by first | decide | omega) (by decide)) ⟨by decide, by decide⟩ rfl hl.1 rfl rfl (Nat.le_of_ble_eq_true rfl) dX6_splitSign_69) hS (fun I138 H locs h136 hM hS => ?_)
        have fr139 := h136
        have := zl_m1
        have hR := zq_fr.call hR fr139 (zf_sub (by decide +kernel) (fun _ _ q => q.elim))
        refine lv_iload_n hx hb dX6_splitSign_72 rfl (lv_at hl 1 rfl) ?_
        refine lv_if_eq (tgt := 82) hx hb dX6_splitSign_73 (by decide) (fun b140 => ?_) (fun b140 => ?_)
        · have b140 := zi_eq b140 (rfl : j108.toInt = j108.toInt) (zl_0 : (0 : Int32).toInt = 0)
          refine lv_iload_n hx hb dX6_splitSign_82 rfl (lv_at hl 4 rfl) ?_
          refine lv_iconst (v := 1) hx hb dX6_splitSign_83 (by decide +kernel) ?_
          refine lv_iadd hx hb dX6_splitSign_84 ?_
          refine lv_topi (fun x141 ex141 => ?_)
          have tx141 := zi_add ex141 (rfl : p1.toInt = p1.toInt) (zl_1 : (1 : Int32).toInt = 1) ⟨by omega, by omega⟩
          subst hQ
          exact zq_iret E hr hZ hM hS ⟨hR, (by omega)⟩ hlocks dX6_splitSign_85
        · have b140 := zi_ne b140 (rfl : j108.toInt = j108.toInt) (zl_0 : (0 : Int32).toInt = 0)
          refine lv_iload_n hx hb dX6_splitSign_76 rfl (lv_at hl 4 rfl) ?_
          refine lv_iconst (v := 2) hx hb dX6_splitSign_77 (by decide +kernel) ?_
          refine lv_iadd hx hb dX6_splitSign_78 ?_
          refine lv_topi (fun x142 ex142 => ?_)
          have tx142 := zi_add ex142 (rfl : p1.toInt = p1.toInt) (zl_2 : (2 : Int32).toInt = 2) ⟨by omega, by omega⟩
          refine lv_goto (tgt := 85) hx hb dX6_splitSign_79 (by decide) ?_
          subst hQ
          exact zq_iret E hr hZ hM hS ⟨hR, (by omega)⟩ hlocks dX6_splitSign_85
      refine lv_if_eq (tgt := 63) hx hb dX6_splitSign_55 (by decide) (fun b143 => ?_) (fun b143 => ?_)
      · have b143 := zi_eq b143 (rfl : j108.toInt = j108.toInt) (zl_0 : (0 : Int32).toInt = 0)
        refine lv_iload_n hx hb dX6_splitSign_63 rfl (lv_at hl 2 rfl) ?_
        exact J64 ls x102 (⟨by omega, by omega⟩) (lv_sub hl [0, 1, 2, 3, 4] rfl)
      · have b143 := zi_ne b143 (rfl : j108.toInt = j108.toInt) (zl_0 : (0 : Int32).toInt = 0)
        refine lv_iload hx hb dX6_splitSign_58 (lv_at hl 0 rfl) ?_
        refine lv_goto (tgt := 64) hx hb dX6_splitSign_60 (by decide) ?_
        exact J64 ls j118 (⟨by omega, by omega⟩) (lv_sub hl [0, 1, 2, 3, 4] rfl)
    refine lv_icmp_ne (tgt := 48) hx hb dX6_splitSign_39 (by decide) (fun b144 => ?_) (fun b144 => ?_)
    · have b144 := zi_ne b144 (rfl : x102.toInt = x102.toInt) (zl_60 : (60 : Int32).toInt = 60)
      refine lv_sipush (v := 257) hx hb dX6_splitSign_48 (by decide +kernel) ?_
      exact J51 ls (257 : Int32) (by rw [zl_257]; decide) (lv_sub hl [0, 1, 2, 3] rfl)
    · have b144 := zi_eq b144 (rfl : x102.toInt = x102.toInt) (zl_60 : (60 : Int32).toInt = 60)
      refine lv_sipush (v := 256) hx hb dX6_splitSign_42 (by decide +kernel) ?_
      refine lv_goto (tgt := 51) hx hb dX6_splitSign_45 (by decide) ?_
      exact J51 ls (256 : Int32) (by rw [zl_256]; decide) (lv_sub hl [0, 1, 2, 3] rfl)
  have J34 : ∀ (H : Heap) (locs : List Loc) (ls : Array Slot), (zq_hm X (zk, zn) I H) → (va_S (zq_A X) s.heap H locs) → (lv_has ls 5 [(2, .int x102), (0, .ref h0), (1, .int p1)]) → W p l e R s m args below meth c H locs 0 0 Q (F0 m 34 ls []) := by
    intro H locs ls hM hS hl
    refine lv_iconst (v := 0) hx hb dX6_splitSign_34 (by decide +kernel) ?_
    exact J35 H locs ls (0 : Int32) hM hS (by rw [zl_0]; decide) (lv_sub hl [0, 1, 2] rfl)
  have J18 : ∀ (ls : Array Slot), (60 ≤ x102.toInt ∧ x102.toInt ≤ 62) → (lv_has ls 5 [(2, .int x102), (0, .ref h0), (1, .int p1)]) → W p l e R s m args below meth c H locs 0 0 Q (F0 m 18 ls []) := by
    intro ls gm145 hl
    refine lv_aload_n hx hb dX6_splitSign_18 rfl (lv_at hl 1 rfl) ?_
    refine lv_iload_n hx hb dX6_splitSign_19 rfl (lv_at hl 2 rfl) ?_
    refine lv_iconst (v := 1) hx hb dX6_splitSign_20 (by decide +kernel) ?_
    refine lv_iadd hx hb dX6_splitSign_21 ?_
    refine lv_topi (fun x146 ex146 => ?_)
    have tx146 := zi_add ex146 (rfl : p1.toInt = p1.toInt) (zl_1 : (1 : Int32).toInt = 1) ⟨by omega, by omega⟩
    refine zq_pcalli (zq_rV (As := [.int x146]) (rest := []) E hZ hM k_h0 (c_X6_byteAt l X zk (zn) I L h0 k_h0 x146) zmX6_55 zM_X6_byteAt (hro (0) 2 (by first | decide | omega) (by decide)) ⟨by decide, by decide⟩ rfl hl.1 rfl rfl (Nat.le_of_ble_eq_true rfl) dX6_splitSign_22) hS (fun x148 H locs h147 hM hS => ?_)
    have p149 := h147
    refine lv_bipush (v := 61) hx hb dX6_splitSign_25 (by decide +kernel) ?_
    refine lv_icmp_ne (tgt := 34) hx hb dX6_splitSign_27 (by decide) (fun b150 => ?_) (fun b150 => ?_)
    · have b150 := zi_ne b150 (rfl : x148.toInt = x148.toInt) (zl_61 : (61 : Int32).toInt = 61)
      exact J34 H locs ls hM hS (lv_sub hl [0, 1, 2] rfl)
    · have b150 := zi_eq b150 (rfl : x148.toInt = x148.toInt) (zl_61 : (61 : Int32).toInt = 61)
      refine lv_iconst (v := 1) hx hb dX6_splitSign_30 (by decide +kernel) ?_
      refine lv_goto (tgt := 35) hx hb dX6_splitSign_31 (by decide) ?_
      exact J35 H locs ls (1 : Int32) hM hS (by rw [zl_1]; decide) (lv_sub hl [0, 1, 2] rfl)
  refine lv_icmp_eq (tgt := 18) hx hb dX6_splitSign_9 (by decide) (fun b151 => ?_) (fun b151 => ?_)
  · have b151 := zi_eq b151 (rfl : x102.toInt = x102.toInt) (zl_60 : (60 : Int32).toInt = 60)
    exact J18 ls (⟨by omega, by omega⟩) (lv_sub hl [0, 1, 2] rfl)
  · have b151 := zi_ne b151 (rfl : x102.toInt = x102.toInt) (zl_60 : (60 : Int32).toInt = 60)
    refine lv_iload_n hx hb dX6_splitSign_12 rfl (lv_at hl 0 rfl) ?_
    refine lv_bipush (v := 62) hx hb dX6_splitSign_13 (by decide +kernel) ?_
    refine lv_icmp_ne (tgt := 34) hx hb dX6_splitSign_15 (by decide) (fun b152 => ?_) (fun b152 => ?_)
    · have b152 := zi_ne b152 (rfl : x102.toInt = x102.toInt) (zl_62 : (62 : Int32).toInt = 62)
      exact J34 H locs ls hM hS (lv_sub hl [0, 1, 2] rfl)
    · have b152 := zi_eq b152 (rfl : x102.toInt = x102.toInt) (zl_62 : (62 : Int32).toInt = 62)
      exact J18 ls (⟨by omega, by omega⟩) (lv_sub hl [0, 1, 2] rfl)
def zw_X6_split : List (Nat × Nat) := [(6, 7), (6, 8), (6, 9), (22, 999), (43, 999)]
set_option maxHeartbeats 8000000 in
set_option maxRecDepth 100000 in
theorem c_X6_split (l : Launch) (X : zq_X) (zk zn : Nat) (I : zq_M) (L : zq_L X)  (h0 : Nat) (k_h0 : zq_k X h0 = 6)  : Met l yX6_split (zt_w yX6_split cX6_split 4 none) (zq_rm (6)) (va_Pc [.ref h0] (zq_W X (zk, zn) I)) (va_Qv (fun I2 => zq_fr (zf X zw_X6_split (fun _ => False)) I I2 ∧ ((I2 h0 9).toInt = 0)) (zq_E X (zk, zn)) (zq_A X)) 0 0 (zq_A X) := by
  refine Met.ofW (cc := cX6_split) (maxL := 4) (ret := none) (by decide) rfl ?_
  intro p e s m args below meth c s₁ B hml hv
  obtain ⟨hargs, hM, hZ⟩ := hv
  have hown : s.vm.findClass RX6 = some m.cls := findClass_of_methodNamed B.named
  have hts := atoms_spec (ws := zt_w yX6_split cX6_split 4 none) B.pre
  have E : CallFix p m c cX6_split 4 s args (Cond.code yX6_split cX6_split 4 none :: zt) RX6 := ⟨B.exec, B.bytes, hml, hown, hts⟩
  have hx := B.exec
  have hb := B.bytes
  have hr := B.returns
  have hlocks := B.notSynchronized
  clear B
  have hS : va_S (zq_A X) s.heap s.heap [] := va_S.rf
  have hR : zq_fr (zf X zw_X6_split (fun _ => False)) I I := zq_fr.rf
  have hl := lv_entry ([.ref h0]) (n := 4) (by exact Nat.le_of_ble_eq_true rfl)
  have hg : entryFrame m args 4 = F0 m 0 ((lg_sl ([.ref h0]) ++ List.replicate (4 - (lg_sl ([.ref h0])).length) Slot.unset).toArray) [] := by rw [hargs]; exact lg_entry_eq m ([.ref h0]) 4
  rw [hg]
  clear hg hargs
  generalize (lg_sl ([.ref h0]) ++ List.replicate (4 - (lg_sl ([.ref h0])).length) Slot.unset).toArray = ls at hl ⊢
  have hl : lv_has ls 4 [(0, .ref h0)] := by exact hl
  obtain ⟨R, hRm⟩ : ∃ R : Room, R = (headSpec (zt_w yX6_split cX6_split 4 none) (zq_rm (6))).room := ⟨_, rfl⟩
  rw [← hRm]
  have hro : ∀ d q : Nat, d + 1 ≤ 6 → q ≤ 45 → zq_rok d q R := fun d q h1 h2 => by rw [hRm]; exact zq_rokI h1 h2
  generalize hQ : MQ below _ args s 0 0 (zq_A X) = Q
  obtain ⟨H, hH⟩ : ∃ H, H = s.heap := ⟨_, rfl⟩
  obtain ⟨locs, hlo⟩ : ∃ x : List Loc, x = [] := ⟨_, rfl⟩
  rw [show W p l e R s m args below meth c s.heap [] 0 0 Q = W p l e R s m args below meth c H locs 0 0 Q by rw [hH, hlo]]
  have hM : zq_hm X (zk, zn) I H := by rw [hH]; exact hM
  have hS : va_S (zq_A X) s.heap H locs := by rw [hH, hlo]; exact hS
  clear hH hlo
  refine lv_aload_n hx hb dX6_split_0 rfl (lv_at hl 0 rfl) ?_
  refine lv_iconst (v := 0) hx hb dX6_split_1 (by decide +kernel) ?_
  refine zq_pn E hM hS k_h0 (zGX6_46 E hZ) ⟨by decide, by decide, by decide, rfl⟩ (zq_any _) dX6_split_2 (fun I101 H locs eI101 hM hS => ?_)
  have hR := zq_fr.putE hR eI101 (zf_i k_h0 rfl rfl)
  have hK9 : I101 h0 9 = (0 : Int32) := (zq_kv eI101)
  refine lv_aload_n hx hb dX6_split_5 rfl (lv_at hl 0 rfl) ?_
  refine lv_iconst (v := 0) hx hb dX6_split_6 (by decide +kernel) ?_
  refine zq_pn E hM hS k_h0 (zGX6_49 E hZ) ⟨by decide, by decide, by decide, rfl⟩ (show 0 ≤ (0 : Int32).toInt ∧ (0 : Int32).toInt ≤ 401 by decide +kernel) dX6_split_7 (fun I102 H locs eI102 hM hS => ?_)
  have hR := zq_fr.putE hR eI102 (zf_i k_h0 rfl rfl)
  have hK103 := (zq_kp eI102 (Or.inr (by decide)) hK9)
  refine lv_aload_n hx hb dX6_split_10 rfl (lv_at hl 0 rfl) ?_
  refine lv_iconst (v := 0) hx hb dX6_split_11 (by decide +kernel) ?_
  refine zq_pn E hM hS k_h0 (zGX6_52 E hZ) ⟨by decide, by decide, by decide, rfl⟩ (show 0 ≤ (0 : Int32).toInt ∧ (0 : Int32).toInt ≤ 401 by decide +kernel) dX6_split_12 (fun I104 H locs eI104 hM hS => ?_)
  have hR := zq_fr.putE hR eI104 (zf_i k_h0 rfl rfl)
  have hK105 := (zq_kp eI104 (Or.inr (by decide)) hK103)
  refine W.eq (g2 := F0 m 15 ls []) rfl ?_
  refine lv_iconst (v := 0) hx hb dX6_split_15 (by decide +kernel) ?_
  refine lv_istore_n (lv' := [(1, .int (0 : Int32)), (0, .ref h0)]) hx hb dX6_split_16 rfl hl (by decide) rfl (fun ls hl => ?_)
  have J17 : ∀ (n199 : Nat) (I197 : zq_M) (H : Heap) (locs : List Loc) (ls : Array Slot) (j196 : Int32), 401 + 1 - j196.toInt ≤ ((n199 : Nat) : Int) → (zq_hm X (zk, zn) I197 H) → (va_S (zq_A X) s.heap H locs) → (zq_fr (zf X zw_X6_split (fun _ => False)) I I197) → (0 ≤ j196.toInt ∧ j196.toInt ≤ 401) → (I197 h0 9 = (0 : Int32)) → (lv_has ls 4 [(1, .int j196), (0, .ref h0)]) → W p l e R s m args below meth c H locs 0 0 Q (F0 m 17 ls []) := by
    intro n199
    induction n199 with
    | zero => intro I197 H locs ls j196 mu200 hM hS hR gj196 F198 hl; exfalso; have := zi_rng j196; omega
    | succ n199 ih17 =>
      intro I197 H locs ls j196 mu200 hM hS hR gj196 F198 hl
      refine lv_iload_n hx hb dX6_split_17 rfl (lv_at hl 0 rfl) ?_
      refine lv_aload_n hx hb dX6_split_18 rfl (lv_at hl 1 rfl) ?_
      refine zq_gn E hM k_h0 (zFX6_42 E hZ) (Or.inl ⟨by decide, by decide, by decide, rfl⟩) dX6_split_19 (fun x201 ex201 gx201 => ?_)
      replace gx201 : 0 ≤ x201.toInt ∧ x201.toInt ≤ 400 := gx201
      refine lv_icmp_ge (tgt := 90) hx hb dX6_split_22 (by decide) (fun b202 => ?_) (fun b202 => ?_)
      · have b202 := zi_le b202 (rfl : x201.toInt = x201.toInt) (rfl : j196.toInt = j196.toInt)
        refine lv_aload_n hx hb dX6_split_90 rfl (lv_at hl 1 rfl) ?_
        refine lv_iconst (v := (-1)) hx hb dX6_split_91 (by decide +kernel) ?_
        refine lv_aload_n hx hb dX6_split_92 rfl (lv_at hl 1 rfl) ?_
        refine zq_gk (v := x201) E hM k_h0 (zFX6_42 E hZ) (Or.inl ⟨by decide, by decide, by decide, rfl⟩) ex201 dX6_split_93 ?_
        refine lv_iconst (v := (-1)) hx hb dX6_split_96 (by decide +kernel) ?_
        refine zq_getw (nm := "OTHER") E hZ hM (by decide) (List.mem_cons_of_mem _ zLX6_38) dX6_split_97 (fun w203 kw203 => ?_)
        refine zq_callv (zq_rV (As := [.int (-1 : Int32), .int x201, .int (-1 : Int32), .ref w203]) (rest := []) E hZ hM k_h0 (c_X6_addToken l X zk (zn) I197 L h0 k_h0 (-1 : Int32) x201 (-1 : Int32) w203 kw203 ⟨by omega, by omega⟩) zmX6_81 zM_X6_addToken (hro (0) 5 (by first | decide | omega) (by decide)) ⟨by decide, by decide⟩ rfl hl.1 rfl rfl (Nat.le_of_ble_eq_true rfl) dX6_split_100) hS (fun I206 H locs h204 hM hS => ?_)
        have fr207 := h204
        have := zl_m1
        have hR := zq_fr.call hR fr207 (zf_sub (by decide +kernel) (fun _ _ q => q.elim))
        have hK208 := (zq_fr.kp fr207 (zf_n k_h0 rfl) F198)
        subst hQ
        exact zq_vret E hr hZ hM hS ⟨hR, (by rw [hK208]; exact zl_0)⟩ hlocks dX6_split_103
      · have b202 := zi_nle b202 (rfl : x201.toInt = x201.toInt) (rfl : j196.toInt = j196.toInt)
        refine lv_aload_n hx hb dX6_split_25 rfl (lv_at hl 1 rfl) ?_
        refine lv_iload_n hx hb dX6_split_26 rfl (lv_at hl 0 rfl) ?_
        refine zq_pcalli (zq_rV (As := [.int j196]) (rest := []) E hZ hM k_h0 (c_X6_byteAt l X zk (zn) I197 L h0 k_h0 j196) zmX6_55 zM_X6_byteAt (hro (0) 2 (by first | decide | omega) (by decide)) ⟨by decide, by decide⟩ rfl hl.1 rfl rfl (Nat.le_of_ble_eq_true rfl) dX6_split_27) hS (fun x210 H locs h209 hM hS => ?_)
        have p211 := h209
        refine lv_istore_n (lv' := [(2, .int x210), (1, .int j196), (0, .ref h0)]) hx hb dX6_split_30 rfl hl (by decide) rfl (fun ls hl => ?_)
        refine lv_iload_n hx hb dX6_split_31 rfl (lv_at hl 1 rfl) ?_
        refine lv_iconst (v := 1) hx hb dX6_split_32 (by decide +kernel) ?_
        refine lv_iadd hx hb dX6_split_33 ?_
        refine lv_topi (fun x212 ex212 => ?_)
        have tx212 := zi_add ex212 (rfl : j196.toInt = j196.toInt) (zl_1 : (1 : Int32).toInt = 1) ⟨by omega, by omega⟩
        refine lv_istore_n (lv' := [(3, .int x212), (2, .int x210), (1, .int j196), (0, .ref h0)]) hx hb dX6_split_34 rfl hl (by decide) rfl (fun ls hl => ?_)
        refine lv_iload_n hx hb dX6_split_35 rfl (lv_at hl 1 rfl) ?_
        refine W.eq (g2 := F0 m 36 ls [.int x210]) rfl ?_
        refine zq_pcalli (zq_rS (As := [.int x210]) (rest := []) E hZ hM (c_X6_isDigit l X zk (zn) I197 L x210) zmX6_59 zM_X6_isDigit (hro (0) 1 (by first | decide | omega) (by decide)) hl.1 rfl rfl (Nat.le_of_ble_eq_true rfl) dX6_split_36) hS (fun x214 H locs h213 hM hS => ?_)
        have p215 := h213
        have J79 : ∀ (I238 : zq_M) (H : Heap) (locs : List Loc) (ls : Array Slot) (j237 : Int32), (zq_hm X (zk, zn) I238 H) → (va_S (zq_A X) s.heap H locs) → (zq_fr (zf X zw_X6_split (fun _ => False)) I I238) → (0 ≤ j237.toInt ∧ j237.toInt ≤ 401) → (I238 h0 9 = (0 : Int32)) → (lv_has ls 4 [(3, .int j237), (2, .int x210), (1, .int j196), (0, .ref h0)]) → W p l e R s m args below meth c H locs 0 0 Q (F0 m 79 ls []) := by
          intro I238 H locs ls j237 hM hS hR gj237 F239 hl
          refine lv_iload_n hx hb dX6_split_79 rfl (lv_at hl 0 rfl) ?_
          refine lv_iload_n hx hb dX6_split_80 rfl (lv_at hl 2 rfl) ?_
          refine lv_iconst (v := 1) hx hb dX6_split_81 (by decide +kernel) ?_
          refine lv_iadd hx hb dX6_split_82 ?_
          refine lv_topi (fun x244 ex244 => ?_)
          have tx244 := zi_add ex244 (rfl : j196.toInt = j196.toInt) (zl_1 : (1 : Int32).toInt = 1) ⟨by omega, by omega⟩
          refine zq_pcalli (zq_rS (As := [.int j237, .int x244]) (rest := []) E hZ hM (c_J9_max_7cf53 l X zk (zn) I238 L j237 x244) zmX6_75 zM_J9_max_7cf53 (hro (0) 2 (by first | decide | omega) (by decide)) hl.1 rfl rfl (Nat.le_of_ble_eq_true rfl) dX6_split_83) hS (fun x246 H locs h245 hM hS => ?_)
          have p247 := h245
          refine lv_istore_n (lv' := [(1, .int x246), (3, .int j237), (2, .int x210), (0, .ref h0)]) hx hb dX6_split_86 rfl hl (by decide) rfl (fun ls hl => ?_)
          refine lv_goto (tgt := 17) hx hb dX6_split_87 (by decide) ?_
          exact ih17 I238 H locs ls x246 (by omega) hM hS hR (⟨by omega, by omega⟩) F239 (lv_sub hl [0, 3] rfl)
        refine lv_if_eq (tgt := 51) hx hb dX6_split_39 (by decide) (fun b248 => ?_) (fun b248 => ?_)
        · have b248 := zi_eq b248 (rfl : x214.toInt = x214.toInt) (zl_0 : (0 : Int32).toInt = 0)
          refine lv_iload_n hx hb dX6_split_51 rfl (lv_at hl 1 rfl) ?_
          refine zq_pcalli (zq_rS (As := [.int x210]) (rest := []) E hZ hM (c_X6_isLetter l X zk (zn) I197 L x210) zmX6_66 zM_X6_isLetter (hro (0) 1 (by first | decide | omega) (by decide)) hl.1 rfl rfl (Nat.le_of_ble_eq_true rfl) dX6_split_52) hS (fun x250 H locs h249 hM hS => ?_)
          have p251 := h249
          refine lv_if_eq (tgt := 67) hx hb dX6_split_55 (by decide) (fun b252 => ?_) (fun b252 => ?_)
          · have b252 := zi_eq b252 (rfl : x250.toInt = x250.toInt) (zl_0 : (0 : Int32).toInt = 0)
            refine lv_iload_n hx hb dX6_split_67 rfl (lv_at hl 1 rfl) ?_
            refine lv_bipush (v := 32) hx hb dX6_split_68 (by decide +kernel) ?_
            refine lv_icmp_eq (tgt := 79) hx hb dX6_split_70 (by decide) (fun b253 => ?_) (fun b253 => ?_)
            · have b253 := zi_eq b253 (rfl : x210.toInt = x210.toInt) (zl_32 : (32 : Int32).toInt = 32)
              exact J79 I197 H locs ls x212 hM hS hR (⟨by omega, by omega⟩) F198 (lv_sub hl [0, 1, 2, 3] rfl)
            · have b253 := zi_ne b253 (rfl : x210.toInt = x210.toInt) (zl_32 : (32 : Int32).toInt = 32)
              refine lv_aload_n hx hb dX6_split_73 rfl (lv_at hl 3 rfl) ?_
              refine lv_iload_n hx hb dX6_split_74 rfl (lv_at hl 2 rfl) ?_
              refine zq_calli (zq_rV (As := [.int j196]) (rest := []) E hZ hM k_h0 (c_X6_splitSign l X zk (zn) I197 L h0 k_h0 j196 ⟨by omega, by omega⟩) zmX6_72 zM_X6_splitSign (hro (1) 5 (by first | decide | omega) (by decide)) ⟨by decide, by decide⟩ rfl hl.1 rfl rfl (Nat.le_of_ble_eq_true rfl) dX6_split_75) hS (fun x255 I256 H locs h254 hM hS => ?_)
              obtain ⟨fr257, p258⟩ := h254
              have hR := zq_fr.call hR fr257 (zf_sub (by decide +kernel) (fun _ _ q => q.elim))
              have hK259 := (zq_fr.kp fr257 (zf_n k_h0 rfl) F198)
              refine lv_istore_n (lv' := [(3, .int x255), (2, .int x210), (1, .int j196), (0, .ref h0)]) hx hb dX6_split_78 rfl hl (by decide) rfl (fun ls hl => ?_)
              exact J79 I256 H locs ls x255 hM hS hR (⟨by omega, by omega⟩) hK259 (lv_sub hl [0, 1, 2, 3] rfl)
          · have b252 := zi_ne b252 (rfl : x250.toInt = x250.toInt) (zl_0 : (0 : Int32).toInt = 0)
            refine lv_aload_n hx hb dX6_split_58 rfl (lv_at hl 3 rfl) ?_
            refine lv_iload_n hx hb dX6_split_59 rfl (lv_at hl 2 rfl) ?_
            refine zq_calli (zq_rV (As := [.int j196]) (rest := []) E hZ hM k_h0 (c_X6_splitWord l X zk (zn) I197 L h0 k_h0 j196 ⟨by omega, by omega⟩) zmX6_69 zM_X6_splitWord (hro (5) 5 (by first | decide | omega) (by decide)) ⟨by decide, by decide⟩ rfl hl.1 rfl rfl (Nat.le_of_ble_eq_true rfl) dX6_split_60) hS (fun x261 I262 H locs h260 hM hS => ?_)
            obtain ⟨fr263, p264⟩ := h260
            have hR := zq_fr.call hR fr263 (zf_sub (by decide +kernel) (fun _ _ q => q.elim))
            have hK265 := (zq_fr.kp fr263 (zf_n k_h0 rfl) F198)
            refine lv_istore_n (lv' := [(3, .int x261), (2, .int x210), (1, .int j196), (0, .ref h0)]) hx hb dX6_split_63 rfl hl (by decide) rfl (fun ls hl => ?_)
            refine lv_goto (tgt := 79) hx hb dX6_split_64 (by decide) ?_
            exact J79 I262 H locs ls x261 hM hS hR (⟨by omega, by omega⟩) hK265 (lv_sub hl [0, 1, 2, 3] rfl)
        · have b248 := zi_ne b248 (rfl : x214.toInt = x214.toInt) (zl_0 : (0 : Int32).toInt = 0)
          refine lv_aload_n hx hb dX6_split_42 rfl (lv_at hl 3 rfl) ?_
          refine lv_iload_n hx hb dX6_split_43 rfl (lv_at hl 2 rfl) ?_
          refine zq_calli (zq_rV (As := [.int j196]) (rest := []) E hZ hM k_h0 (c_X6_splitNumber l X zk (zn) I197 L h0 k_h0 j196 ⟨by omega, by omega⟩) zmX6_63 zM_X6_splitNumber (hro (1) 4 (by first | decide | omega) (by decide)) ⟨by decide, by decide⟩ rfl hl.1 rfl rfl (Nat.le_of_ble_eq_true rfl) dX6_split_44) hS (fun x267 I268 H locs h266 hM hS => ?_)
          obtain ⟨fr269, p270⟩ := h266
          have hR := zq_fr.call hR fr269 (zf_sub (by decide +kernel) (fun _ _ q => q.elim))
          have hK271 := (zq_fr.kp fr269 (zf_n k_h0 rfl) F198)
          refine lv_istore_n (lv' := [(3, .int x267), (2, .int x210), (1, .int j196), (0, .ref h0)]) hx hb dX6_split_47 rfl hl (by decide) rfl (fun ls hl => ?_)
          refine lv_goto (tgt := 79) hx hb dX6_split_48 (by decide) ?_
          exact J79 I268 H locs ls x267 hM hS hR (⟨by omega, by omega⟩) hK271 (lv_sub hl [0, 1, 2, 3] rfl)
  exact J17 (401 + 1 - (0 : Int32).toInt).toNat I104 H locs ls (0 : Int32) (by omega) hM hS hR (by rw [zl_0]; decide) hK105 (lv_sub hl [0, 1] rfl)
set_option maxHeartbeats 8000000 in
set_option maxRecDepth 100000 in
theorem c_X6_kind (l : Launch) (X : zq_X) (zk zn : Nat) (I : zq_M) (L : zq_L X)  (h0 : Nat) (k_h0 : zq_k X h0 = 6)  : Met l yX6_kind (zt_w yX6_kind cX6_kind 1 (some .int)) (zq_rm (0)) (va_Pc [.ref h0] (zq_W X (zk, zn) I)) (va_Qi (fun (r : Int32) I2 => I2 = I ∧ True) (zq_E X (zk, zn)) (zq_A X)) 0 0 (zq_A X) := by
  refine Met.ofW (cc := cX6_kind) (maxL := 1) (ret := (some .int)) (by decide) rfl ?_
  intro p e s m args below meth c s₁ B hml hv
  obtain ⟨hargs, hM, hZ⟩ := hv
  have hown : s.vm.findClass RX6 = some m.cls := findClass_of_methodNamed B.named
  have hts := atoms_spec (ws := zt_w yX6_kind cX6_kind 1 (some .int)) B.pre
  have E : CallFix p m c cX6_kind 1 s args (Cond.code yX6_kind cX6_kind 1 (some .int) :: zt) RX6 := ⟨B.exec, B.bytes, hml, hown, hts⟩
  have hx := B.exec
  have hb := B.bytes
  have hr := B.returns
  have hlocks := B.notSynchronized
  clear B
  have hS : va_S (zq_A X) s.heap s.heap [] := va_S.rf
  have hl := lv_entry ([.ref h0]) (n := 1) (by exact Nat.le_of_ble_eq_true rfl)
  have hg : entryFrame m args 1 = F0 m 0 ((lg_sl ([.ref h0]) ++ List.replicate (1 - (lg_sl ([.ref h0])).length) Slot.unset).toArray) [] := by rw [hargs]; exact lg_entry_eq m ([.ref h0]) 1
  rw [hg]
  clear hg hargs
  generalize (lg_sl ([.ref h0]) ++ List.replicate (1 - (lg_sl ([.ref h0])).length) Slot.unset).toArray = ls at hl ⊢
  have hl : lv_has ls 1 [(0, .ref h0)] := by exact hl
  obtain ⟨R, hRm⟩ : ∃ R : Room, R = (headSpec (zt_w yX6_kind cX6_kind 1 (some .int)) (zq_rm (0))).room := ⟨_, rfl⟩
  rw [← hRm]
  generalize hQ : MQ below _ args s 0 0 (zq_A X) = Q
  obtain ⟨H, hH⟩ : ∃ H, H = s.heap := ⟨_, rfl⟩
  obtain ⟨locs, hlo⟩ : ∃ x : List Loc, x = [] := ⟨_, rfl⟩
  rw [show W p l e R s m args below meth c s.heap [] 0 0 Q = W p l e R s m args below meth c H locs 0 0 Q by rw [hH, hlo]]
  have hM : zq_hm X (zk, zn) I H := by rw [hH]; exact hM
  have hS : va_S (zq_A X) s.heap H locs := by rw [hH, hlo]; exact hS
  clear hH hlo
  refine lv_aload_n hx hb dX6_kind_0 rfl (lv_at hl 0 rfl) ?_
  refine zq_gn E hM k_h0 (zFX6_49 E hZ) (Or.inl ⟨by decide, by decide, by decide, rfl⟩) dX6_kind_1 (fun x101 ex101 gx101 => ?_)
  replace gx101 : 0 ≤ x101.toInt ∧ x101.toInt ≤ 401 := gx101
  refine lv_aload_n hx hb dX6_kind_4 rfl (lv_at hl 0 rfl) ?_
  refine zq_gn E hM k_h0 (zFX6_52 E hZ) (Or.inl ⟨by decide, by decide, by decide, rfl⟩) dX6_kind_5 (fun x102 ex102 gx102 => ?_)
  replace gx102 : 0 ≤ x102.toInt ∧ x102.toInt ≤ 401 := gx102
  refine lv_icmp_ge (tgt := 23) hx hb dX6_kind_8 (by decide) (fun b103 => ?_) (fun b103 => ?_)
  · have b103 := zi_le b103 (rfl : x102.toInt = x102.toInt) (rfl : x101.toInt = x101.toInt)
    refine lv_iconst (v := (-1)) hx hb dX6_kind_23 (by decide +kernel) ?_
    subst hQ
    exact zq_iret E hr hZ hM hS ⟨rfl, trivial⟩ hlocks dX6_kind_24
  · have b103 := zi_nle b103 (rfl : x102.toInt = x102.toInt) (rfl : x101.toInt = x101.toInt)
    refine lv_aload_n hx hb dX6_kind_11 rfl (lv_at hl 0 rfl) ?_
    refine zq_getr E hM k_h0 (zFX6_25 E hZ) ⟨by decide, by decide, by decide, rfl⟩ dX6_kind_12 ?_
    have k104 : zq_k X (zq_r X h0 3) = 22 := zq_lk L.1 k_h0 rfl (by decide)
    refine lv_aload_n hx hb dX6_kind_15 rfl (lv_at hl 0 rfl) ?_
    refine zq_gk (v := x101) E hM k_h0 (zFX6_49 E hZ) (Or.inl ⟨by decide, by decide, by decide, rfl⟩) ex101 dX6_kind_16 ?_
    refine zq_ian (n := 401) (j := (x101.toNatClampNeg)) E hZ hM k104 ⟨by decide, rfl⟩ ⟨by omega, by omega⟩ rfl dX6_kind_19 (fun x105 ex105 gx105 => ?_)
    clear gx105
    refine lv_goto (tgt := 24) hx hb dX6_kind_20 (by decide) ?_
    subst hQ
    exact zq_iret E hr hZ hM hS ⟨rfl, trivial⟩ hlocks dX6_kind_24
set_option maxHeartbeats 8000000 in
set_option maxRecDepth 100000 in
theorem c_X6_number (l : Launch) (X : zq_X) (zk zn : Nat) (I : zq_M) (L : zq_L X)  (h0 : Nat) (k_h0 : zq_k X h0 = 6)  : Met l yX6_number (zt_w yX6_number cX6_number 1 (some .int)) (zq_rm (0)) (va_Pc [.ref h0] (zq_W X (zk, zn) I)) (va_Qi (fun (r : Int32) I2 => I2 = I ∧ True) (zq_E X (zk, zn)) (zq_A X)) 0 0 (zq_A X) := by
  refine Met.ofW (cc := cX6_number) (maxL := 1) (ret := (some .int)) (by decide) rfl ?_
  intro p e s m args below meth c s₁ B hml hv
  obtain ⟨hargs, hM, hZ⟩ := hv
  have hown : s.vm.findClass RX6 = some m.cls := findClass_of_methodNamed B.named
  have hts := atoms_spec (ws := zt_w yX6_number cX6_number 1 (some .int)) B.pre
  have E : CallFix p m c cX6_number 1 s args (Cond.code yX6_number cX6_number 1 (some .int) :: zt) RX6 := ⟨B.exec, B.bytes, hml, hown, hts⟩
  have hx := B.exec
  have hb := B.bytes
  have hr := B.returns
  have hlocks := B.notSynchronized
  clear B
  have hS : va_S (zq_A X) s.heap s.heap [] := va_S.rf
  have hl := lv_entry ([.ref h0]) (n := 1) (by exact Nat.le_of_ble_eq_true rfl)
  have hg : entryFrame m args 1 = F0 m 0 ((lg_sl ([.ref h0]) ++ List.replicate (1 - (lg_sl ([.ref h0])).length) Slot.unset).toArray) [] := by rw [hargs]; exact lg_entry_eq m ([.ref h0]) 1
  rw [hg]
  clear hg hargs
  generalize (lg_sl ([.ref h0]) ++ List.replicate (1 - (lg_sl ([.ref h0])).length) Slot.unset).toArray = ls at hl ⊢
  have hl : lv_has ls 1 [(0, .ref h0)] := by exact hl
  obtain ⟨R, hRm⟩ : ∃ R : Room, R = (headSpec (zt_w yX6_number cX6_number 1 (some .int)) (zq_rm (0))).room := ⟨_, rfl⟩
  rw [← hRm]
  generalize hQ : MQ below _ args s 0 0 (zq_A X) = Q
  obtain ⟨H, hH⟩ : ∃ H, H = s.heap := ⟨_, rfl⟩
  obtain ⟨locs, hlo⟩ : ∃ x : List Loc, x = [] := ⟨_, rfl⟩
  rw [show W p l e R s m args below meth c s.heap [] 0 0 Q = W p l e R s m args below meth c H locs 0 0 Q by rw [hH, hlo]]
  have hM : zq_hm X (zk, zn) I H := by rw [hH]; exact hM
  have hS : va_S (zq_A X) s.heap H locs := by rw [hH, hlo]; exact hS
  clear hH hlo
  refine lv_aload_n hx hb dX6_number_0 rfl (lv_at hl 0 rfl) ?_
  refine zq_gn E hM k_h0 (zFX6_49 E hZ) (Or.inl ⟨by decide, by decide, by decide, rfl⟩) dX6_number_1 (fun x101 ex101 gx101 => ?_)
  replace gx101 : 0 ≤ x101.toInt ∧ x101.toInt ≤ 401 := gx101
  refine lv_aload_n hx hb dX6_number_4 rfl (lv_at hl 0 rfl) ?_
  refine zq_gn E hM k_h0 (zFX6_52 E hZ) (Or.inl ⟨by decide, by decide, by decide, rfl⟩) dX6_number_5 (fun x102 ex102 gx102 => ?_)
  replace gx102 : 0 ≤ x102.toInt ∧ x102.toInt ≤ 401 := gx102
  refine lv_icmp_ge (tgt := 23) hx hb dX6_number_8 (by decide) (fun b103 => ?_) (fun b103 => ?_)
  · have b103 := zi_le b103 (rfl : x102.toInt = x102.toInt) (rfl : x101.toInt = x101.toInt)
    refine lv_iconst (v := (-1)) hx hb dX6_number_23 (by decide +kernel) ?_
    subst hQ
    exact zq_iret E hr hZ hM hS ⟨rfl, trivial⟩ hlocks dX6_number_24
  · have b103 := zi_nle b103 (rfl : x102.toInt = x102.toInt) (rfl : x101.toInt = x101.toInt)
    refine lv_aload_n hx hb dX6_number_11 rfl (lv_at hl 0 rfl) ?_
    refine zq_getr E hM k_h0 (zFX6_32 E hZ) ⟨by decide, by decide, by decide, rfl⟩ dX6_number_12 ?_
    have k104 : zq_k X (zq_r X h0 5) = 22 := zq_lk L.1 k_h0 rfl (by decide)
    refine lv_aload_n hx hb dX6_number_15 rfl (lv_at hl 0 rfl) ?_
    refine zq_gk (v := x101) E hM k_h0 (zFX6_49 E hZ) (Or.inl ⟨by decide, by decide, by decide, rfl⟩) ex101 dX6_number_16 ?_
    refine zq_ian (n := 401) (j := (x101.toNatClampNeg)) E hZ hM k104 ⟨by decide, rfl⟩ ⟨by omega, by omega⟩ rfl dX6_number_19 (fun x105 ex105 gx105 => ?_)
    clear gx105
    refine lv_goto (tgt := 24) hx hb dX6_number_20 (by decide) ?_
    subst hQ
    exact zq_iret E hr hZ hM hS ⟨rfl, trivial⟩ hlocks dX6_number_24
set_option maxHeartbeats 8000000 in
set_option maxRecDepth 100000 in
theorem c_X6_word (l : Launch) (X : zq_X) (zk zn : Nat) (I : zq_M) (L : zq_L X)  (h0 : Nat) (k_h0 : zq_k X h0 = 6)  : Met l yX6_word (zt_w yX6_word cX6_word 1 (some (.object "PondIceTrade$Word"))) (zq_rm (0)) (va_Pc [.ref h0] (zq_W X (zk, zn) I)) (va_Qr (fun I2 => I2 = I ∧ True) (fun I2 r t => zq_E X (zk, zn) I2 t ∧ zq_k X r = 12) (zq_A X)) 0 0 (zq_A X) := by
  refine Met.ofW (cc := cX6_word) (maxL := 1) (ret := (some (.object "PondIceTrade$Word"))) (by decide) rfl ?_
  intro p e s m args below meth c s₁ B hml hv
  obtain ⟨hargs, hM, hZ⟩ := hv
  have hown : s.vm.findClass RX6 = some m.cls := findClass_of_methodNamed B.named
  have hts := atoms_spec (ws := zt_w yX6_word cX6_word 1 (some (.object "PondIceTrade$Word"))) B.pre
  have E : CallFix p m c cX6_word 1 s args (Cond.code yX6_word cX6_word 1 (some (.object "PondIceTrade$Word")) :: zt) RX6 := ⟨B.exec, B.bytes, hml, hown, hts⟩
  have hx := B.exec
  have hb := B.bytes
  have hr := B.returns
  have hlocks := B.notSynchronized
  clear B
  have hS : va_S (zq_A X) s.heap s.heap [] := va_S.rf
  have hl := lv_entry ([.ref h0]) (n := 1) (by exact Nat.le_of_ble_eq_true rfl)
  have hg : entryFrame m args 1 = F0 m 0 ((lg_sl ([.ref h0]) ++ List.replicate (1 - (lg_sl ([.ref h0])).length) Slot.unset).toArray) [] := by rw [hargs]; exact lg_entry_eq m ([.ref h0]) 1
  rw [hg]
  clear hg hargs
  generalize (lg_sl ([.ref h0]) ++ List.replicate (1 - (lg_sl ([.ref h0])).length) Slot.unset).toArray = ls at hl ⊢
  have hl : lv_has ls 1 [(0, .ref h0)] := by exact hl
  obtain ⟨R, hRm⟩ : ∃ R : Room, R = (headSpec (zt_w yX6_word cX6_word 1 (some (.object "PondIceTrade$Word"))) (zq_rm (0))).room := ⟨_, rfl⟩
  rw [← hRm]
  generalize hQ : MQ below _ args s 0 0 (zq_A X) = Q
  obtain ⟨H, hH⟩ : ∃ H, H = s.heap := ⟨_, rfl⟩
  obtain ⟨locs, hlo⟩ : ∃ x : List Loc, x = [] := ⟨_, rfl⟩
  rw [show W p l e R s m args below meth c s.heap [] 0 0 Q = W p l e R s m args below meth c H locs 0 0 Q by rw [hH, hlo]]
  have hM : zq_hm X (zk, zn) I H := by rw [hH]; exact hM
  have hS : va_S (zq_A X) s.heap H locs := by rw [hH, hlo]; exact hS
  clear hH hlo
  refine lv_aload_n hx hb dX6_word_0 rfl (lv_at hl 0 rfl) ?_
  refine zq_gn E hM k_h0 (zFX6_49 E hZ) (Or.inl ⟨by decide, by decide, by decide, rfl⟩) dX6_word_1 (fun x101 ex101 gx101 => ?_)
  replace gx101 : 0 ≤ x101.toInt ∧ x101.toInt ≤ 401 := gx101
  refine lv_aload_n hx hb dX6_word_4 rfl (lv_at hl 0 rfl) ?_
  refine zq_gn E hM k_h0 (zFX6_52 E hZ) (Or.inl ⟨by decide, by decide, by decide, rfl⟩) dX6_word_5 (fun x102 ex102 gx102 => ?_)
  replace gx102 : 0 ≤ x102.toInt ∧ x102.toInt ≤ 401 := gx102
  refine lv_icmp_ge (tgt := 23) hx hb dX6_word_8 (by decide) (fun b103 => ?_) (fun b103 => ?_)
  · have b103 := zi_le b103 (rfl : x102.toInt = x102.toInt) (rfl : x101.toInt = x101.toInt)
    refine zq_getw (nm := "OTHER") E hZ hM (by decide) (List.mem_cons_of_mem _ zLX6_38) dX6_word_23 (fun w104 kw104 => ?_)
    subst hQ
    exact zq_rret E hr hZ hM hS ⟨rfl, trivial⟩ kw104 hlocks dX6_word_26
  · have b103 := zi_nle b103 (rfl : x102.toInt = x102.toInt) (rfl : x101.toInt = x101.toInt)
    refine lv_aload_n hx hb dX6_word_11 rfl (lv_at hl 0 rfl) ?_
    refine zq_getr E hM k_h0 (zFX6_35 E hZ) ⟨by decide, by decide, by decide, rfl⟩ dX6_word_12 ?_
    have k105 : zq_k X (zq_r X h0 6) = 23 := zq_lk L.1 k_h0 rfl (by decide)
    refine lv_aload_n hx hb dX6_word_15 rfl (lv_at hl 0 rfl) ?_
    refine zq_gk (v := x101) E hM k_h0 (zFX6_49 E hZ) (Or.inl ⟨by decide, by decide, by decide, rfl⟩) ex101 dX6_word_16 ?_
    refine zq_wald (n := 401) E hZ hM k105 ⟨by decide, rfl⟩ ⟨by omega, by omega⟩ dX6_word_19 (fun w106 kw106 => ?_)
    refine lv_goto (tgt := 26) hx hb dX6_word_20 (by decide) ?_
    subst hQ
    exact zq_rret E hr hZ hM hS ⟨rfl, trivial⟩ kw106 hlocks dX6_word_26
def zw_X6_advance : List (Nat × Nat) := [(6, 8)]
set_option maxHeartbeats 8000000 in
set_option maxRecDepth 100000 in
theorem c_X6_advance (l : Launch) (X : zq_X) (zk zn : Nat) (I : zq_M) (L : zq_L X)  (h0 : Nat) (k_h0 : zq_k X h0 = 6)  : Met l yX6_advance (zt_w yX6_advance cX6_advance 1 none) (zq_rm (0)) (va_Pc [.ref h0] (zq_W X (zk, zn) I)) (va_Qv (fun I2 => zq_fr (zf X zw_X6_advance (fun _ => False)) I I2) (zq_E X (zk, zn)) (zq_A X)) 0 0 (zq_A X) := by
  refine Met.ofW (cc := cX6_advance) (maxL := 1) (ret := none) (by decide) rfl ?_
  intro p e s m args below meth c s₁ B hml hv
  obtain ⟨hargs, hM, hZ⟩ := hv
  have hown : s.vm.findClass RX6 = some m.cls := findClass_of_methodNamed B.named
  have hts := atoms_spec (ws := zt_w yX6_advance cX6_advance 1 none) B.pre
  have E : CallFix p m c cX6_advance 1 s args (Cond.code yX6_advance cX6_advance 1 none :: zt) RX6 := ⟨B.exec, B.bytes, hml, hown, hts⟩
  have hx := B.exec
  have hb := B.bytes
  have hr := B.returns
  have hlocks := B.notSynchronized
  clear B
  have hS : va_S (zq_A X) s.heap s.heap [] := va_S.rf
  have hR : zq_fr (zf X zw_X6_advance (fun _ => False)) I I := zq_fr.rf
  have hl := lv_entry ([.ref h0]) (n := 1) (by exact Nat.le_of_ble_eq_true rfl)
  have hg : entryFrame m args 1 = F0 m 0 ((lg_sl ([.ref h0]) ++ List.replicate (1 - (lg_sl ([.ref h0])).length) Slot.unset).toArray) [] := by rw [hargs]; exact lg_entry_eq m ([.ref h0]) 1
  rw [hg]
  clear hg hargs
  generalize (lg_sl ([.ref h0]) ++ List.replicate (1 - (lg_sl ([.ref h0])).length) Slot.unset).toArray = ls at hl ⊢
  have hl : lv_has ls 1 [(0, .ref h0)] := by exact hl
  obtain ⟨R, hRm⟩ : ∃ R : Room, R = (headSpec (zt_w yX6_advance cX6_advance 1 none) (zq_rm (0))).room := ⟨_, rfl⟩
  rw [← hRm]
  generalize hQ : MQ below _ args s 0 0 (zq_A X) = Q
  obtain ⟨H, hH⟩ : ∃ H, H = s.heap := ⟨_, rfl⟩
  obtain ⟨locs, hlo⟩ : ∃ x : List Loc, x = [] := ⟨_, rfl⟩
  rw [show W p l e R s m args below meth c s.heap [] 0 0 Q = W p l e R s m args below meth c H locs 0 0 Q by rw [hH, hlo]]
  have hM : zq_hm X (zk, zn) I H := by rw [hH]; exact hM
  have hS : va_S (zq_A X) s.heap H locs := by rw [hH, hlo]; exact hS
  clear hH hlo
  refine lv_aload_n hx hb dX6_advance_0 rfl (lv_at hl 0 rfl) ?_
  refine zq_gn E hM k_h0 (zFX6_49 E hZ) (Or.inl ⟨by decide, by decide, by decide, rfl⟩) dX6_advance_1 (fun x101 ex101 gx101 => ?_)
  replace gx101 : 0 ≤ x101.toInt ∧ x101.toInt ≤ 401 := gx101
  refine lv_aload_n hx hb dX6_advance_4 rfl (lv_at hl 0 rfl) ?_
  refine zq_gn E hM k_h0 (zFX6_52 E hZ) (Or.inl ⟨by decide, by decide, by decide, rfl⟩) dX6_advance_5 (fun x102 ex102 gx102 => ?_)
  replace gx102 : 0 ≤ x102.toInt ∧ x102.toInt ≤ 401 := gx102
  refine lv_icmp_ge (tgt := 21) hx hb dX6_advance_8 (by decide) (fun b103 => ?_) (fun b103 => ?_)
  · have b103 := zi_le b103 (rfl : x102.toInt = x102.toInt) (rfl : x101.toInt = x101.toInt)
    subst hQ
    exact zq_vret E hr hZ hM hS hR hlocks dX6_advance_21
  · have b103 := zi_nle b103 (rfl : x102.toInt = x102.toInt) (rfl : x101.toInt = x101.toInt)
    refine lv_aload_n hx hb dX6_advance_11 rfl (lv_at hl 0 rfl) ?_
    refine lv_dup hx hb dX6_advance_12 rfl ?_
    refine zq_gk (v := x101) E hM k_h0 (zFX6_49 E hZ) (Or.inl ⟨by decide, by decide, by decide, rfl⟩) ex101 dX6_advance_13 ?_
    refine lv_iconst (v := 1) hx hb dX6_advance_16 (by decide +kernel) ?_
    refine lv_iadd hx hb dX6_advance_17 ?_
    refine lv_topi (fun x104 ex104 => ?_)
    have tx104 := zi_add ex104 (rfl : x101.toInt = x101.toInt) (zl_1 : (1 : Int32).toInt = 1) ⟨by omega, by omega⟩
    refine zq_pn E hM hS k_h0 (zGX6_49 E hZ) ⟨by decide, by decide, by decide, rfl⟩ (show 0 ≤ x104.toInt ∧ x104.toInt ≤ 401 from ⟨by omega, by omega⟩) dX6_advance_18 (fun I105 H locs eI105 hM hS => ?_)
    have hR := zq_fr.putE hR eI105 (zf_i k_h0 rfl rfl)
    subst hQ
    exact zq_vret E hr hZ hM hS hR hlocks dX6_advance_21
def zw_X6_fail : List (Nat × Nat) := [(6, 9)]
set_option maxHeartbeats 8000000 in
set_option maxRecDepth 100000 in
theorem c_X6_fail (l : Launch) (X : zq_X) (zk zn : Nat) (I : zq_M) (L : zq_L X)  (h0 : Nat) (k_h0 : zq_k X h0 = 6) (p1 : Int32) (g_p1 : 0 ≤ p1.toInt ∧ p1.toInt ≤ 4) : Met l yX6_fail (zt_w yX6_fail cX6_fail 2 (some .boolean)) (zq_rm (0)) (va_Pc [.ref h0, .int p1] (zq_W X (zk, zn) I)) (va_Qi (fun (r : Int32) I2 => zq_fr (zf X zw_X6_fail (fun _ => False)) I I2 ∧ (1 ≤ (I2 h0 9).toInt) ∧ (r.toInt = 0) ∧ (0 ≤ r.toInt ∧ r.toInt ≤ 1)) (zq_E X (zk, zn)) (zq_A X)) 0 0 (zq_A X) := by
  refine Met.ofW (cc := cX6_fail) (maxL := 2) (ret := (some .boolean)) (by decide) rfl ?_
  intro p e s m args below meth c s₁ B hml hv
  obtain ⟨hargs, hM, hZ⟩ := hv
  have hown : s.vm.findClass RX6 = some m.cls := findClass_of_methodNamed B.named
  have hts := atoms_spec (ws := zt_w yX6_fail cX6_fail 2 (some .boolean)) B.pre
  have E : CallFix p m c cX6_fail 2 s args (Cond.code yX6_fail cX6_fail 2 (some .boolean) :: zt) RX6 := ⟨B.exec, B.bytes, hml, hown, hts⟩
  have hx := B.exec
  have hb := B.bytes
  have hr := B.returns
  have hlocks := B.notSynchronized
  clear B
  have hS : va_S (zq_A X) s.heap s.heap [] := va_S.rf
  have hR : zq_fr (zf X zw_X6_fail (fun _ => False)) I I := zq_fr.rf
  have hl := lv_entry ([.ref h0, .int p1]) (n := 2) (by exact Nat.le_of_ble_eq_true rfl)
  have hg : entryFrame m args 2 = F0 m 0 ((lg_sl ([.ref h0, .int p1]) ++ List.replicate (2 - (lg_sl ([.ref h0, .int p1])).length) Slot.unset).toArray) [] := by rw [hargs]; exact lg_entry_eq m ([.ref h0, .int p1]) 2
  rw [hg]
  clear hg hargs
  generalize (lg_sl ([.ref h0, .int p1]) ++ List.replicate (2 - (lg_sl ([.ref h0, .int p1])).length) Slot.unset).toArray = ls at hl ⊢
  have hl : lv_has ls 2 [(0, .ref h0), (1, .int p1)] := by exact hl
  obtain ⟨R, hRm⟩ : ∃ R : Room, R = (headSpec (zt_w yX6_fail cX6_fail 2 (some .boolean)) (zq_rm (0))).room := ⟨_, rfl⟩
  rw [← hRm]
  generalize hQ : MQ below _ args s 0 0 (zq_A X) = Q
  obtain ⟨H, hH⟩ : ∃ H, H = s.heap := ⟨_, rfl⟩
  obtain ⟨locs, hlo⟩ : ∃ x : List Loc, x = [] := ⟨_, rfl⟩
  rw [show W p l e R s m args below meth c s.heap [] 0 0 Q = W p l e R s m args below meth c H locs 0 0 Q by rw [hH, hlo]]
  have hM : zq_hm X (zk, zn) I H := by rw [hH]; exact hM
  have hS : va_S (zq_A X) s.heap H locs := by rw [hH, hlo]; exact hS
  clear hH hlo
  refine lv_aload_n hx hb dX6_fail_0 rfl (lv_at hl 0 rfl) ?_
  refine lv_iconst (v := 1) hx hb dX6_fail_1 (by decide +kernel) ?_
  refine lv_bipush (v := 8) hx hb dX6_fail_2 (by decide +kernel) ?_
  refine lv_aload_n hx hb dX6_fail_4 rfl (lv_at hl 0 rfl) ?_
  refine zq_gn E hM k_h0 (zFX6_49 E hZ) (Or.inl ⟨by decide, by decide, by decide, rfl⟩) dX6_fail_5 (fun x101 ex101 gx101 => ?_)
  replace gx101 : 0 ≤ x101.toInt ∧ x101.toInt ≤ 401 := gx101
  refine lv_aload_n hx hb dX6_fail_8 rfl (lv_at hl 0 rfl) ?_
  refine zq_gn E hM k_h0 (zFX6_52 E hZ) (Or.inl ⟨by decide, by decide, by decide, rfl⟩) dX6_fail_9 (fun x102 ex102 gx102 => ?_)
  replace gx102 : 0 ≤ x102.toInt ∧ x102.toInt ≤ 401 := gx102
  have J31 : ∀ (ls : Array Slot) (j106 : Int32), (0 ≤ j106.toInt ∧ j106.toInt ≤ 400) → (lv_has ls 2 [(0, .ref h0), (1, .int p1)]) → W p l e R s m args below meth c H locs 0 0 Q (F0 m 31 ls [.int j106, .int (8 : Int32), .int (1 : Int32), .ref h0]) := by
    intro ls j106 gj106 hl
    refine lv_imul hx hb dX6_fail_31 ?_
    refine lv_topi (fun x111 ex111 => ?_)
    have tx111 := zi_mul ex111 (zl_8 : (8 : Int32).toInt = 8) (rfl : j106.toInt = j106.toInt) ⟨by omega, by omega⟩
    refine lv_iadd hx hb dX6_fail_32 ?_
    refine lv_topi (fun x112 ex112 => ?_)
    have tx112 := zi_add ex112 (zl_1 : (1 : Int32).toInt = 1) (rfl : x111.toInt = x111.toInt) ⟨by omega, by omega⟩
    refine lv_iload_n hx hb dX6_fail_33 rfl (lv_at hl 1 rfl) ?_
    refine lv_iadd hx hb dX6_fail_34 ?_
    refine lv_topi (fun x113 ex113 => ?_)
    have tx113 := zi_add ex113 (rfl : x112.toInt = x112.toInt) (rfl : p1.toInt = p1.toInt) ⟨by omega, by omega⟩
    refine zq_pn E hM hS k_h0 (zGX6_46 E hZ) ⟨by decide, by decide, by decide, rfl⟩ (zq_any _) dX6_fail_35 (fun I114 H locs eI114 hM hS => ?_)
    have hR := zq_fr.putE hR eI114 (zf_i k_h0 rfl rfl)
    refine lv_iconst (v := 0) hx hb dX6_fail_38 (by decide +kernel) ?_
    subst hQ
    exact zq_zret E hr hZ hM hS (show 0 ≤ (0 : Int32).toInt ∧ (0 : Int32).toInt ≤ 1 by decide +kernel) ⟨hR, (by rw [(zq_kv eI114)]; omega), (by have := zl_0; omega), (by have := zl_0; omega)⟩ hlocks dX6_fail_39
  refine lv_icmp_ge (tgt := 27) hx hb dX6_fail_12 (by decide) (fun b115 => ?_) (fun b115 => ?_)
  · have b115 := zi_le b115 (rfl : x102.toInt = x102.toInt) (rfl : x101.toInt = x101.toInt)
    refine lv_aload_n hx hb dX6_fail_27 rfl (lv_at hl 0 rfl) ?_
    refine zq_gn E hM k_h0 (zFX6_42 E hZ) (Or.inl ⟨by decide, by decide, by decide, rfl⟩) dX6_fail_28 (fun x116 ex116 gx116 => ?_)
    replace gx116 : 0 ≤ x116.toInt ∧ x116.toInt ≤ 400 := gx116
    exact J31 ls x116 (⟨by omega, by omega⟩) (lv_sub hl [0, 1] rfl)
  · have b115 := zi_nle b115 (rfl : x102.toInt = x102.toInt) (rfl : x101.toInt = x101.toInt)
    refine lv_aload_n hx hb dX6_fail_15 rfl (lv_at hl 0 rfl) ?_
    refine zq_getr E hM k_h0 (zFX6_29 E hZ) ⟨by decide, by decide, by decide, rfl⟩ dX6_fail_16 ?_
    have k117 : zq_k X (zq_r X h0 4) = 43 := zq_lk L.1 k_h0 rfl (by decide)
    refine lv_aload_n hx hb dX6_fail_19 rfl (lv_at hl 0 rfl) ?_
    refine zq_gk (v := x101) E hM k_h0 (zFX6_49 E hZ) (Or.inl ⟨by decide, by decide, by decide, rfl⟩) ex101 dX6_fail_20 ?_
    refine zq_ian (n := 401) (j := (x101.toNatClampNeg)) E hZ hM k117 ⟨by decide, rfl⟩ ⟨by omega, by omega⟩ rfl dX6_fail_23 (fun x118 ex118 gx118 => ?_)
    replace gx118 : 0 ≤ x118.toInt ∧ x118.toInt ≤ 400 := gx118
    refine lv_goto (tgt := 31) hx hb dX6_fail_24 (by decide) ?_
    exact J31 ls x118 (⟨by omega, by omega⟩) (lv_sub hl [0, 1] rfl)
def zw_X6_passes : List (Nat × Nat) := [(6, 8), (6, 9)]
set_option maxHeartbeats 8000000 in
set_option maxRecDepth 100000 in
theorem c_X6_passes (l : Launch) (X : zq_X) (zk zn : Nat) (I : zq_M) (L : zq_L X)  (h0 : Nat) (k_h0 : zq_k X h0 = 6) (p1 : Int32)  : Met l yX6_passes (zt_w yX6_passes cX6_passes 2 (some .boolean)) (zq_rm (1)) (va_Pc [.ref h0, .int p1] (zq_W X (zk, zn) I)) (va_Qi (fun (r : Int32) I2 => zq_fr (zf X zw_X6_passes (fun _ => False)) I I2 ∧ (r.toInt = 0 ∨ (I2 h0 9).toInt = (I h0 9).toInt) ∧ (0 ≤ r.toInt ∧ r.toInt ≤ 1)) (zq_E X (zk, zn)) (zq_A X)) 0 0 (zq_A X) := by
  refine Met.ofW (cc := cX6_passes) (maxL := 2) (ret := (some .boolean)) (by decide) rfl ?_
  intro p e s m args below meth c s₁ B hml hv
  obtain ⟨hargs, hM, hZ⟩ := hv
  have hown : s.vm.findClass RX6 = some m.cls := findClass_of_methodNamed B.named
  have hts := atoms_spec (ws := zt_w yX6_passes cX6_passes 2 (some .boolean)) B.pre
  have E : CallFix p m c cX6_passes 2 s args (Cond.code yX6_passes cX6_passes 2 (some .boolean) :: zt) RX6 := ⟨B.exec, B.bytes, hml, hown, hts⟩
  have hx := B.exec
  have hb := B.bytes
  have hr := B.returns
  have hlocks := B.notSynchronized
  clear B
  have hS : va_S (zq_A X) s.heap s.heap [] := va_S.rf
  have hR : zq_fr (zf X zw_X6_passes (fun _ => False)) I I := zq_fr.rf
  have hl := lv_entry ([.ref h0, .int p1]) (n := 2) (by exact Nat.le_of_ble_eq_true rfl)
  have hg : entryFrame m args 2 = F0 m 0 ((lg_sl ([.ref h0, .int p1]) ++ List.replicate (2 - (lg_sl ([.ref h0, .int p1])).length) Slot.unset).toArray) [] := by rw [hargs]; exact lg_entry_eq m ([.ref h0, .int p1]) 2
  rw [hg]
  clear hg hargs
  generalize (lg_sl ([.ref h0, .int p1]) ++ List.replicate (2 - (lg_sl ([.ref h0, .int p1])).length) Slot.unset).toArray = ls at hl ⊢
  have hl : lv_has ls 2 [(0, .ref h0), (1, .int p1)] := by exact hl
  obtain ⟨R, hRm⟩ : ∃ R : Room, R = (headSpec (zt_w yX6_passes cX6_passes 2 (some .boolean)) (zq_rm (1))).room := ⟨_, rfl⟩
  rw [← hRm]
  have hro : ∀ d q : Nat, d + 1 ≤ 1 → q ≤ 45 → zq_rok d q R := fun d q h1 h2 => by rw [hRm]; exact zq_rokI h1 h2
  generalize hQ : MQ below _ args s 0 0 (zq_A X) = Q
  obtain ⟨H, hH⟩ : ∃ H, H = s.heap := ⟨_, rfl⟩
  obtain ⟨locs, hlo⟩ : ∃ x : List Loc, x = [] := ⟨_, rfl⟩
  rw [show W p l e R s m args below meth c s.heap [] 0 0 Q = W p l e R s m args below meth c H locs 0 0 Q by rw [hH, hlo]]
  have hM : zq_hm X (zk, zn) I H := by rw [hH]; exact hM
  have hS : va_S (zq_A X) s.heap H locs := by rw [hH, hlo]; exact hS
  clear hH hlo
  have hQ9 : I h0 9 = I h0 9 := rfl
  refine lv_aload_n hx hb dX6_passes_0 rfl (lv_at hl 0 rfl) ?_
  refine zq_pcalli (zq_rV (As := []) (rest := []) E hZ hM k_h0 (c_X6_kind l X zk (zn) I L h0 k_h0) zmX6_102 zM_X6_kind (hro (0) 1 (by first | decide | omega) (by decide)) ⟨by decide, by decide⟩ rfl hl.1 rfl rfl (Nat.le_of_ble_eq_true rfl) dX6_passes_1) hS (fun x102 H locs h101 hM hS => ?_)
  clear h101
  refine lv_iload_n hx hb dX6_passes_4 rfl (lv_at hl 1 rfl) ?_
  refine lv_icmp_eq (tgt := 14) hx hb dX6_passes_5 (by decide) (fun b103 => ?_) (fun b103 => ?_)
  · have b103 := zi_eq b103 (rfl : x102.toInt = x102.toInt) (rfl : p1.toInt = p1.toInt)
    refine lv_aload_n hx hb dX6_passes_14 rfl (lv_at hl 0 rfl) ?_
    refine zq_callv (zq_rV (As := []) (rest := []) E hZ hM k_h0 (c_X6_advance l X zk (zn) I L h0 k_h0) zmX6_108 zM_X6_advance (hro (0) 1 (by first | decide | omega) (by decide)) ⟨by decide, by decide⟩ rfl hl.1 rfl rfl (Nat.le_of_ble_eq_true rfl) dX6_passes_15) hS (fun I106 H locs h104 hM hS => ?_)
    have fr107 := h104
    have hR := zq_fr.call hR fr107 (zf_sub (by decide +kernel) (fun _ _ q => q.elim))
    have hK108 := (zq_fr.kp fr107 (zf_n k_h0 rfl) hQ9)
    refine lv_iconst (v := 1) hx hb dX6_passes_18 (by decide +kernel) ?_
    subst hQ
    exact zq_zret E hr hZ hM hS (show 0 ≤ (1 : Int32).toInt ∧ (1 : Int32).toInt ≤ 1 by decide +kernel) ⟨hR, (Or.inr (by rw [hK108])), (by have := zl_1; omega)⟩ hlocks dX6_passes_19
  · have b103 := zi_ne b103 (rfl : x102.toInt = x102.toInt) (rfl : p1.toInt = p1.toInt)
    refine lv_aload_n hx hb dX6_passes_8 rfl (lv_at hl 0 rfl) ?_
    refine lv_iconst (v := 0) hx hb dX6_passes_9 (by decide +kernel) ?_
    refine zq_calli (zq_rV (As := [.int (0 : Int32)]) (rest := []) E hZ hM k_h0 (c_X6_fail l X zk (zn) I L h0 k_h0 (0 : Int32) (by rw [zl_0]; decide)) zmX6_105 zM_X6_fail (hro (0) 2 (by first | decide | omega) (by decide)) ⟨by decide, by decide⟩ rfl hl.1 rfl rfl (Nat.le_of_ble_eq_true rfl) dX6_passes_10) hS (fun x110 I111 H locs h109 hM hS => ?_)
    obtain ⟨fr112, p113, p114, p115⟩ := h109
    have := zl_0
    have hR := zq_fr.call hR fr112 (zf_sub (by decide +kernel) (fun _ _ q => q.elim))
    subst hQ
    exact zq_zret E hr hZ hM hS (show 0 ≤ x110.toInt ∧ x110.toInt ≤ 1 from ⟨by omega, by omega⟩) ⟨hR, (by omega), (by omega)⟩ hlocks dX6_passes_13
def zw_X6_takeNumber : List (Nat × Nat) := [(6, 8), (6, 9)]
set_option maxHeartbeats 8000000 in
set_option maxRecDepth 100000 in
theorem c_X6_takeNumber (l : Launch) (X : zq_X) (zk zn : Nat) (I : zq_M) (L : zq_L X)  (h0 : Nat) (k_h0 : zq_k X h0 = 6) (p1 : Int32) (p2 : Int32)  : Met l yX6_takeNumber (zt_w yX6_takeNumber cX6_takeNumber 4 (some .int)) (zq_rm (1)) (va_Pc [.ref h0, .int p1, .int p2] (zq_W X (zk, zn) I)) (va_Qi (fun (r : Int32) I2 => zq_fr (zf X zw_X6_takeNumber (fun _ => False)) I I2 ∧ (r.toInt = -1 ∨ (p1.toInt ≤ r.toInt ∧ r.toInt ≤ p2.toInt)) ∧ ((I2 h0 9).toInt = 0 → ((I h0 9).toInt = 0 ∧ p1.toInt ≤ r.toInt ∧ r.toInt ≤ p2.toInt))) (zq_E X (zk, zn)) (zq_A X)) 0 0 (zq_A X) := by
  refine Met.ofW (cc := cX6_takeNumber) (maxL := 4) (ret := (some .int)) (by decide) rfl ?_
  intro p e s m args below meth c s₁ B hml hv
  obtain ⟨hargs, hM, hZ⟩ := hv
  have hown : s.vm.findClass RX6 = some m.cls := findClass_of_methodNamed B.named
  have hts := atoms_spec (ws := zt_w yX6_takeNumber cX6_takeNumber 4 (some .int)) B.pre
  have E : CallFix p m c cX6_takeNumber 4 s args (Cond.code yX6_takeNumber cX6_takeNumber 4 (some .int) :: zt) RX6 := ⟨B.exec, B.bytes, hml, hown, hts⟩
  have hx := B.exec
  have hb := B.bytes
  have hr := B.returns
  have hlocks := B.notSynchronized
  clear B
  have hS : va_S (zq_A X) s.heap s.heap [] := va_S.rf
  have hR : zq_fr (zf X zw_X6_takeNumber (fun _ => False)) I I := zq_fr.rf
  have hl := lv_entry ([.ref h0, .int p1, .int p2]) (n := 4) (by exact Nat.le_of_ble_eq_true rfl)
  have hg : entryFrame m args 4 = F0 m 0 ((lg_sl ([.ref h0, .int p1, .int p2]) ++ List.replicate (4 - (lg_sl ([.ref h0, .int p1, .int p2])).length) Slot.unset).toArray) [] := by rw [hargs]; exact lg_entry_eq m ([.ref h0, .int p1, .int p2]) 4
  rw [hg]
  clear hg hargs
  generalize (lg_sl ([.ref h0, .int p1, .int p2]) ++ List.replicate (4 - (lg_sl ([.ref h0, .int p1, .int p2])).length) Slot.unset).toArray = ls at hl ⊢
  have hl : lv_has ls 4 [(0, .ref h0), (1, .int p1), (2, .int p2)] := by exact hl
  obtain ⟨R, hRm⟩ : ∃ R : Room, R = (headSpec (zt_w yX6_takeNumber cX6_takeNumber 4 (some .int)) (zq_rm (1))).room := ⟨_, rfl⟩
  rw [← hRm]
  have hro : ∀ d q : Nat, d + 1 ≤ 1 → q ≤ 45 → zq_rok d q R := fun d q h1 h2 => by rw [hRm]; exact zq_rokI h1 h2
  generalize hQ : MQ below _ args s 0 0 (zq_A X) = Q
  obtain ⟨H, hH⟩ : ∃ H, H = s.heap := ⟨_, rfl⟩
  obtain ⟨locs, hlo⟩ : ∃ x : List Loc, x = [] := ⟨_, rfl⟩
  rw [show W p l e R s m args below meth c s.heap [] 0 0 Q = W p l e R s m args below meth c H locs 0 0 Q by rw [hH, hlo]]
  have hM : zq_hm X (zk, zn) I H := by rw [hH]; exact hM
  have hS : va_S (zq_A X) s.heap H locs := by rw [hH, hlo]; exact hS
  clear hH hlo
  have hQ9 : I h0 9 = I h0 9 := rfl
  refine lv_aload_n hx hb dX6_takeNumber_0 rfl (lv_at hl 0 rfl) ?_
  refine zq_gn E hM k_h0 (zFX6_46 E hZ) (Or.inl ⟨by decide, by decide, by decide, rfl⟩) dX6_takeNumber_1 (fun x101 ex101 gx101 => ?_)
  clear gx101
  refine lv_if_eq (tgt := 9) hx hb dX6_takeNumber_4 (by decide) (fun b102 => ?_) (fun b102 => ?_)
  · have b102 := zi_eq b102 (rfl : x101.toInt = x101.toInt) (zl_0 : (0 : Int32).toInt = 0)
    refine lv_aload_n hx hb dX6_takeNumber_9 rfl (lv_at hl 0 rfl) ?_
    refine zq_pcalli (zq_rV (As := []) (rest := []) E hZ hM k_h0 (c_X6_number l X zk (zn) I L h0 k_h0) zmX6_111 zM_X6_number (hro (0) 1 (by first | decide | omega) (by decide)) ⟨by decide, by decide⟩ rfl hl.1 rfl rfl (Nat.le_of_ble_eq_true rfl) dX6_takeNumber_10) hS (fun x104 H locs h103 hM hS => ?_)
    clear h103
    refine lv_istore_n (lv' := [(3, .int x104), (0, .ref h0), (1, .int p1), (2, .int p2)]) hx hb dX6_takeNumber_13 rfl hl (by decide) rfl (fun ls hl => ?_)
    refine lv_aload_n hx hb dX6_takeNumber_14 rfl (lv_at hl 1 rfl) ?_
    refine zq_pcalli (zq_rV (As := []) (rest := []) E hZ hM k_h0 (c_X6_kind l X zk (zn) I L h0 k_h0) zmX6_102 zM_X6_kind (hro (0) 1 (by first | decide | omega) (by decide)) ⟨by decide, by decide⟩ rfl hl.1 rfl rfl (Nat.le_of_ble_eq_true rfl) dX6_takeNumber_15) hS (fun x106 H locs h105 hM hS => ?_)
    clear h105
    refine lv_bipush (v := (-2)) hx hb dX6_takeNumber_18 (by decide +kernel) ?_
    refine lv_icmp_eq (tgt := 31) hx hb dX6_takeNumber_20 (by decide) (fun b107 => ?_) (fun b107 => ?_)
    · have b107 := zi_eq b107 (rfl : x106.toInt = x106.toInt) (zl_m2 : (-2 : Int32).toInt = (-2))
      refine lv_iload_n hx hb dX6_takeNumber_31 rfl (lv_at hl 0 rfl) ?_
      refine lv_iload_n hx hb dX6_takeNumber_32 rfl (lv_at hl 2 rfl) ?_
      have J41 : ∀ (ls : Array Slot), (lv_has ls 4 [(3, .int x104), (0, .ref h0), (1, .int p1), (2, .int p2)]) → W p l e R s m args below meth c H locs 0 0 Q (F0 m 41 ls []) := by
        intro ls hl
        refine lv_aload_n hx hb dX6_takeNumber_41 rfl (lv_at hl 1 rfl) ?_
        refine lv_iconst (v := 1) hx hb dX6_takeNumber_42 (by decide +kernel) ?_
        refine zq_calli (zq_rV (As := [.int (1 : Int32)]) (rest := []) E hZ hM k_h0 (c_X6_fail l X zk (zn) I L h0 k_h0 (1 : Int32) (by rw [zl_1]; decide)) zmX6_105 zM_X6_fail (hro (0) 2 (by first | decide | omega) (by decide)) ⟨by decide, by decide⟩ rfl hl.1 rfl rfl (Nat.le_of_ble_eq_true rfl) dX6_takeNumber_43) hS (fun x121 I122 H locs h120 hM hS => ?_)
        obtain ⟨fr123, p124, p125, p126⟩ := h120
        have := zl_1
        have hR := zq_fr.call hR fr123 (zf_sub (by decide +kernel) (fun _ _ q => q.elim))
        refine lv_pop hx hb dX6_takeNumber_46 rfl ?_
        refine lv_iconst (v := (-1)) hx hb dX6_takeNumber_47 (by decide +kernel) ?_
        subst hQ
        exact zq_iret E hr hZ hM hS ⟨hR, (by have := zl_m1; omega), (fun hh => absurd hh (by omega))⟩ hlocks dX6_takeNumber_48
      refine lv_icmp_lt (tgt := 41) hx hb dX6_takeNumber_33 (by decide) (fun b127 => ?_) (fun b127 => ?_)
      · have b127 := zi_lt b127 (rfl : x104.toInt = x104.toInt) (rfl : p1.toInt = p1.toInt)
        exact J41 ls (lv_sub hl [0, 1, 2, 3] rfl)
      · have b127 := zi_nlt b127 (rfl : x104.toInt = x104.toInt) (rfl : p1.toInt = p1.toInt)
        refine lv_iload_n hx hb dX6_takeNumber_36 rfl (lv_at hl 0 rfl) ?_
        refine lv_iload_n hx hb dX6_takeNumber_37 rfl (lv_at hl 3 rfl) ?_
        refine lv_icmp_le (tgt := 49) hx hb dX6_takeNumber_38 (by decide) (fun b128 => ?_) (fun b128 => ?_)
        · have b128 := zi_le b128 (rfl : x104.toInt = x104.toInt) (rfl : p2.toInt = p2.toInt)
          refine lv_aload_n hx hb dX6_takeNumber_49 rfl (lv_at hl 1 rfl) ?_
          refine zq_callv (zq_rV (As := []) (rest := []) E hZ hM k_h0 (c_X6_advance l X zk (zn) I L h0 k_h0) zmX6_108 zM_X6_advance (hro (0) 1 (by first | decide | omega) (by decide)) ⟨by decide, by decide⟩ rfl hl.1 rfl rfl (Nat.le_of_ble_eq_true rfl) dX6_takeNumber_50) hS (fun I131 H locs h129 hM hS => ?_)
          have fr132 := h129
          have hR := zq_fr.call hR fr132 (zf_sub (by decide +kernel) (fun _ _ q => q.elim))
          have hK133 := (zq_fr.kp fr132 (zf_n k_h0 rfl) hQ9)
          refine lv_iload_n hx hb dX6_takeNumber_53 rfl (lv_at hl 0 rfl) ?_
          subst hQ
          exact zq_iret E hr hZ hM hS ⟨hR, (by have := zl_m1; omega), (fun hh => by rw [hK133] at hh; exact ⟨hh, by omega, by omega⟩)⟩ hlocks dX6_takeNumber_54
        · have b128 := zi_nle b128 (rfl : x104.toInt = x104.toInt) (rfl : p2.toInt = p2.toInt)
          exact J41 ls (lv_sub hl [0, 1, 2, 3] rfl)
    · have b107 := zi_ne b107 (rfl : x106.toInt = x106.toInt) (zl_m2 : (-2 : Int32).toInt = (-2))
      refine lv_aload_n hx hb dX6_takeNumber_23 rfl (lv_at hl 1 rfl) ?_
      refine lv_iconst (v := 0) hx hb dX6_takeNumber_24 (by decide +kernel) ?_
      refine zq_calli (zq_rV (As := [.int (0 : Int32)]) (rest := []) E hZ hM k_h0 (c_X6_fail l X zk (zn) I L h0 k_h0 (0 : Int32) (by rw [zl_0]; decide)) zmX6_105 zM_X6_fail (hro (0) 2 (by first | decide | omega) (by decide)) ⟨by decide, by decide⟩ rfl hl.1 rfl rfl (Nat.le_of_ble_eq_true rfl) dX6_takeNumber_25) hS (fun x135 I136 H locs h134 hM hS => ?_)
      obtain ⟨fr137, p138, p139, p140⟩ := h134
      have := zl_0
      have hR := zq_fr.call hR fr137 (zf_sub (by decide +kernel) (fun _ _ q => q.elim))
      refine lv_pop hx hb dX6_takeNumber_28 rfl ?_
      refine lv_iconst (v := (-1)) hx hb dX6_takeNumber_29 (by decide +kernel) ?_
      subst hQ
      exact zq_iret E hr hZ hM hS ⟨hR, (by have := zl_m1; omega), (fun hh => absurd hh (by omega))⟩ hlocks dX6_takeNumber_30
  · have b102 := zi_ne b102 (rfl : x101.toInt = x101.toInt) (zl_0 : (0 : Int32).toInt = 0)
    refine lv_iconst (v := (-1)) hx hb dX6_takeNumber_7 (by decide +kernel) ?_
    subst hQ
    exact zq_iret E hr hZ hM hS ⟨hR, (by have := zl_m1; omega), (fun hh => by rw [hQ9, ex101] at hh; exact absurd hh (by omega))⟩ hlocks dX6_takeNumber_8
