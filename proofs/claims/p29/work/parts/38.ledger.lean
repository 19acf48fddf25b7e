set_option maxHeartbeats 8000000 in
set_option maxRecDepth 100000 in
theorem c_X1_agrees (l : Launch) (X : zq_X) (zk zn : Nat) (I : zq_M) (L : zq_L X)  (p1 : Nat) (k_p1 : zq_k X p1 = 37) (p2 : Nat) (k_p2 : zq_k X p2 = 1)  : Met l yX1_agrees (zt_w yX1_agrees cX1_agrees 4 (some .boolean)) (zq_rm (1)) (va_Pc [.ref p1, .ref p2] (zq_W X (zk, zn) I)) (va_Qi (fun (r : Int32) I2 => I2 = I ∧ (0 ≤ r.toInt ∧ r.toInt ≤ 1)) (zq_E X (zk, zn)) (zq_A X)) 0 0 (zq_A X) := by
  refine Met.ofW (cc := cX1_agrees) (maxL := 4) (ret := (some .boolean)) (by decide) rfl ?_
  intro p e s m args below meth c s₁ B hml hv
  obtain ⟨hargs, hM, hZ⟩ := hv
  have hown : s.vm.findClass RX1 = some m.cls := findClass_of_methodNamed B.named
  have hts := atoms_spec (ws := zt_w yX1_agrees cX1_agrees 4 (some .boolean)) B.pre
  have E : CallFix p m c cX1_agrees 4 s args (Cond.code yX1_agrees cX1_agrees 4 (some .boolean) :: zt) RX1 := ⟨B.exec, B.bytes, hml, hown, hts⟩
  have hx := B.exec
  have hb := B.bytes
  have hr := B.returns
  have hlocks := B.notSynchronized
  clear B
  have hS : va_S (zq_A X) s.heap s.heap [] := va_S.rf
  have hl := lv_entry ([.ref p1, .ref p2]) (n := 4) (by exact Nat.le_of_ble_eq_true rfl)
  have hg : entryFrame m args 4 = F0 m 0 ((lg_sl ([.ref p1, .ref p2]) ++ List.replicate (4 - (lg_sl ([.ref p1, .ref p2])).length) Slot.unset).toArray) [] := by rw [hargs]; exact lg_entry_eq m ([.ref p1, .ref p2]) 4
  rw [hg]
  clear hg hargs
  generalize (lg_sl ([.ref p1, .ref p2]) ++ List.replicate (4 - (lg_sl ([.ref p1, .ref p2])).length) Slot.unset).toArray = ls at hl ⊢
  have hl : lv_has ls 4 [(0, .ref p1), (1, .ref p2)] := by exact hl
  obtain ⟨R, hRm⟩ : ∃ R : Room, R = (headSpec (zt_w yX1_agrees cX1_agrees 4 (some .boolean)) (zq_rm (1))).room := ⟨_, rfl⟩
  rw [← hRm]
  have hro : ∀ d q : Nat, d + 1 ≤ 1 → q ≤ 45 → zq_rok d q R := fun d q h1 h2 => by rw [hRm]; exact zq_rokI h1 h2
  generalize hQ : MQ below _ args s 0 0 (zq_A X) = Q
  obtain ⟨H, hH⟩ : ∃ H, H = s.heap := ⟨_, rfl⟩
  obtain ⟨locs, hlo⟩ : ∃ x : List Loc, x = [] := ⟨_, rfl⟩
  rw [show W p l e R s m args below meth c s.heap [] 0 0 Q = W p l e R s m args below meth c H locs 0 0 Q by rw [hH, hlo]]
  have hM : zq_hm X (zk, zn) I H := by rw [hH]; exact hM
  have hS : va_S (zq_A X) s.heap H locs := by rw [hH, hlo]; exact hS
  clear hH hlo
  refine lv_iconst (v := 0) hx hb dX1_agrees_0 (by decide +kernel) ?_
  refine lv_istore_n (lv' := [(2, .int (0 : Int32)), (0, .ref p1), (1, .ref p2)]) hx hb dX1_agrees_1 rfl hl (by decide) rfl (fun ls hl => ?_)
  have J2 : ∀ (n154 : Nat) (H : Heap) (locs : List Loc) (ls : Array Slot) (j153 : Int32), 10 + 1 - j153.toInt ≤ ((n154 : Nat) : Int) → (zq_hm X (zk, zn) I H) → (va_S (zq_A X) s.heap H locs) → (0 ≤ j153.toInt ∧ j153.toInt ≤ 10) → (lv_has ls 4 [(2, .int j153), (0, .ref p1), (1, .ref p2)]) → W p l e R s m args below meth c H locs 0 0 Q (F0 m 2 ls []) := by
    intro n154
    induction n154 with
    | zero => intro H locs ls j153 mu155 hM hS gj153 hl; exfalso; have := zi_rng j153; omega
    | succ n154 ih2 =>
      intro H locs ls j153 mu155 hM hS gj153 hl
      refine lv_iload_n hx hb dX1_agrees_2 rfl (lv_at hl 0 rfl) ?_
      refine lv_aload_n hx hb dX1_agrees_3 rfl (lv_at hl 2 rfl) ?_
      refine zq_gn E hM k_p2 (zFX1_52 E hZ) (Or.inl ⟨by decide, by decide, by decide, rfl⟩) dX1_agrees_4 (fun x156 ex156 gx156 => ?_)
      replace gx156 : 0 ≤ x156.toInt ∧ x156.toInt ≤ 10 := gx156
      refine lv_icmp_ge (tgt := 55) hx hb dX1_agrees_7 (by decide) (fun b157 => ?_) (fun b157 => ?_)
      · have b157 := zi_le b157 (rfl : x156.toInt = x156.toInt) (rfl : j153.toInt = j153.toInt)
        refine lv_iconst (v := 1) hx hb dX1_agrees_55 (by decide +kernel) ?_
        subst hQ
        exact zq_zret E hr hZ hM hS (show 0 ≤ (1 : Int32).toInt ∧ (1 : Int32).toInt ≤ 1 by decide +kernel) ⟨rfl, (by have := zl_1; omega)⟩ hlocks dX1_agrees_56
      · have b157 := zi_nle b157 (rfl : x156.toInt = x156.toInt) (rfl : j153.toInt = j153.toInt)
        refine lv_iload_n hx hb dX1_agrees_10 rfl (lv_at hl 0 rfl) ?_
        refine lv_bipush (v := 10) hx hb dX1_agrees_11 (by decide +kernel) ?_
        refine lv_icmp_ge (tgt := 55) hx hb dX1_agrees_13 (by decide) (fun b158 => ?_) (fun b158 => ?_)
        · have b158 := zi_le b158 (zl_10 : (10 : Int32).toInt = 10) (rfl : j153.toInt = j153.toInt)
          exfalso; omega
        · have b158 := zi_nle b158 (zl_10 : (10 : Int32).toInt = 10) (rfl : j153.toInt = j153.toInt)
          refine lv_aload_n hx hb dX1_agrees_16 rfl (lv_at hl 2 rfl) ?_
          refine zq_getr E hM k_p2 (zFX1_55 E hZ) ⟨by decide, by decide, by decide, rfl⟩ dX1_agrees_17 ?_
          have k159 : zq_k X (zq_r X p2 4) = 33 := zq_lk L.1 k_p2 rfl (by decide)
          refine lv_iload_n hx hb dX1_agrees_20 rfl (lv_at hl 0 rfl) ?_
          refine zq_ian (n := 10) (j := (j153.toNatClampNeg)) E hZ hM k159 ⟨by decide, rfl⟩ ⟨by omega, by omega⟩ rfl dX1_agrees_21 (fun x160 ex160 gx160 => ?_)
          clear gx160
          refine lv_istore_n (lv' := [(3, .int x160), (2, .int j153), (0, .ref p1), (1, .ref p2)]) hx hb dX1_agrees_22 rfl hl (by decide) rfl (fun ls hl => ?_)
          refine lv_iload_n hx hb dX1_agrees_23 rfl (lv_at hl 0 rfl) ?_
          refine lv_iconst (v := 0) hx hb dX1_agrees_24 (by decide +kernel) ?_
          refine lv_aload_n hx hb dX1_agrees_25 rfl (lv_at hl 2 rfl) ?_
          refine zq_alen (n := 61) (t := 0) (v := 61) E hZ hM k_p1 ⟨by decide, rfl⟩ (by decide) (by decide +kernel) dX1_agrees_26 ?_
          refine W.eq (g2 := F0 m 27 ls [.int (61 : Int32), .int (0 : Int32), .int x160]) rfl ?_
          refine lv_iconst (v := 1) hx hb dX1_agrees_27 (by decide +kernel) ?_
          refine lv_isub hx hb dX1_agrees_28 ?_
          refine lv_topi (fun x161 ex161 => ?_)
          have tx161 := zi_sub ex161 (zl_61 : (61 : Int32).toInt = 61) (zl_1 : (1 : Int32).toInt = 1) ⟨by omega, by omega⟩
          refine zq_pcalli (zq_rN (As := [.int x160, .int (0 : Int32), .int x161]) (rest := []) E hZ hM (c_X11_isWithin l X zk (zn) I L x160 (0 : Int32) x161) hZ.2.1 zM_X11_isWithin (hro (0) 3 (by first | decide | omega) (by decide)) hl.1 rfl rfl (Nat.le_of_ble_eq_true rfl) dX1_agrees_29) hS (fun x163 H locs h162 hM hS => ?_)
          obtain ⟨p164, p165⟩ := h162
          have := zl_0
          refine lv_if_eq (tgt := 47) hx hb dX1_agrees_32 (by decide) (fun b166 => ?_) (fun b166 => ?_)
          · have b166 := zi_eq b166 (rfl : x163.toInt = x163.toInt) (zl_0 : (0 : Int32).toInt = 0)
            refine lv_iconst (v := 0) hx hb dX1_agrees_47 (by decide +kernel) ?_
            subst hQ
            exact zq_zret E hr hZ hM hS (show 0 ≤ (0 : Int32).toInt ∧ (0 : Int32).toInt ≤ 1 by decide +kernel) ⟨rfl, (by have := zl_0; omega)⟩ hlocks dX1_agrees_48
          · have b166 := zi_ne b166 (rfl : x163.toInt = x163.toInt) (zl_0 : (0 : Int32).toInt = 0)
            refine lv_aload_n hx hb dX1_agrees_35 rfl (lv_at hl 2 rfl) ?_
            refine lv_iload_n hx hb dX1_agrees_36 rfl (lv_at hl 0 rfl) ?_
            refine zq_ian (n := 61) (j := (x160.toNatClampNeg)) E hZ hM k_p1 ⟨by decide, rfl⟩ ⟨by omega, by omega⟩ rfl dX1_agrees_37 (fun x167 ex167 gx167 => ?_)
            clear gx167
            refine lv_aload_n hx hb dX1_agrees_38 rfl (lv_at hl 3 rfl) ?_
            refine zq_getr E hM k_p2 (zFX1_63 E hZ) ⟨by decide, by decide, by decide, rfl⟩ dX1_agrees_39 ?_
            have k168 : zq_k X (zq_r X p2 5) = 33 := zq_lk L.1 k_p2 rfl (by decide)
            refine lv_iload_n hx hb dX1_agrees_42 rfl (lv_at hl 1 rfl) ?_
            refine zq_ian (n := 10) (j := (j153.toNatClampNeg)) E hZ hM k168 ⟨by decide, rfl⟩ ⟨by omega, by omega⟩ rfl dX1_agrees_43 (fun x169 ex169 gx169 => ?_)
            clear gx169
            refine lv_icmp_eq (tgt := 49) hx hb dX1_agrees_44 (by decide) (fun b170 => ?_) (fun b170 => ?_)
            · have b170 := zi_eq b170 (rfl : x167.toInt = x167.toInt) (rfl : x169.toInt = x169.toInt)
              obtain ⟨x171, ex171⟩ : ∃ y : Int32, y = j153 + 1 := ⟨_, rfl⟩
              have tx171 := zi_add ex171 (rfl : j153.toInt = j153.toInt) zl_1 ⟨by omega, by omega⟩
              refine lv_iinc (v := x171) (lv' := [(2, .int x171), (3, .int x160), (0, .ref p1), (1, .ref p2)]) hx hb dX1_agrees_49 hl (k := 1) rfl (by rw [ex171]; rfl) (by decide) rfl (fun ls hl => ?_)
              refine lv_goto (tgt := 2) hx hb dX1_agrees_52 (by decide) ?_
              exact ih2 H locs ls x171 (by omega) hM hS (⟨by omega, by omega⟩) (lv_sub hl [0, 2, 3] rfl)
            · have b170 := zi_ne b170 (rfl : x167.toInt = x167.toInt) (rfl : x169.toInt = x169.toInt)
              refine lv_iconst (v := 0) hx hb dX1_agrees_47 (by decide +kernel) ?_
              subst hQ
              exact zq_zret E hr hZ hM hS (show 0 ≤ (0 : Int32).toInt ∧ (0 : Int32).toInt ≤ 1 by decide +kernel) ⟨rfl, (by have := zl_0; omega)⟩ hlocks dX1_agrees_48
  exact J2 (10 + 1 - (0 : Int32).toInt).toNat H locs ls (0 : Int32) (by omega) hM hS (by rw [zl_0]; decide) (lv_sub hl [0, 1, 2] rfl)
set_option maxHeartbeats 8000000 in
set_option maxRecDepth 100000 in
theorem c_X1_fitting (l : Launch) (X : zq_X) (zk zn : Nat) (I : zq_M) (L : zq_L X)  (h0 : Nat) (k_h0 : zq_k X h0 = 2)  : Met l yX1_fitting (zt_w yX1_fitting cX1_fitting 3 (some .int)) (zq_rm (0)) (va_Pc [.ref h0] (zq_W X (zk, zn) I)) (va_Qi (fun (r : Int32) I2 => I2 = I ∧ True) (zq_E X (zk, zn)) (zq_A X)) 0 0 (zq_A X) := by
  refine Met.ofW (cc := cX1_fitting) (maxL := 3) (ret := (some .int)) (by decide) rfl ?_
  intro p e s m args below meth c s₁ B hml hv
  obtain ⟨hargs, hM, hZ⟩ := hv
  have hown : s.vm.findClass RX1 = some m.cls := findClass_of_methodNamed B.named
  have hts := atoms_spec (ws := zt_w yX1_fitting cX1_fitting 3 (some .int)) B.pre
  have E : CallFix p m c cX1_fitting 3 s args (Cond.code yX1_fitting cX1_fitting 3 (some .int) :: zt) RX1 := ⟨B.exec, B.bytes, hml, hown, hts⟩
  have hx := B.exec
  have hb := B.bytes
  have hr := B.returns
  have hlocks := B.notSynchronized
  clear B
  have hS : va_S (zq_A X) s.heap s.heap [] := va_S.rf
  have hl := lv_entry ([.ref h0]) (n := 3) (by exact Nat.le_of_ble_eq_true rfl)
  have hg : entryFrame m args 3 = F0 m 0 ((lg_sl ([.ref h0]) ++ List.replicate (3 - (lg_sl ([.ref h0])).length) Slot.unset).toArray) [] := by rw [hargs]; exact lg_entry_eq m ([.ref h0]) 3
  rw [hg]
  clear hg hargs
  generalize (lg_sl ([.ref h0]) ++ List.replicate (3 - (lg_sl ([.ref h0])).length) Slot.unset).toArray = ls at hl ⊢
  have hl : lv_has ls 3 [(0, .ref h0)] := by exact hl
  obtain ⟨R, hRm⟩ : ∃ R : Room, R = (headSpec (zt_w yX1_fitting cX1_fitting 3 (some .int)) (zq_rm (0))).room := ⟨_, rfl⟩
  rw [← hRm]
  generalize hQ : MQ below _ args s 0 0 (zq_A X) = Q
  obtain ⟨H, hH⟩ : ∃ H, H = s.heap := ⟨_, rfl⟩
  obtain ⟨locs, hlo⟩ : ∃ x : List Loc, x = [] := ⟨_, rfl⟩
  rw [show W p l e R s m args below meth c s.heap [] 0 0 Q = W p l e R s m args below meth c H locs 0 0 Q by rw [hH, hlo]]
  have hM : zq_hm X (zk, zn) I H := by rw [hH]; exact hM
  have hS : va_S (zq_A X) s.heap H locs := by rw [hH, hlo]; exact hS
  clear hH hlo
  refine lv_iconst (v := 0) hx hb dX1_fitting_0 (by decide +kernel) ?_
  refine lv_istore_n (lv' := [(1, .int (0 : Int32)), (0, .ref h0)]) hx hb dX1_fitting_1 rfl hl (by decide) rfl (fun ls hl => ?_)
  refine lv_iconst (v := 0) hx hb dX1_fitting_2 (by decide +kernel) ?_
  refine lv_istore_n (lv' := [(2, .int (0 : Int32)), (1, .int (0 : Int32)), (0, .ref h0)]) hx hb dX1_fitting_3 rfl hl (by decide) rfl (fun ls hl => ?_)
  have J4 : ∀ (n159 : Nat) (ls : Array Slot) (j157 : Int32) (j158 : Int32), 7 + 1 - j157.toInt ≤ ((n159 : Nat) : Int) → (0 ≤ j157.toInt ∧ j157.toInt ≤ 7) → (lv_has ls 3 [(2, .int j157), (1, .int j158), (0, .ref h0)]) → W p l e R s m args below meth c H locs 0 0 Q (F0 m 4 ls []) := by
    intro n159
    induction n159 with
    | zero => intro ls j157 j158 mu160 gj157 hl; exfalso; have := zi_rng j157; omega
    | succ n159 ih4 =>
      intro ls j157 j158 mu160 gj157 hl
      refine lv_iload_n hx hb dX1_fitting_4 rfl (lv_at hl 0 rfl) ?_
      refine lv_aload_n hx hb dX1_fitting_5 rfl (lv_at hl 2 rfl) ?_
      refine zq_getr E hM k_h0 (zFX1_23 E hZ) ⟨by decide, by decide, by decide, rfl⟩ dX1_fitting_6 ?_
      have k161 : zq_k X (zq_r X h0 2) = 38 := zq_lk L.1 k_h0 rfl (by decide)
      refine zq_alen (n := 7) (t := 1) (v := 7) E hZ hM k161 ⟨by decide, rfl⟩ (by decide) (by decide +kernel) dX1_fitting_9 ?_
      refine lv_icmp_ge (tgt := 36) hx hb dX1_fitting_10 (by decide) (fun b162 => ?_) (fun b162 => ?_)
      · have b162 := zi_le b162 (zl_7 : (7 : Int32).toInt = 7) (rfl : j157.toInt = j157.toInt)
        refine lv_iload_n hx hb dX1_fitting_36 rfl (lv_at hl 1 rfl) ?_
        subst hQ
        exact zq_iret E hr hZ hM hS ⟨rfl, trivial⟩ hlocks dX1_fitting_37
      · have b162 := zi_nle b162 (zl_7 : (7 : Int32).toInt = 7) (rfl : j157.toInt = j157.toInt)
        refine lv_iload_n hx hb dX1_fitting_13 rfl (lv_at hl 1 rfl) ?_
        refine lv_aload_n hx hb dX1_fitting_14 rfl (lv_at hl 2 rfl) ?_
        refine zq_getr E hM k_h0 (zFX1_23 E hZ) ⟨by decide, by decide, by decide, rfl⟩ dX1_fitting_15 ?_
        have k163 : zq_k X (zq_r X h0 2) = 38 := zq_lk L.1 k_h0 rfl (by decide)
        refine lv_iload_n hx hb dX1_fitting_18 rfl (lv_at hl 0 rfl) ?_
        refine zq_zan (n := 7) (j := (j157.toNatClampNeg)) E hZ hM k163 ⟨by decide, rfl⟩ ⟨by omega, by omega⟩ rfl dX1_fitting_19 (fun x164 ex164 gx164 => ?_)
        replace gx164 : 0 ≤ x164.toInt ∧ x164.toInt ≤ 1 := gx164
        have J28 : ∀ (ls : Array Slot) (j165 : Int32), (0 ≤ j165.toInt ∧ j165.toInt ≤ 1) → (lv_has ls 3 [(2, .int j157), (1, .int j158), (0, .ref h0)]) → W p l e R s m args below meth c H locs 0 0 Q (F0 m 28 ls [.int j165, .int j158]) := by
          intro ls j165 gj165 hl
          refine lv_iadd hx hb dX1_fitting_28 ?_
          refine lv_topi (fun x168 ex168 => ?_)
          refine lv_istore_n (lv' := [(1, .int x168), (2, .int j157), (0, .ref h0)]) hx hb dX1_fitting_29 rfl hl (by decide) rfl (fun ls hl => ?_)
          obtain ⟨x169, ex169⟩ : ∃ y : Int32, y = j157 + 1 := ⟨_, rfl⟩
          have tx169 := zi_add ex169 (rfl : j157.toInt = j157.toInt) zl_1 ⟨by omega, by omega⟩
          refine lv_iinc (v := x169) (lv' := [(2, .int x169), (1, .int x168), (0, .ref h0)]) hx hb dX1_fitting_30 hl (k := 1) rfl (by rw [ex169]; rfl) (by decide) rfl (fun ls hl => ?_)
          refine lv_goto (tgt := 4) hx hb dX1_fitting_33 (by decide) ?_
          exact ih4 ls x169 x168 (by omega) (⟨by omega, by omega⟩) (lv_sub hl [0, 1, 2] rfl)
        refine lv_if_eq (tgt := 27) hx hb dX1_fitting_20 (by decide) (fun b170 => ?_) (fun b170 => ?_)
        · have b170 := zi_eq b170 (rfl : x164.toInt = x164.toInt) (zl_0 : (0 : Int32).toInt = 0)
          refine lv_iconst (v := 0) hx hb dX1_fitting_27 (by decide +kernel) ?_
          exact J28 ls (0 : Int32) (by rw [zl_0]; decide) (lv_sub hl [0, 1, 2] rfl)
        · have b170 := zi_ne b170 (rfl : x164.toInt = x164.toInt) (zl_0 : (0 : Int32).toInt = 0)
          refine lv_iconst (v := 1) hx hb dX1_fitting_23 (by decide +kernel) ?_
          refine lv_goto (tgt := 28) hx hb dX1_fitting_24 (by decide) ?_
          exact J28 ls (1 : Int32) (by rw [zl_1]; decide) (lv_sub hl [0, 1, 2] rfl)
  exact J4 (7 + 1 - (0 : Int32).toInt).toNat ls (0 : Int32) (0 : Int32) (by omega) (by rw [zl_0]; decide) (lv_sub hl [0, 1, 2] rfl)
set_option maxHeartbeats 8000000 in
set_option maxRecDepth 100000 in
theorem c_X1_firstFitting (l : Launch) (X : zq_X) (zk zn : Nat) (I : zq_M) (L : zq_L X)  (h0 : Nat) (k_h0 : zq_k X h0 = 2)  : Met l yX1_firstFitting (zt_w yX1_firstFitting cX1_firstFitting 2 (some .int)) (zq_rm (0)) (va_Pc [.ref h0] (zq_W X (zk, zn) I)) (va_Qi (fun (r : Int32) I2 => I2 = I ∧ ((-2) ≤ r.toInt ∧ r.toInt ≤ 5)) (zq_E X (zk, zn)) (zq_A X)) 0 0 (zq_A X) := by
  refine Met.ofW (cc := cX1_firstFitting) (maxL := 2) (ret := (some .int)) (by decide) rfl ?_
  intro p e s m args below meth c s₁ B hml hv
  obtain ⟨hargs, hM, hZ⟩ := hv
  have hown : s.vm.findClass RX1 = some m.cls := findClass_of_methodNamed B.named
  have hts := atoms_spec (ws := zt_w yX1_firstFitting cX1_firstFitting 2 (some .int)) B.pre
  have E : CallFix p m c cX1_firstFitting 2 s args (Cond.code yX1_firstFitting cX1_firstFitting 2 (some .int) :: zt) RX1 := ⟨B.exec, B.bytes, hml, hown, hts⟩
  have hx := B.exec
  have hb := B.bytes
  have hr := B.returns
  have hlocks := B.notSynchronized
  clear B
  have hS : va_S (zq_A X) s.heap s.heap [] := va_S.rf
  have hl := lv_entry ([.ref h0]) (n := 2) (by exact Nat.le_of_ble_eq_true rfl)
  have hg : entryFrame m args 2 = F0 m 0 ((lg_sl ([.ref h0]) ++ List.replicate (2 - (lg_sl ([.ref h0])).length) Slot.unset).toArray) [] := by rw [hargs]; exact lg_entry_eq m ([.ref h0]) 2
  rw [hg]
  clear hg hargs
  generalize (lg_sl ([.ref h0]) ++ List.replicate (2 - (lg_sl ([.ref h0])).length) Slot.unset).toArray = ls at hl ⊢
  have hl : lv_has ls 2 [(0, .ref h0)] := by exact hl
  obtain ⟨R, hRm⟩ : ∃ R : Room, R = (headSpec (zt_w yX1_firstFitting cX1_firstFitting 2 (some .int)) (zq_rm (0))).room := ⟨_, rfl⟩
  rw [← hRm]
  generalize hQ : MQ below _ args s 0 0 (zq_A X) = Q
  obtain ⟨H, hH⟩ : ∃ H, H = s.heap := ⟨_, rfl⟩
  obtain ⟨locs, hlo⟩ : ∃ x : List Loc, x = [] := ⟨_, rfl⟩
  rw [show W p l e R s m args below meth c s.heap [] 0 0 Q = W p l e R s m args below meth c H locs 0 0 Q by rw [hH, hlo]]
  have hM : zq_hm X (zk, zn) I H := by rw [hH]; exact hM
  have hS : va_S (zq_A X) s.heap H locs := by rw [hH, hlo]; exact hS
  clear hH hlo
  refine lv_iconst (v := 0) hx hb dX1_firstFitting_0 (by decide +kernel) ?_
  refine lv_istore_n (lv' := [(1, .int (0 : Int32)), (0, .ref h0)]) hx hb dX1_firstFitting_1 rfl hl (by decide) rfl (fun ls hl => ?_)
  have J2 : ∀ (n126 : Nat) (ls : Array Slot) (j125 : Int32), 7 + 1 - j125.toInt ≤ ((n126 : Nat) : Int) → (0 ≤ j125.toInt ∧ j125.toInt ≤ 7) → (lv_has ls 2 [(1, .int j125), (0, .ref h0)]) → W p l e R s m args below meth c H locs 0 0 Q (F0 m 2 ls []) := by
    intro n126
    induction n126 with
    | zero => intro ls j125 mu127 gj125 hl; exfalso; have := zi_rng j125; omega
    | succ n126 ih2 =>
      intro ls j125 mu127 gj125 hl
      refine lv_iload_n hx hb dX1_firstFitting_2 rfl (lv_at hl 0 rfl) ?_
      refine lv_aload_n hx hb dX1_firstFitting_3 rfl (lv_at hl 1 rfl) ?_
      refine zq_getr E hM k_h0 (zFX1_23 E hZ) ⟨by decide, by decide, by decide, rfl⟩ dX1_firstFitting_4 ?_
      have k128 : zq_k X (zq_r X h0 2) = 38 := zq_lk L.1 k_h0 rfl (by decide)
      refine zq_alen (n := 7) (t := 1) (v := 7) E hZ hM k128 ⟨by decide, rfl⟩ (by decide) (by decide +kernel) dX1_firstFitting_7 ?_
      refine lv_icmp_ge (tgt := 30) hx hb dX1_firstFitting_8 (by decide) (fun b129 => ?_) (fun b129 => ?_)
      · have b129 := zi_le b129 (zl_7 : (7 : Int32).toInt = 7) (rfl : j125.toInt = j125.toInt)
        refine lv_bipush (v := (-2)) hx hb dX1_firstFitting_30 (by decide +kernel) ?_
        subst hQ
        exact zq_iret E hr hZ hM hS ⟨rfl, (by have := zl_m2; omega)⟩ hlocks dX1_firstFitting_32
      · have b129 := zi_nle b129 (zl_7 : (7 : Int32).toInt = 7) (rfl : j125.toInt = j125.toInt)
        refine lv_aload_n hx hb dX1_firstFitting_11 rfl (lv_at hl 1 rfl) ?_
        refine zq_getr E hM k_h0 (zFX1_23 E hZ) ⟨by decide, by decide, by decide, rfl⟩ dX1_firstFitting_12 ?_
        have k130 : zq_k X (zq_r X h0 2) = 38 := zq_lk L.1 k_h0 rfl (by decide)
        refine lv_iload_n hx hb dX1_firstFitting_15 rfl (lv_at hl 0 rfl) ?_
        refine zq_zan (n := 7) (j := (j125.toNatClampNeg)) E hZ hM k130 ⟨by decide, rfl⟩ ⟨by omega, by omega⟩ rfl dX1_firstFitting_16 (fun x131 ex131 gx131 => ?_)
        replace gx131 : 0 ≤ x131.toInt ∧ x131.toInt ≤ 1 := gx131
        refine lv_if_eq (tgt := 24) hx hb dX1_firstFitting_17 (by decide) (fun b132 => ?_) (fun b132 => ?_)
        · have b132 := zi_eq b132 (rfl : x131.toInt = x131.toInt) (zl_0 : (0 : Int32).toInt = 0)
          obtain ⟨x133, ex133⟩ : ∃ y : Int32, y = j125 + 1 := ⟨_, rfl⟩
          have tx133 := zi_add ex133 (rfl : j125.toInt = j125.toInt) zl_1 ⟨by omega, by omega⟩
          refine lv_iinc (v := x133) (lv' := [(1, .int x133), (0, .ref h0)]) hx hb dX1_firstFitting_24 hl (k := 0) rfl (by rw [ex133]; rfl) (by decide) rfl (fun ls hl => ?_)
          refine lv_goto (tgt := 2) hx hb dX1_firstFitting_27 (by decide) ?_
          exact ih2 ls x133 (by omega) (⟨by omega, by omega⟩) (lv_sub hl [0, 1] rfl)
        · have b132 := zi_ne b132 (rfl : x131.toInt = x131.toInt) (zl_0 : (0 : Int32).toInt = 0)
          refine lv_iload_n hx hb dX1_firstFitting_20 rfl (lv_at hl 0 rfl) ?_
          refine lv_iconst (v := 1) hx hb dX1_firstFitting_21 (by decide +kernel) ?_
          refine lv_isub hx hb dX1_firstFitting_22 ?_
          refine lv_topi (fun x134 ex134 => ?_)
          have tx134 := zi_sub ex134 (rfl : j125.toInt = j125.toInt) (zl_1 : (1 : Int32).toInt = 1) ⟨by omega, by omega⟩
          subst hQ
          exact zq_iret E hr hZ hM hS ⟨rfl, (by omega)⟩ hlocks dX1_firstFitting_23
  exact J2 (7 + 1 - (0 : Int32).toInt).toNat ls (0 : Int32) (by omega) (by rw [zl_0]; decide) (lv_sub hl [0, 1] rfl)
set_option maxHeartbeats 8000000 in
set_option maxRecDepth 100000 in
theorem c_X1_mostAlike (l : Launch) (X : zq_X) (zk zn : Nat) (I : zq_M) (L : zq_L X)  (h0 : Nat) (k_h0 : zq_k X h0 = 2) (p1 : Int32) (g_p1 : 0 ≤ p1.toInt ∧ p1.toInt ≤ 60) : Met l yX1_mostAlike (zt_w yX1_mostAlike cX1_mostAlike 6 (some .int)) (zq_rm (1)) (va_Pc [.ref h0, .int p1] (zq_W X (zk, zn) I)) (va_Qi (fun (r : Int32) I2 => I2 = I ∧ (0 ≤ r.toInt)) (zq_E X (zk, zn)) (zq_A X)) 0 0 (zq_A X) := by
  refine Met.ofW (cc := cX1_mostAlike) (maxL := 6) (ret := (some .int)) (by decide) rfl ?_
  intro p e s m args below meth c s₁ B hml hv
  obtain ⟨hargs, hM, hZ⟩ := hv
  have hown : s.vm.findClass RX1 = some m.cls := findClass_of_methodNamed B.named
  have hts := atoms_spec (ws := zt_w yX1_mostAlike cX1_mostAlike 6 (some .int)) B.pre
  have E : CallFix p m c cX1_mostAlike 6 s args (Cond.code yX1_mostAlike cX1_mostAlike 6 (some .int) :: zt) RX1 := ⟨B.exec, B.bytes, hml, hown, hts⟩
  have hx := B.exec
  have hb := B.bytes
  have hr := B.returns
  have hlocks := B.notSynchronized
  clear B
  have hS : va_S (zq_A X) s.heap s.heap [] := va_S.rf
  have hl := lv_entry ([.ref h0, .int p1]) (n := 6) (by exact Nat.le_of_ble_eq_true rfl)
  have hg : entryFrame m args 6 = F0 m 0 ((lg_sl ([.ref h0, .int p1]) ++ List.replicate (6 - (lg_sl ([.ref h0, .int p1])).length) Slot.unset).toArray) [] := by rw [hargs]; exact lg_entry_eq m ([.ref h0, .int p1]) 6
  rw [hg]
  clear hg hargs
  generalize (lg_sl ([.ref h0, .int p1]) ++ List.replicate (6 - (lg_sl ([.ref h0, .int p1])).length) Slot.unset).toArray = ls at hl ⊢
  have hl : lv_has ls 6 [(0, .ref h0), (1, .int p1)] := by exact hl
  obtain ⟨R, hRm⟩ : ∃ R : Room, R = (headSpec (zt_w yX1_mostAlike cX1_mostAlike 6 (some .int)) (zq_rm (1))).room := ⟨_, rfl⟩
  rw [← hRm]
  have hro : ∀ d q : Nat, d + 1 ≤ 1 → q ≤ 45 → zq_rok d q R := fun d q h1 h2 => by rw [hRm]; exact zq_rokI h1 h2
  generalize hQ : MQ below _ args s 0 0 (zq_A X) = Q
  obtain ⟨H, hH⟩ : ∃ H, H = s.heap := ⟨_, rfl⟩
  obtain ⟨locs, hlo⟩ : ∃ x : List Loc, x = [] := ⟨_, rfl⟩
  rw [show W p l e R s m args below meth c s.heap [] 0 0 Q = W p l e R s m args below meth c H locs 0 0 Q by rw [hH, hlo]]
  have hM : zq_hm X (zk, zn) I H := by rw [hH]; exact hM
  have hS : va_S (zq_A X) s.heap H locs := by rw [hH, hlo]; exact hS
  clear hH hlo
  refine lv_iconst (v := 0) hx hb dX1_mostAlike_0 (by decide +kernel) ?_
  refine lv_istore_n (lv' := [(2, .int (0 : Int32)), (0, .ref h0), (1, .int p1)]) hx hb dX1_mostAlike_1 rfl hl (by decide) rfl (fun ls hl => ?_)
  refine lv_iconst (v := 0) hx hb dX1_mostAlike_2 (by decide +kernel) ?_
  refine lv_istore_n (lv' := [(3, .int (0 : Int32)), (2, .int (0 : Int32)), (0, .ref h0), (1, .int p1)]) hx hb dX1_mostAlike_3 rfl hl (by decide) rfl (fun ls hl => ?_)
  have J4 : ∀ (n755 : Nat) (H : Heap) (locs : List Loc) (ls : Array Slot) (j753 : Int32) (j754 : Int32), 7 + 1 - j753.toInt ≤ ((n755 : Nat) : Int) → (zq_hm X (zk, zn) I H) → (va_S (zq_A X) s.heap H locs) → (0 ≤ j753.toInt ∧ j753.toInt ≤ 7) → (0 ≤ j754.toInt) → (lv_has ls 6 [(3, .int j753), (2, .int j754), (0, .ref h0), (1, .int p1)]) → W p l e R s m args below meth c H locs 0 0 Q (F0 m 4 ls []) := by
    intro n755
    induction n755 with
    | zero => intro H locs ls j753 j754 mu756 hM hS gj753 gj754 hl; exfalso; have := zi_rng j753; omega
    | succ n755 ih4 =>
      intro H locs ls j753 j754 mu756 hM hS gj753 gj754 hl
      have := zi_rng j754
      refine lv_iload_n hx hb dX1_mostAlike_4 rfl (lv_at hl 0 rfl) ?_
      refine lv_aload_n hx hb dX1_mostAlike_5 rfl (lv_at hl 2 rfl) ?_
      refine zq_getr E hM k_h0 (zFX1_23 E hZ) ⟨by decide, by decide, by decide, rfl⟩ dX1_mostAlike_6 ?_
      have k757 : zq_k X (zq_r X h0 2) = 38 := zq_lk L.1 k_h0 rfl (by decide)
      refine zq_alen (n := 7) (t := 1) (v := 7) E hZ hM k757 ⟨by decide, rfl⟩ (by decide) (by decide +kernel) dX1_mostAlike_9 ?_
      refine lv_icmp_ge (tgt := 97) hx hb dX1_mostAlike_10 (by decide) (fun b758 => ?_) (fun b758 => ?_)
      · have b758 := zi_le b758 (zl_7 : (7 : Int32).toInt = 7) (rfl : j753.toInt = j753.toInt)
        refine lv_iload_n hx hb dX1_mostAlike_97 rfl (lv_at hl 1 rfl) ?_
        subst hQ
        exact zq_iret E hr hZ hM hS ⟨rfl, (by have := zi_rng j754; omega)⟩ hlocks dX1_mostAlike_98
      · have b758 := zi_nle b758 (zl_7 : (7 : Int32).toInt = 7) (rfl : j753.toInt = j753.toInt)
        refine lv_iconst (v := 0) hx hb dX1_mostAlike_13 (by decide +kernel) ?_
        refine lv_istore (lv' := [(4, .int (0 : Int32)), (3, .int j753), (2, .int j754), (0, .ref h0), (1, .int p1)]) hx hb dX1_mostAlike_14 hl (by decide) rfl (fun ls hl => ?_)
        refine lv_iconst (v := 0) hx hb dX1_mostAlike_16 (by decide +kernel) ?_
        refine lv_istore (lv' := [(5, .int (0 : Int32)), (4, .int (0 : Int32)), (3, .int j753), (2, .int j754), (0, .ref h0), (1, .int p1)]) hx hb dX1_mostAlike_17 hl (by decide) rfl (fun ls hl => ?_)
        have J19 : ∀ (n901 : Nat) (ls : Array Slot) (j899 : Int32) (j900 : Int32), 7 + 1 - j899.toInt ≤ ((n901 : Nat) : Int) → (0 ≤ j899.toInt ∧ j899.toInt ≤ 7) → (lv_has ls 6 [(5, .int j899), (4, .int j900), (3, .int j753), (2, .int j754), (0, .ref h0), (1, .int p1)]) → W p l e R s m args below meth c H locs 0 0 Q (F0 m 19 ls []) := by
          intro n901
          induction n901 with
          | zero => intro ls j899 j900 mu902 gj899 hl; exfalso; have := zi_rng j899; omega
          | succ n901 ih19 =>
            intro ls j899 j900 mu902 gj899 hl
            refine lv_aload_n hx hb dX1_mostAlike_19 rfl (lv_at hl 4 rfl) ?_
            refine zq_getr E hM k_h0 (zFX1_23 E hZ) ⟨by decide, by decide, by decide, rfl⟩ dX1_mostAlike_20 ?_
            have k903 : zq_k X (zq_r X h0 2) = 38 := zq_lk L.1 k_h0 rfl (by decide)
            refine lv_iload_n hx hb dX1_mostAlike_23 rfl (lv_at hl 2 rfl) ?_
            refine zq_zan (n := 7) (j := (j753.toNatClampNeg)) E hZ hM k903 ⟨by decide, rfl⟩ ⟨by omega, by omega⟩ rfl dX1_mostAlike_24 (fun x904 ex904 gx904 => ?_)
            replace gx904 : 0 ≤ x904.toInt ∧ x904.toInt ≤ 1 := gx904
            have J84 : ∀ (ls : Array Slot), (lv_has ls 6 [(5, .int j899), (4, .int j900), (3, .int j753), (2, .int j754), (0, .ref h0), (1, .int p1)]) → W p l e R s m args below meth c H locs 0 0 Q (F0 m 84 ls []) := by
              intro ls hl
              refine lv_iload_n hx hb dX1_mostAlike_84 rfl (lv_at hl 3 rfl) ?_
              refine lv_iload hx hb dX1_mostAlike_85 (lv_at hl 1 rfl) ?_
              refine zq_pcalli (zq_rS (As := [.int j754, .int j900]) (rest := []) E hZ hM (c_J9_max_7cf53 l X zk (zn) I L j754 j900) zmX1_70 zM_J9_max_7cf53 (hro (0) 2 (by first | decide | omega) (by decide)) hl.1 rfl rfl (Nat.le_of_ble_eq_true rfl) dX1_mostAlike_87) hS (fun x922 H locs h921 hM hS => ?_)
              have p923 := h921
              refine lv_istore_n (lv' := [(2, .int x922), (5, .int j899), (4, .int j900), (3, .int j753), (0, .ref h0), (1, .int p1)]) hx hb dX1_mostAlike_90 rfl hl (by decide) rfl (fun ls hl => ?_)
              obtain ⟨x924, ex924⟩ : ∃ y : Int32, y = j753 + 1 := ⟨_, rfl⟩
              have tx924 := zi_add ex924 (rfl : j753.toInt = j753.toInt) zl_1 ⟨by omega, by omega⟩
              refine lv_iinc (v := x924) (lv' := [(3, .int x924), (2, .int x922), (5, .int j899), (4, .int j900), (0, .ref h0), (1, .int p1)]) hx hb dX1_mostAlike_91 hl (k := 3) rfl (by rw [ex924]; rfl) (by decide) rfl (fun ls hl => ?_)
              refine lv_goto (tgt := 4) hx hb dX1_mostAlike_94 (by decide) ?_
              exact ih4 H locs ls x924 x922 (by omega) hM hS (⟨by omega, by omega⟩) (by have := zi_rng x922; omega) (lv_sub hl [0, 1, 4, 5] rfl)
            refine lv_if_eq (tgt := 84) hx hb dX1_mostAlike_25 (by decide) (fun b925 => ?_) (fun b925 => ?_)
            · have b925 := zi_eq b925 (rfl : x904.toInt = x904.toInt) (zl_0 : (0 : Int32).toInt = 0)
              exact J84 ls (lv_sub hl [0, 1, 2, 3, 4, 5] rfl)
            · have b925 := zi_ne b925 (rfl : x904.toInt = x904.toInt) (zl_0 : (0 : Int32).toInt = 0)
              refine lv_iload hx hb dX1_mostAlike_28 (lv_at hl 0 rfl) ?_
              refine lv_aload_n hx hb dX1_mostAlike_30 rfl (lv_at hl 4 rfl) ?_
              refine zq_getr E hM k_h0 (zFX1_23 E hZ) ⟨by decide, by decide, by decide, rfl⟩ dX1_mostAlike_31 ?_
              have k926 : zq_k X (zq_r X h0 2) = 38 := zq_lk L.1 k_h0 rfl (by decide)
              refine zq_alen (n := 7) (t := 1) (v := 7) E hZ hM k926 ⟨by decide, rfl⟩ (by decide) (by decide +kernel) dX1_mostAlike_34 ?_
              refine lv_icmp_ge (tgt := 84) hx hb dX1_mostAlike_35 (by decide) (fun b927 => ?_) (fun b927 => ?_)
              · have b927 := zi_le b927 (zl_7 : (7 : Int32).toInt = 7) (rfl : j899.toInt = j899.toInt)
                exact J84 ls (lv_sub hl [0, 1, 2, 3, 4, 5] rfl)
              · have b927 := zi_nle b927 (zl_7 : (7 : Int32).toInt = 7) (rfl : j899.toInt = j899.toInt)
                refine lv_iload hx hb dX1_mostAlike_38 (lv_at hl 1 rfl) ?_
                refine lv_aload_n hx hb dX1_mostAlike_40 rfl (lv_at hl 4 rfl) ?_
                refine zq_getr E hM k_h0 (zFX1_23 E hZ) ⟨by decide, by decide, by decide, rfl⟩ dX1_mostAlike_41 ?_
                have k928 : zq_k X (zq_r X h0 2) = 38 := zq_lk L.1 k_h0 rfl (by decide)
                refine lv_iload hx hb dX1_mostAlike_44 (lv_at hl 0 rfl) ?_
                refine zq_zan (n := 7) (j := (j899.toNatClampNeg)) E hZ hM k928 ⟨by decide, rfl⟩ ⟨by omega, by omega⟩ rfl dX1_mostAlike_46 (fun x929 ex929 gx929 => ?_)
                replace gx929 : 0 ≤ x929.toInt ∧ x929.toInt ≤ 1 := gx929
                have J75 : ∀ (ls : Array Slot) (j936 : Int32), (0 ≤ j936.toInt ∧ j936.toInt ≤ 1) → (lv_has ls 6 [(5, .int j899), (4, .int j900), (3, .int j753), (2, .int j754), (0, .ref h0), (1, .int p1)]) → W p l e R s m args below meth c H locs 0 0 Q (F0 m 75 ls [.int j936, .int j900]) := by
                  intro ls j936 gj936 hl
                  refine lv_iadd hx hb dX1_mostAlike_75 ?_
                  refine lv_topi (fun x939 ex939 => ?_)
                  refine lv_istore (lv' := [(4, .int x939), (5, .int j899), (3, .int j753), (2, .int j754), (0, .ref h0), (1, .int p1)]) hx hb dX1_mostAlike_76 hl (by decide) rfl (fun ls hl => ?_)
                  obtain ⟨x940, ex940⟩ : ∃ y : Int32, y = j899 + 1 := ⟨_, rfl⟩
                  have tx940 := zi_add ex940 (rfl : j899.toInt = j899.toInt) zl_1 ⟨by omega, by omega⟩
                  refine lv_iinc (v := x940) (lv' := [(5, .int x940), (4, .int x939), (3, .int j753), (2, .int j754), (0, .ref h0), (1, .int p1)]) hx hb dX1_mostAlike_78 hl (k := 1) rfl (by rw [ex940]; rfl) (by decide) rfl (fun ls hl => ?_)
                  refine lv_goto (tgt := 19) hx hb dX1_mostAlike_81 (by decide) ?_
                  exact ih19 ls x940 x939 (by omega) (⟨by omega, by omega⟩) (lv_sub hl [0, 1, 2, 3, 4, 5] rfl)
                have J74 : ∀ (ls : Array Slot), (lv_has ls 6 [(5, .int j899), (4, .int j900), (3, .int j753), (2, .int j754), (0, .ref h0), (1, .int p1)]) → W p l e R s m args below meth c H locs 0 0 Q (F0 m 74 ls [.int j900]) := by
                  intro ls hl
                  refine lv_iconst (v := 0) hx hb dX1_mostAlike_74 (by decide +kernel) ?_
                  exact J75 ls (0 : Int32) (by rw [zl_0]; decide) (lv_sub hl [0, 1, 2, 3, 4, 5] rfl)
                refine lv_if_eq (tgt := 74) hx hb dX1_mostAlike_47 (by decide) (fun b941 => ?_) (fun b941 => ?_)
                · have b941 := zi_eq b941 (rfl : x929.toInt = x929.toInt) (zl_0 : (0 : Int32).toInt = 0)
                  exact J74 ls (lv_sub hl [0, 1, 2, 3, 4, 5] rfl)
                · have b941 := zi_ne b941 (rfl : x929.toInt = x929.toInt) (zl_0 : (0 : Int32).toInt = 0)
                  refine lv_aload_n hx hb dX1_mostAlike_50 rfl (lv_at hl 4 rfl) ?_
                  refine zq_getr E hM k_h0 (zFX1_20 E hZ) ⟨by decide, by decide, by decide, rfl⟩ dX1_mostAlike_51 ?_
                  have k942 : zq_k X (zq_r X h0 1) = 36 := zq_lk L.1 k_h0 rfl (by decide)
                  refine lv_iload hx hb dX1_mostAlike_54 (lv_at hl 0 rfl) ?_
                  refine zq_rald (n := 7) (t := 10) (j := (j899.toNatClampNeg)) E hZ hM k942 ⟨by decide, rfl⟩ ⟨rfl, by decide, by decide⟩ ⟨by omega, by omega⟩ rfl dX1_mostAlike_56 ?_
                  have k943 : zq_k X (zq_r X (zq_r X h0 1) (j899.toNatClampNeg)) = 37 := zq_lay_a L.1 k942 (n := 7) (zq_inn (i := j899) (n := 7) ⟨by omega, by omega⟩) (by decide) (by decide)
                  refine lv_iload_n hx hb dX1_mostAlike_57 rfl (lv_at hl 5 rfl) ?_
                  refine zq_ian (n := 61) (j := (p1.toNatClampNeg)) E hZ hM k943 ⟨by decide, rfl⟩ ⟨by omega, by omega⟩ rfl dX1_mostAlike_58 (fun x944 ex944 gx944 => ?_)
                  clear gx944
                  refine lv_aload_n hx hb dX1_mostAlike_59 rfl (lv_at hl 4 rfl) ?_
                  refine zq_getr E hM k_h0 (zFX1_20 E hZ) ⟨by decide, by decide, by decide, rfl⟩ dX1_mostAlike_60 ?_
                  have k945 : zq_k X (zq_r X h0 1) = 36 := zq_lk L.1 k_h0 rfl (by decide)
                  refine lv_iload_n hx hb dX1_mostAlike_63 rfl (lv_at hl 2 rfl) ?_
                  refine W.eq (g2 := F0 m 64 ls [.int j753, .ref (zq_r X h0 1), .int x944, .int j900]) rfl ?_
                  refine zq_rald (n := 7) (t := 10) (j := (j753.toNatClampNeg)) E hZ hM k945 ⟨by decide, rfl⟩ ⟨rfl, by decide, by decide⟩ ⟨by omega, by omega⟩ rfl dX1_mostAlike_64 ?_
                  have k946 : zq_k X (zq_r X (zq_r X h0 1) (j753.toNatClampNeg)) = 37 := zq_lay_a L.1 k945 (n := 7) (zq_inn (i := j753) (n := 7) ⟨by omega, by omega⟩) (by decide) (by decide)
                  refine lv_iload_n hx hb dX1_mostAlike_65 rfl (lv_at hl 5 rfl) ?_
                  refine zq_ian (n := 61) (j := (p1.toNatClampNeg)) E hZ hM k946 ⟨by decide, rfl⟩ ⟨by omega, by omega⟩ rfl dX1_mostAlike_66 (fun x947 ex947 gx947 => ?_)
                  clear gx947
                  refine lv_icmp_ne (tgt := 74) hx hb dX1_mostAlike_67 (by decide) (fun b948 => ?_) (fun b948 => ?_)
                  · have b948 := zi_ne b948 (rfl : x944.toInt = x944.toInt) (rfl : x947.toInt = x947.toInt)
                    exact J74 ls (lv_sub hl [0, 1, 2, 3, 4, 5] rfl)
                  · have b948 := zi_eq b948 (rfl : x944.toInt = x944.toInt) (rfl : x947.toInt = x947.toInt)
                    refine lv_iconst (v := 1) hx hb dX1_mostAlike_70 (by decide +kernel) ?_
                    refine lv_goto (tgt := 75) hx hb dX1_mostAlike_71 (by decide) ?_
                    exact J75 ls (1 : Int32) (by rw [zl_1]; decide) (lv_sub hl [0, 1, 2, 3, 4, 5] rfl)
        exact J19 (7 + 1 - (0 : Int32).toInt).toNat ls (0 : Int32) (0 : Int32) (by omega) (by rw [zl_0]; decide) (lv_sub hl [0, 1, 2, 3, 4, 5] rfl)
  exact J4 (7 + 1 - (0 : Int32).toInt).toNat H locs ls (0 : Int32) (0 : Int32) (by omega) hM hS (by rw [zl_0]; decide) (by rw [zl_0]; decide) (lv_sub hl [0, 1, 2, 3] rfl)
set_option maxHeartbeats 8000000 in
set_option maxRecDepth 100000 in
theorem c_X1_partingMonth (l : Launch) (X : zq_X) (zk zn : Nat) (I : zq_M) (L : zq_L X)  (h0 : Nat) (k_h0 : zq_k X h0 = 2)  : Met l yX1_partingMonth (zt_w yX1_partingMonth cX1_partingMonth 5 (some .int)) (zq_rm (2)) (va_Pc [.ref h0] (zq_W X (zk, zn) I)) (va_Qi (fun (r : Int32) I2 => I2 = I ∧ (0 ≤ r.toInt ∧ r.toInt ≤ 60)) (zq_E X (zk, zn)) (zq_A X)) 0 0 (zq_A X) := by
  refine Met.ofW (cc := cX1_partingMonth) (maxL := 5) (ret := (some .int)) (by decide) rfl ?_
  intro p e s m args below meth c s₁ B hml hv
  obtain ⟨hargs, hM, hZ⟩ := hv
  have hown : s.vm.findClass RX1 = some m.cls := findClass_of_methodNamed B.named
  have hts := atoms_spec (ws := zt_w yX1_partingMonth cX1_partingMonth 5 (some .int)) B.pre
  have E : CallFix p m c cX1_partingMonth 5 s args (Cond.code yX1_partingMonth cX1_partingMonth 5 (some .int) :: zt) RX1 := ⟨B.exec, B.bytes, hml, hown, hts⟩
  have hx := B.exec
  have hb := B.bytes
  have hr := B.returns
  have hlocks := B.notSynchronized
  clear B
  have hS : va_S (zq_A X) s.heap s.heap [] := va_S.rf
  have hl := lv_entry ([.ref h0]) (n := 5) (by exact Nat.le_of_ble_eq_true rfl)
  have hg : entryFrame m args 5 = F0 m 0 ((lg_sl ([.ref h0]) ++ List.replicate (5 - (lg_sl ([.ref h0])).length) Slot.unset).toArray) [] := by rw [hargs]; exact lg_entry_eq m ([.ref h0]) 5
  rw [hg]
  clear hg hargs
  generalize (lg_sl ([.ref h0]) ++ List.replicate (5 - (lg_sl ([.ref h0])).length) Slot.unset).toArray = ls at hl ⊢
  have hl : lv_has ls 5 [(0, .ref h0)] := by exact hl
  obtain ⟨R, hRm⟩ : ∃ R : Room, R = (headSpec (zt_w yX1_partingMonth cX1_partingMonth 5 (some .int)) (zq_rm (2))).room := ⟨_, rfl⟩
  rw [← hRm]
  have hro : ∀ d q : Nat, d + 1 ≤ 2 → q ≤ 45 → zq_rok d q R := fun d q h1 h2 => by rw [hRm]; exact zq_rokI h1 h2
  generalize hQ : MQ below _ args s 0 0 (zq_A X) = Q
  obtain ⟨H, hH⟩ : ∃ H, H = s.heap := ⟨_, rfl⟩
  obtain ⟨locs, hlo⟩ : ∃ x : List Loc, x = [] := ⟨_, rfl⟩
  rw [show W p l e R s m args below meth c s.heap [] 0 0 Q = W p l e R s m args below meth c H locs 0 0 Q by rw [hH, hlo]]
  have hM : zq_hm X (zk, zn) I H := by rw [hH]; exact hM
  have hS : va_S (zq_A X) s.heap H locs := by rw [hH, hlo]; exact hS
  clear hH hlo
  refine lv_aload_n hx hb dX1_partingMonth_0 rfl (lv_at hl 0 rfl) ?_
  refine zq_getr E hM k_h0 (zFX1_23 E hZ) ⟨by decide, by decide, by decide, rfl⟩ dX1_partingMonth_1 ?_
  have k101 : zq_k X (zq_r X h0 2) = 38 := zq_lk L.1 k_h0 rfl (by decide)
  refine zq_alen (n := 7) (t := 1) (v := 7) E hZ hM k101 ⟨by decide, rfl⟩ (by decide) (by decide +kernel) dX1_partingMonth_4 ?_
  refine lv_iconst (v := 1) hx hb dX1_partingMonth_5 (by decide +kernel) ?_
  refine lv_iadd hx hb dX1_partingMonth_6 ?_
  refine lv_topi (fun x102 ex102 => ?_)
  have tx102 := zi_add ex102 (zl_7 : (7 : Int32).toInt = 7) (zl_1 : (1 : Int32).toInt = 1) ⟨by omega, by omega⟩
  refine lv_istore_n (lv' := [(1, .int x102), (0, .ref h0)]) hx hb dX1_partingMonth_7 rfl hl (by decide) rfl (fun ls hl => ?_)
  refine lv_iconst (v := 0) hx hb dX1_partingMonth_8 (by decide +kernel) ?_
  refine lv_istore_n (lv' := [(2, .int (0 : Int32)), (1, .int x102), (0, .ref h0)]) hx hb dX1_partingMonth_9 rfl hl (by decide) rfl (fun ls hl => ?_)
  refine lv_iconst (v := 0) hx hb dX1_partingMonth_10 (by decide +kernel) ?_
  refine W.eq (g2 := F0 m 11 ls [.int (0 : Int32)]) rfl ?_
  refine lv_istore_n (lv' := [(3, .int (0 : Int32)), (2, .int (0 : Int32)), (1, .int x102), (0, .ref h0)]) hx hb dX1_partingMonth_11 rfl hl (by decide) rfl (fun ls hl => ?_)
  have J12 : ∀ (n142 : Nat) (H : Heap) (locs : List Loc) (ls : Array Slot) (j139 : Int32) (j140 : Int32) (j141 : Int32), 61 + 1 - j139.toInt ≤ ((n142 : Nat) : Int) → (zq_hm X (zk, zn) I H) → (va_S (zq_A X) s.heap H locs) → (0 ≤ j139.toInt ∧ j139.toInt ≤ 61) → (0 ≤ j140.toInt ∧ j140.toInt ≤ 60) → (0 ≤ j141.toInt ∧ j141.toInt ≤ 8) → (lv_has ls 5 [(3, .int j139), (2, .int j140), (1, .int j141), (0, .ref h0)]) → W p l e R s m args below meth c H locs 0 0 Q (F0 m 12 ls []) := by
    intro n142
    induction n142 with
    | zero => intro H locs ls j139 j140 j141 mu143 hM hS gj139 gj140 gj141 hl; exfalso; have := zi_rng j139; omega
    | succ n142 ih12 =>
      intro H locs ls j139 j140 j141 mu143 hM hS gj139 gj140 gj141 hl
      refine lv_iload_n hx hb dX1_partingMonth_12 rfl (lv_at hl 0 rfl) ?_
      refine lv_bipush (v := 60) hx hb dX1_partingMonth_13 (by decide +kernel) ?_
      refine lv_icmp_gt (tgt := 42) hx hb dX1_partingMonth_15 (by decide) (fun b144 => ?_) (fun b144 => ?_)
      · have b144 := zi_lt b144 (zl_60 : (60 : Int32).toInt = 60) (rfl : j139.toInt = j139.toInt)
        refine lv_iload_n hx hb dX1_partingMonth_42 rfl (lv_at hl 1 rfl) ?_
        subst hQ
        exact zq_iret E hr hZ hM hS ⟨rfl, (by omega)⟩ hlocks dX1_partingMonth_43
      · have b144 := zi_nlt b144 (zl_60 : (60 : Int32).toInt = 60) (rfl : j139.toInt = j139.toInt)
        refine lv_aload_n hx hb dX1_partingMonth_18 rfl (lv_at hl 3 rfl) ?_
        refine lv_iload_n hx hb dX1_partingMonth_19 rfl (lv_at hl 0 rfl) ?_
        refine zq_pcalli (zq_rV (As := [.int j139]) (rest := []) E hZ hM k_h0 (c_X1_mostAlike l X zk (zn) I L h0 k_h0 j139 ⟨by omega, by omega⟩) zmX1_66 zM_X1_mostAlike (hro (1) 6 (by first | decide | omega) (by decide)) ⟨by decide, by decide⟩ rfl hl.1 rfl rfl (Nat.le_of_ble_eq_true rfl) dX1_partingMonth_20) hS (fun x146 H locs h145 hM hS => ?_)
        have p147 := h145
        have := zi_rng x146
        refine lv_istore (lv' := [(4, .int x146), (3, .int j139), (2, .int j140), (1, .int j141), (0, .ref h0)]) hx hb dX1_partingMonth_23 hl (by decide) rfl (fun ls hl => ?_)
        refine lv_iload hx hb dX1_partingMonth_25 (lv_at hl 0 rfl) ?_
        refine lv_iload_n hx hb dX1_partingMonth_27 rfl (lv_at hl 3 rfl) ?_
        have J36 : ∀ (ls : Array Slot) (j148 : Int32) (j149 : Int32), (0 ≤ j148.toInt ∧ j148.toInt ≤ 60) → (0 ≤ j149.toInt ∧ j149.toInt ≤ 8) → (lv_has ls 5 [(4, .int x146), (3, .int j139), (2, .int j148), (1, .int j149), (0, .ref h0)]) → W p l e R s m args below meth c H locs 0 0 Q (F0 m 36 ls []) := by
          intro ls j148 j149 gj148 gj149 hl
          obtain ⟨x151, ex151⟩ : ∃ y : Int32, y = j139 + 1 := ⟨_, rfl⟩
          have tx151 := zi_add ex151 (rfl : j139.toInt = j139.toInt) zl_1 ⟨by omega, by omega⟩
          refine lv_iinc (v := x151) (lv' := [(3, .int x151), (4, .int x146), (2, .int j148), (1, .int j149), (0, .ref h0)]) hx hb dX1_partingMonth_36 hl (k := 1) rfl (by rw [ex151]; rfl) (by decide) rfl (fun ls hl => ?_)
          refine lv_goto (tgt := 12) hx hb dX1_partingMonth_39 (by decide) ?_
          exact ih12 H locs ls x151 j148 j149 (by omega) hM hS (⟨by omega, by omega⟩) (⟨by omega, by omega⟩) (⟨by omega, by omega⟩) (lv_sub hl [0, 2, 3, 4] rfl)
        refine lv_icmp_ge (tgt := 36) hx hb dX1_partingMonth_28 (by decide) (fun b152 => ?_) (fun b152 => ?_)
        · have b152 := zi_le b152 (rfl : j141.toInt = j141.toInt) (rfl : x146.toInt = x146.toInt)
          exact J36 ls j140 j141 (⟨by omega, by omega⟩) (⟨by omega, by omega⟩) (lv_sub hl [0, 1, 2, 3, 4] rfl)
        · have b152 := zi_nle b152 (rfl : j141.toInt = j141.toInt) (rfl : x146.toInt = x146.toInt)
          refine lv_iload hx hb dX1_partingMonth_31 (lv_at hl 0 rfl) ?_
          refine lv_istore_n (lv' := [(1, .int x146), (4, .int x146), (3, .int j139), (2, .int j140), (0, .ref h0)]) hx hb dX1_partingMonth_33 rfl hl (by decide) rfl (fun ls hl => ?_)
          refine lv_iload_n hx hb dX1_partingMonth_34 rfl (lv_at hl 2 rfl) ?_
          refine lv_istore_n (lv' := [(2, .int j139), (1, .int x146), (4, .int x146), (3, .int j139), (0, .ref h0)]) hx hb dX1_partingMonth_35 rfl hl (by decide) rfl (fun ls hl => ?_)
          exact J36 ls j139 x146 (⟨by omega, by omega⟩) (⟨by omega, by omega⟩) (lv_sub hl [2, 3, 0, 1, 4] rfl)
  exact J12 (61 + 1 - (0 : Int32).toInt).toNat H locs ls (0 : Int32) (0 : Int32) x102 (by omega) hM hS (by rw [zl_0]; decide) (by rw [zl_0]; decide) (⟨by omega, by omega⟩) (lv_sub hl [0, 1, 2, 3] rfl)
def zw_X1_fillRow : List (Nat × Nat) := [(5, 0), (5, 1), (5, 2), (5, 3), (5, 4), (5, 5), (7, 0), (7, 1), (7, 2), (7, 3), (7, 4), (7, 5), (7, 6), (8, 0), (8, 1), (8, 2), (8, 3), (8, 4), (8, 5), (8, 6), (30, 999), (37, 999)]
set_option maxHeartbeats 8000000 in
set_option maxRecDepth 100000 in
theorem c_X1_fillRow (l : Launch) (X : zq_X) (zk zn : Nat) (I : zq_M) (L : zq_L X) (b : Int) (h0 : Nat) (k_h0 : zq_k X h0 = 2) (p1 : Nat) (k_p1 : zq_k X p1 = 37) (p2 : Nat) (k_p2 : zq_k X p2 = 8) (p3 : Option Nat) (hqp3 : p3 = none ∨ ∃ q, p3 = some q ∧ zq_k X q = 4) (q_0 : zW X I b p2) (q_1 : zq_o X p2 < 200) (q_2 : 0 ≤ b ∧ b ≤ 800000) : Met l yX1_fillRow (zt_w yX1_fillRow cX1_fillRow 5 none) (zq_rm (5)) (va_Pc [.ref h0, .ref p1, .ref p2, va_rf p3] (zq_W X (zk, zn) I)) (va_Qv (fun I2 => zq_fr (zf X zw_X1_fillRow (fun b => zq_o X b = 202)) I I2) (zq_E X (zk, zn)) (zq_A X)) 0 0 (zq_A X) := by
  refine Met.ofW (cc := cX1_fillRow) (maxL := 5) (ret := none) (by decide) rfl ?_
  intro p e s m args below meth c s₁ B hml hv
  obtain ⟨hargs, hM, hZ⟩ := hv
  have hown : s.vm.findClass RX1 = some m.cls := findClass_of_methodNamed B.named
  have hts := atoms_spec (ws := zt_w yX1_fillRow cX1_fillRow 5 none) B.pre
  have E : CallFix p m c cX1_fillRow 5 s args (Cond.code yX1_fillRow cX1_fillRow 5 none :: zt) RX1 := ⟨B.exec, B.bytes, hml, hown, hts⟩
  have hx := B.exec
  have hb := B.bytes
  have hr := B.returns
  have hlocks := B.notSynchronized
  clear B
  have hS : va_S (zq_A X) s.heap s.heap [] := va_S.rf
  have hR : zq_fr (zf X zw_X1_fillRow (fun b => zq_o X b = 202)) I I := zq_fr.rf
  have hl := lv_entry ([.ref h0, .ref p1, .ref p2, va_rf p3]) (n := 5) (by cases p3 <;> exact Nat.le_of_ble_eq_true rfl)
  have hg : entryFrame m args 5 = F0 m 0 ((lg_sl ([.ref h0, .ref p1, .ref p2, va_rf p3]) ++ List.replicate (5 - (lg_sl ([.ref h0, .ref p1, .ref p2, va_rf p3])).length) Slot.unset).toArray) [] := by rw [hargs]; exact lg_entry_eq m ([.ref h0, .ref p1, .ref p2, va_rf p3]) 5
  rw [hg]
  clear hg hargs
  generalize (lg_sl ([.ref h0, .ref p1, .ref p2, va_rf p3]) ++ List.replicate (5 - (lg_sl ([.ref h0, .ref p1, .ref p2, va_rf p3])).length) Slot.unset).toArray = ls at hl ⊢
  have hl : lv_has ls 5 [(0, .ref h0), (1, .ref p1), (2, .ref p2), (3, va_rf p3)] := by cases p3 <;> exact hl
  obtain ⟨R, hRm⟩ : ∃ R : Room, R = (headSpec (zt_w yX1_fillRow cX1_fillRow 5 none) (zq_rm (5))).room := ⟨_, rfl⟩
  rw [← hRm]
  have hro : ∀ d q : Nat, d + 1 ≤ 5 → q ≤ 45 → zq_rok d q R := fun d q h1 h2 => by rw [hRm]; exact zq_rokI h1 h2
  generalize hQ : MQ below _ args s 0 0 (zq_A X) = Q
  obtain ⟨H, hH⟩ : ∃ H, H = s.heap := ⟨_, rfl⟩
  obtain ⟨locs, hlo⟩ : ∃ x : List Loc, x = [] := ⟨_, rfl⟩
  rw [show W p l e R s m args below meth c s.heap [] 0 0 Q = W p l e R s m args below meth c H locs 0 0 Q by rw [hH, hlo]]
  have hM : zq_hm X (zk, zn) I H := by rw [hH]; exact hM
  have hS : va_S (zq_A X) s.heap H locs := by rw [hH, hlo]; exact hS
  clear hH hlo
  refine lv_aload_n hx hb dX1_fillRow_0 rfl (lv_at hl 0 rfl) ?_
  refine zq_getr E hM k_h0 (zFX1_12 E hZ) ⟨by decide, by decide, by decide, rfl⟩ dX1_fillRow_1 ?_
  have k101 : zq_k X (zq_r X h0 0) = 8 := zq_lk L.1 k_h0 rfl (by decide)
  refine lv_aload_n hx hb dX1_fillRow_4 rfl (lv_at hl 2 rfl) ?_
  refine zq_callv (zq_rV (As := [.ref p2]) (rest := []) E hZ hM k101 (c_X10_copyFrom l X zk (zn) I L (zq_r X h0 0) k101 p2 k_p2 (fun hq => by have h1 := (L.2.2.2.2.2.1 _ k_h0); have h2 := (rfl : zq_o X p2 = zq_o X p2); omega)) zmX1_40 zM_X10_copyFrom (hro (1) 3 (by first | decide | omega) (by decide)) ⟨by decide, by decide⟩ rfl hl.1 rfl rfl (Nat.le_of_ble_eq_true rfl) dX1_fillRow_5) hS (fun I104 H locs h102 hM hS => ?_)
  obtain ⟨fr105, p106⟩ := h102
  have hR := zq_fr.call hR fr105 (zf_sub (by decide +kernel) (fun b _ q => (q.trans ((L.2.2.2.2.2.1 _ k_h0)))))
  have hW107 := zW.frP q_0 L k_p2 fr105 (fun q hq hp => by have h1 := hq.trans ((rfl : zq_o X p2 = zq_o X p2)); have h2 := hp.trans ((L.2.2.2.2.2.1 _ k_h0)); omega)
  have hW108 := zW.copy q_0 p106
  refine lv_iconst (v := 0) hx hb dX1_fillRow_8 (by decide +kernel) ?_
  refine lv_istore (lv' := [(4, .int (0 : Int32)), (0, .ref h0), (1, .ref p1), (2, .ref p2), (3, va_rf p3)]) hx hb dX1_fillRow_9 hl (by decide) (by cases p3 <;> rfl) (fun ls hl => ?_)
  have J11 : ∀ (n185 : Nat) (I182 : zq_M) (H : Heap) (locs : List Loc) (ls : Array Slot) (j181 : Int32), 61 + 1 - j181.toInt ≤ ((n185 : Nat) : Int) → (zq_hm X (zk, zn) I182 H) → (va_S (zq_A X) s.heap H locs) → (zq_fr (zf X zw_X1_fillRow (fun b => zq_o X b = 202)) I I182) → (0 ≤ j181.toInt ∧ j181.toInt ≤ 61) → (zW X I182 (b) p2) → (zW X I182 (b + 297 * j181.toInt) (zq_r X h0 0)) → (lv_has ls 5 [(4, .int j181), (0, .ref h0), (1, .ref p1), (2, .ref p2), (3, va_rf p3)]) → W p l e R s m args below meth c H locs 0 0 Q (F0 m 11 ls []) := by
    intro n185
    induction n185 with
    | zero => intro I182 H locs ls j181 mu186 hM hS hR gj181 F183 F184 hl; exfalso; have := zi_rng j181; omega
    | succ n185 ih11 =>
      intro I182 H locs ls j181 mu186 hM hS hR gj181 F183 F184 hl
      refine lv_iload hx hb dX1_fillRow_11 (lv_at hl 0 rfl) ?_
      refine lv_aload_n hx hb dX1_fillRow_13 rfl (lv_at hl 2 rfl) ?_
      refine zq_alen (n := 61) (t := 0) (v := 61) E hZ hM k_p1 ⟨by decide, rfl⟩ (by decide) (by decide +kernel) dX1_fillRow_14 ?_
      refine lv_icmp_ge (tgt := 46) hx hb dX1_fillRow_15 (by decide) (fun b187 => ?_) (fun b187 => ?_)
      · have b187 := zi_le b187 (zl_61 : (61 : Int32).toInt = 61) (rfl : j181.toInt = j181.toInt)
        subst hQ
        exact zq_vret E hr hZ hM hS hR hlocks dX1_fillRow_46
      · have b187 := zi_nle b187 (zl_61 : (61 : Int32).toInt = 61) (rfl : j181.toInt = j181.toInt)
        refine lv_aload_n hx hb dX1_fillRow_18 rfl (lv_at hl 2 rfl) ?_
        refine lv_iload hx hb dX1_fillRow_19 (lv_at hl 0 rfl) ?_
        refine lv_aload_n hx hb dX1_fillRow_21 rfl (lv_at hl 1 rfl) ?_
        refine zq_getr E hM k_h0 (zFX1_12 E hZ) ⟨by decide, by decide, by decide, rfl⟩ dX1_fillRow_22 ?_
        have k188 : zq_k X (zq_r X h0 0) = 8 := zq_lk L.1 k_h0 rfl (by decide)
        refine zq_gn E hM k188 (zFX1_44 E hZ) (Or.inl ⟨by decide, by decide, by decide, rfl⟩) dX1_fillRow_25 (fun x189 ex189 gx189 => ?_)
        clear gx189
        refine zq_isn (n := 61) (j := (j181.toNatClampNeg)) E hZ hM hS k_p1 ⟨by decide, rfl⟩ ⟨by omega, by omega⟩ rfl (zq_any _) dX1_fillRow_28 (fun I190 H locs eI190 hM hS => ?_)
        have hR := zq_fr.putE hR eI190 (zf_ia k_p1 (by decide) rfl)
        have hW191 := zW.put F183 L k_p2 eI190 k_p1 (Or.inl ⟨by decide, by decide⟩)
        have hW192 := zW.put F184 L k101 eI190 k_p1 (Or.inl ⟨by decide, by decide⟩)
        refine lv_aload_n hx hb dX1_fillRow_29 rfl (lv_at hl 1 rfl) ?_
        refine zq_getr E hM k_h0 (zFX1_12 E hZ) ⟨by decide, by decide, by decide, rfl⟩ dX1_fillRow_30 ?_
        have k193 : zq_k X (zq_r X h0 0) = 8 := zq_lk L.1 k_h0 rfl (by decide)
        refine zq_oload_n hx hb dX1_fillRow_33 rfl (lv_at hl 4 rfl) ?_
        refine W.eq (g2 := F0 m 34 ls [va_rf p3, .ref (zq_r X h0 0)]) rfl ?_
        refine lv_bipush (v := 100) hx hb dX1_fillRow_34 (by decide +kernel) ?_
        refine zq_calli (zq_rV (As := [va_rf p3, .int (100 : Int32)]) (rest := []) E hZ hM k193 (c_X10_passMonth l X zk (zn) I190 L (b + 297 * j181.toInt) (zq_r X h0 0) k193 p3 hqp3 (100 : Int32) (hW192) (by have := zl_100; omega)) zmX1_48 zM_X10_passMonth (hro (4) 6 (by first | decide | omega) (by decide)) ⟨by decide, by decide⟩ rfl hl.1 rfl rfl (Nat.le_of_ble_eq_true rfl) dX1_fillRow_36) hS (fun x195 I196 H locs h194 hM hS => ?_)
        obtain ⟨fr197, p198⟩ := h194
        have := zl_100
        have hR := zq_fr.call hR fr197 (zf_sub (by decide +kernel) (fun b _ q => (q.trans ((L.2.2.2.2.2.1 _ k_h0)))))
        have hW199 := zW.frP hW191 L k_p2 fr197 (fun q hq hp => by have h1 := hq.trans ((rfl : zq_o X p2 = zq_o X p2)); have h2 := hp.trans ((L.2.2.2.2.2.1 _ k_h0)); omega)
        refine lv_pop hx hb dX1_fillRow_39 rfl ?_
        obtain ⟨x201, ex201⟩ : ∃ y : Int32, y = j181 + 1 := ⟨_, rfl⟩
        have tx201 := zi_add ex201 (rfl : j181.toInt = j181.toInt) zl_1 ⟨by omega, by omega⟩
        refine lv_iinc (v := x201) (lv' := [(4, .int x201), (0, .ref h0), (1, .ref p1), (2, .ref p2), (3, va_rf p3)]) hx hb dX1_fillRow_40 hl (k := 0) rfl (by rw [ex201]; rfl) (by decide) (by cases p3 <;> rfl) (fun ls hl => ?_)
        refine lv_goto (tgt := 11) hx hb dX1_fillRow_43 (by decide) ?_
        exact ih11 I196 H locs ls x201 (by omega) hM hS hR (⟨by omega, by omega⟩) hW199 (zW.mono p198 (by have := zl_0; omega)) (lv_sub hl [0, 1, 2, 3, 4] rfl)
  exact J11 (61 + 1 - (0 : Int32).toInt).toNat I104 H locs ls (0 : Int32) (by omega) hM hS hR (by rw [zl_0]; decide) hW107 (zW.mono hW108 (by have := zl_0; omega)) (lv_sub hl [0, 1, 2, 3, 4] rfl)
def zw_X1_fill : List (Nat × Nat) := [(5, 0), (5, 1), (5, 2), (5, 3), (5, 4), (5, 5), (7, 0), (7, 1), (7, 2), (7, 3), (7, 4), (7, 5), (7, 6), (8, 0), (8, 1), (8, 2), (8, 3), (8, 4), (8, 5), (8, 6), (30, 999), (37, 999), (38, 999)]
set_option maxHeartbeats 8000000 in
set_option maxRecDepth 100000 in
theorem c_X1_fill (l : Launch) (X : zq_X) (zk zn : Nat) (I : zq_M) (L : zq_L X) (b : Int) (h0 : Nat) (k_h0 : zq_k X h0 = 2) (p1 : Nat) (k_p1 : zq_k X p1 = 1) (p2 : Nat) (k_p2 : zq_k X p2 = 39) (p3 : Int32) (q_0 : zW X I b (zq_r X p1 1)) (q_1 : 0 ≤ b ∧ b ≤ 800000) : Met l yX1_fill (zt_w yX1_fill cX1_fill 5 none) (zq_rm (6)) (va_Pc [.ref h0, .ref p1, .ref p2, .int p3] (zq_W X (zk, zn) I)) (va_Qv (fun I2 => zq_fr (zf X zw_X1_fill (fun b => zq_o X b = 202)) I I2) (zq_E X (zk, zn)) (zq_A X)) 0 0 (zq_A X) := by
  refine Met.ofW (cc := cX1_fill) (maxL := 5) (ret := none) (by decide) rfl ?_
  intro p e s m args below meth c s₁ B hml hv
  obtain ⟨hargs, hM, hZ⟩ := hv
  have hown : s.vm.findClass RX1 = some m.cls := findClass_of_methodNamed B.named
  have hts := atoms_spec (ws := zt_w yX1_fill cX1_fill 5 none) B.pre
  have E : CallFix p m c cX1_fill 5 s args (Cond.code yX1_fill cX1_fill 5 none :: zt) RX1 := ⟨B.exec, B.bytes, hml, hown, hts⟩
  have hx := B.exec
  have hb := B.bytes
  have hr := B.returns
  have hlocks := B.notSynchronized
  clear B
  have hS : va_S (zq_A X) s.heap s.heap [] := va_S.rf
  have hR : zq_fr (zf X zw_X1_fill (fun b => zq_o X b = 202)) I I := zq_fr.rf
  have hl := lv_entry ([.ref h0, .ref p1, .ref p2, .int p3]) (n := 5) (by exact Nat.le_of_ble_eq_true rfl)
  have hg : entryFrame m args 5 = F0 m 0 ((lg_sl ([.ref h0, .ref p1, .ref p2, .int p3]) ++ List.replicate (5 - (lg_sl ([.ref h0, .ref p1, .ref p2, .int p3])).length) Slot.unset).toArray) [] := by rw [hargs]; exact lg_entry_eq m ([.ref h0, .ref p1, .ref p2, .int p3]) 5
  rw [hg]
  clear hg hargs
  generalize (lg_sl ([.ref h0, .ref p1, .ref p2, .int p3]) ++ List.replicate (5 - (lg_sl ([.ref h0, .ref p1, .ref p2, .int p3])).length) Slot.unset).toArray = ls at hl ⊢
  have hl : lv_has ls 5 [(0, .ref h0), (1, .ref p1), (2, .ref p2), (3, .int p3)] := by exact hl
  obtain ⟨R, hRm⟩ : ∃ R : Room, R = (headSpec (zt_w yX1_fill cX1_fill 5 none) (zq_rm (6))).room := ⟨_, rfl⟩
  rw [← hRm]
  have hro : ∀ d q : Nat, d + 1 ≤ 6 → q ≤ 45 → zq_rok d q R := fun d q h1 h2 => by rw [hRm]; exact zq_rokI h1 h2
  generalize hQ : MQ below _ args s 0 0 (zq_A X) = Q
  obtain ⟨H, hH⟩ : ∃ H, H = s.heap := ⟨_, rfl⟩
  obtain ⟨locs, hlo⟩ : ∃ x : List Loc, x = [] := ⟨_, rfl⟩
  rw [show W p l e R s m args below meth c s.heap [] 0 0 Q = W p l e R s m args below meth c H locs 0 0 Q by rw [hH, hlo]]
  have hM : zq_hm X (zk, zn) I H := by rw [hH]; exact hM
  have hS : va_S (zq_A X) s.heap H locs := by rw [hH, hlo]; exact hS
  clear hH hlo
  have hb5 := (L.2.2.1 p1 k_p1).1
  refine lv_iconst (v := 0) hx hb dX1_fill_0 (by decide +kernel) ?_
  refine lv_istore (lv' := [(4, .int (0 : Int32)), (0, .ref h0), (1, .ref p1), (2, .ref p2), (3, .int p3)]) hx hb dX1_fill_1 hl (by decide) rfl (fun ls hl => ?_)
  have J3 : ∀ (n370 : Nat) (I368 : zq_M) (H : Heap) (locs : List Loc) (ls : Array Slot) (j367 : Int32), 7 + 1 - j367.toInt ≤ ((n370 : Nat) : Int) → (zq_hm X (zk, zn) I368 H) → (va_S (zq_A X) s.heap H locs) → (zq_fr (zf X zw_X1_fill (fun b => zq_o X b = 202)) I I368) → (0 ≤ j367.toInt ∧ j367.toInt ≤ 7) → (zW X I368 (b) (zq_r X p1 1)) → (lv_has ls 5 [(4, .int j367), (0, .ref h0), (1, .ref p1), (2, .ref p2), (3, .int p3)]) → W p l e R s m args below meth c H locs 0 0 Q (F0 m 3 ls []) := by
    intro n370
    induction n370 with
    | zero => intro I368 H locs ls j367 mu371 hM hS hR gj367 F369 hl; exfalso; have := zi_rng j367; omega
    | succ n370 ih3 =>
      intro I368 H locs ls j367 mu371 hM hS hR gj367 F369 hl
      refine lv_iload hx hb dX1_fill_3 (lv_at hl 0 rfl) ?_
      refine lv_aload_n hx hb dX1_fill_5 rfl (lv_at hl 1 rfl) ?_
      refine zq_getr E hM k_h0 (zFX1_23 E hZ) ⟨by decide, by decide, by decide, rfl⟩ dX1_fill_6 ?_
      have k372 : zq_k X (zq_r X h0 2) = 38 := zq_lk L.1 k_h0 rfl (by decide)
      refine zq_alen (n := 7) (t := 1) (v := 7) E hZ hM k372 ⟨by decide, rfl⟩ (by decide) (by decide +kernel) dX1_fill_9 ?_
      refine lv_icmp_ge (tgt := 27) hx hb dX1_fill_10 (by decide) (fun b373 => ?_) (fun b373 => ?_)
      · have b373 := zi_le b373 (zl_7 : (7 : Int32).toInt = 7) (rfl : j367.toInt = j367.toInt)
        refine lv_iconst (v := 0) hx hb dX1_fill_27 (by decide +kernel) ?_
        refine lv_istore (lv' := [(4, .int (0 : Int32)), (0, .ref h0), (1, .ref p1), (2, .ref p2), (3, .int p3)]) hx hb dX1_fill_28 hl (by decide) rfl (fun ls hl => ?_)
        have J30 : ∀ (n470 : Nat) (I468 : zq_M) (H : Heap) (locs : List Loc) (ls : Array Slot) (j467 : Int32), 7 + 1 - j467.toInt ≤ ((n470 : Nat) : Int) → (zq_hm X (zk, zn) I468 H) → (va_S (zq_A X) s.heap H locs) → (zq_fr (zf X zw_X1_fill (fun b => zq_o X b = 202)) I I468) → (0 ≤ j467.toInt ∧ j467.toInt ≤ 7) → (zW X I468 (b) (zq_r X p1 1)) → (lv_has ls 5 [(4, .int j467), (0, .ref h0), (1, .ref p1), (2, .ref p2), (3, .int p3)]) → W p l e R s m args below meth c H locs 0 0 Q (F0 m 30 ls []) := by
          intro n470
          induction n470 with
          | zero => intro I468 H locs ls j467 mu471 hM hS hR gj467 F469 hl; exfalso; have := zi_rng j467; omega
          | succ n470 ih30 =>
            intro I468 H locs ls j467 mu471 hM hS hR gj467 F469 hl
            refine lv_iload hx hb dX1_fill_30 (lv_at hl 0 rfl) ?_
            refine lv_iload_n hx hb dX1_fill_32 rfl (lv_at hl 4 rfl) ?_
            refine lv_icmp_gt (tgt := 107) hx hb dX1_fill_33 (by decide) (fun b472 => ?_) (fun b472 => ?_)
            · have b472 := zi_lt b472 (rfl : p3.toInt = p3.toInt) (rfl : j467.toInt = j467.toInt)
              subst hQ
              exact zq_vret E hr hZ hM hS hR hlocks dX1_fill_107
            · have b472 := zi_nlt b472 (rfl : p3.toInt = p3.toInt) (rfl : j467.toInt = j467.toInt)
              refine lv_iload hx hb dX1_fill_36 (lv_at hl 0 rfl) ?_
              refine lv_aload_n hx hb dX1_fill_38 rfl (lv_at hl 1 rfl) ?_
              refine zq_getr E hM k_h0 (zFX1_23 E hZ) ⟨by decide, by decide, by decide, rfl⟩ dX1_fill_39 ?_
              have k473 : zq_k X (zq_r X h0 2) = 38 := zq_lk L.1 k_h0 rfl (by decide)
              refine zq_alen (n := 7) (t := 1) (v := 7) E hZ hM k473 ⟨by decide, rfl⟩ (by decide) (by decide +kernel) dX1_fill_42 ?_
              refine lv_icmp_ge (tgt := 107) hx hb dX1_fill_43 (by decide) (fun b474 => ?_) (fun b474 => ?_)
              · have b474 := zi_le b474 (zl_7 : (7 : Int32).toInt = 7) (rfl : j467.toInt = j467.toInt)
                subst hQ
                exact zq_vret E hr hZ hM hS hR hlocks dX1_fill_107
              · have b474 := zi_nle b474 (zl_7 : (7 : Int32).toInt = 7) (rfl : j467.toInt = j467.toInt)
                refine lv_iload hx hb dX1_fill_46 (lv_at hl 0 rfl) ?_
                refine lv_aload_n hx hb dX1_fill_48 rfl (lv_at hl 3 rfl) ?_
                refine zq_alen (n := 6) (t := 4) (v := 6) E hZ hM k_p2 ⟨by decide, rfl⟩ (by decide) (by decide +kernel) dX1_fill_49 ?_
                refine lv_icmp_gt (tgt := 107) hx hb dX1_fill_50 (by decide) (fun b475 => ?_) (fun b475 => ?_)
                · have b475 := zi_lt b475 (zl_6 : (6 : Int32).toInt = 6) (rfl : j467.toInt = j467.toInt)
                  exfalso; omega
                · have b475 := zi_nlt b475 (zl_6 : (6 : Int32).toInt = 6) (rfl : j467.toInt = j467.toInt)
                  refine lv_aload_n hx hb dX1_fill_53 rfl (lv_at hl 1 rfl) ?_
                  refine lv_aload_n hx hb dX1_fill_54 rfl (lv_at hl 1 rfl) ?_
                  refine zq_getr E hM k_h0 (zFX1_20 E hZ) ⟨by decide, by decide, by decide, rfl⟩ dX1_fill_55 ?_
                  have k476 : zq_k X (zq_r X h0 1) = 36 := zq_lk L.1 k_h0 rfl (by decide)
                  refine lv_iload hx hb dX1_fill_58 (lv_at hl 0 rfl) ?_
                  refine zq_rald (n := 7) (t := 10) (j := (j467.toNatClampNeg)) E hZ hM k476 ⟨by decide, rfl⟩ ⟨rfl, by decide, by decide⟩ ⟨by omega, by omega⟩ rfl dX1_fill_60 ?_
                  have k477 : zq_k X (zq_r X (zq_r X h0 1) (j467.toNatClampNeg)) = 37 := zq_lay_a L.1 k476 (n := 7) (zq_inn (i := j467) (n := 7) ⟨by omega, by omega⟩) (by decide) (by decide)
                  refine lv_aload_n hx hb dX1_fill_61 rfl (lv_at hl 2 rfl) ?_
                  refine zq_getr E hM k_p1 (zFX1_27 E hZ) ⟨by decide, by decide, by decide, rfl⟩ dX1_fill_62 ?_
                  have k478 : zq_k X (zq_r X p1 1) = 8 := zq_lk L.1 k_p1 rfl (by decide)
                  refine lv_iload hx hb dX1_fill_65 (lv_at hl 0 rfl) ?_
                  have J80 : ∀ (ls : Array Slot) (jo481 : Option Nat), (jo481 = none ∨ ∃ q, jo481 = some q ∧ zq_k X q = 4) → (lv_has ls 5 [(4, .int j467), (0, .ref h0), (1, .ref p1), (2, .ref p2), (3, .int p3)]) → W p l e R s m args below meth c H locs 0 0 Q (F0 m 80 ls [va_rf jo481, .ref (zq_r X p1 1), .ref (zq_r X (zq_r X h0 1) (j467.toNatClampNeg)), .ref h0]) := by
                    intro ls jo481 hqjo481 hl
                    refine zq_callv (zq_rV (As := [.ref (zq_r X (zq_r X h0 1) (j467.toNatClampNeg)), .ref (zq_r X p1 1), va_rf jo481]) (rest := []) E hZ hM k_h0 (c_X1_fillRow l X zk (zn) I468 L (b) h0 k_h0 (zq_r X (zq_r X h0 1) (j467.toNatClampNeg)) k477 (zq_r X p1 1) k478 jo481 hqjo481 (F469) (by have := (L.2.2.1 _ k_p1).2.2; have := (L.2.2.1 _ k_p1).1; omega) (by omega)) zmX1_32 zM_X1_fillRow (hro (5) 5 (by first | decide | omega) (by decide)) ⟨by decide, by decide⟩ rfl hl.1 rfl rfl (Nat.le_of_ble_eq_true rfl) dX1_fill_80) hS (fun I498 H locs h496 hM hS => ?_)
                    have fr499 := h496
                    have hR := zq_fr.call hR fr499 (zf_sub (by decide +kernel) (fun b _ q => q))
                    have hW500 := zW.frP F469 L (zq_lk L.1 k_p1 rfl (by decide)) fr499 (fun q hq hp => by have h1 := hq.trans ((L.2.2.1 p1 k_p1).2.2); omega)
                    refine lv_aload_n hx hb dX1_fill_83 rfl (lv_at hl 1 rfl) ?_
                    refine zq_getr E hM k_h0 (zFX1_23 E hZ) ⟨by decide, by decide, by decide, rfl⟩ dX1_fill_84 ?_
                    have k501 : zq_k X (zq_r X h0 2) = 38 := zq_lk L.1 k_h0 rfl (by decide)
                    refine lv_iload hx hb dX1_fill_87 (lv_at hl 0 rfl) ?_
                    refine lv_aload_n hx hb dX1_fill_89 rfl (lv_at hl 1 rfl) ?_
                    refine zq_getr E hM k_h0 (zFX1_20 E hZ) ⟨by decide, by decide, by decide, rfl⟩ dX1_fill_90 ?_
                    have k502 : zq_k X (zq_r X h0 1) = 36 := zq_lk L.1 k_h0 rfl (by decide)
                    refine lv_iload hx hb dX1_fill_93 (lv_at hl 0 rfl) ?_
                    refine zq_rald (n := 7) (t := 10) (j := (j467.toNatClampNeg)) E hZ hM k502 ⟨by decide, rfl⟩ ⟨rfl, by decide, by decide⟩ ⟨by omega, by omega⟩ rfl dX1_fill_95 ?_
                    have k503 : zq_k X (zq_r X (zq_r X h0 1) (j467.toNatClampNeg)) = 37 := zq_lay_a L.1 k502 (n := 7) (zq_inn (i := j467) (n := 7) ⟨by omega, by omega⟩) (by decide) (by decide)
                    refine lv_aload_n hx hb dX1_fill_96 rfl (lv_at hl 2 rfl) ?_
                    refine W.eq (g2 := F0 m 97 ls [.ref p1, .ref (zq_r X (zq_r X h0 1) (j467.toNatClampNeg)), .int j467, .ref (zq_r X h0 2)]) rfl ?_
                    refine zq_pcalli (zq_rS (As := [.ref (zq_r X (zq_r X h0 1) (j467.toNatClampNeg)), .ref p1]) (rest := [.int j467, .ref (zq_r X h0 2)]) E hZ hM (c_X1_agrees l X zk (zn) I498 L (zq_r X (zq_r X h0 1) (j467.toNatClampNeg)) k503 p1 k_p1) zmX1_36 zM_X1_agrees (hro (1) 4 (by first | decide | omega) (by decide)) hl.1 rfl rfl (Nat.le_of_ble_eq_true rfl) dX1_fill_97) hS (fun x505 H locs h504 hM hS => ?_)
                    have p506 := h504
                    refine zq_zsn (n := 7) (j := (j467.toNatClampNeg)) E hZ hM hS k501 ⟨by decide, rfl⟩ ⟨by omega, by omega⟩ rfl (show 0 ≤ x505.toInt ∧ x505.toInt ≤ 1 from ⟨by omega, by omega⟩) rfl dX1_fill_100 (fun I507 H locs eI507 hM hS => ?_)
                    have hR := zq_fr.putE hR eI507 (zf_ia k501 (by decide) rfl)
                    have hW508 := zW.put hW500 L (zq_lk L.1 k_p1 rfl (by decide)) eI507 k501 (Or.inl ⟨by decide, by decide⟩)
                    obtain ⟨x509, ex509⟩ : ∃ y : Int32, y = j467 + 1 := ⟨_, rfl⟩
                    have tx509 := zi_add ex509 (rfl : j467.toInt = j467.toInt) zl_1 ⟨by omega, by omega⟩
                    refine lv_iinc (v := x509) (lv' := [(4, .int x509), (0, .ref h0), (1, .ref p1), (2, .ref p2), (3, .int p3)]) hx hb dX1_fill_101 hl (k := 0) rfl (by rw [ex509]; rfl) (by decide) rfl (fun ls hl => ?_)
                    refine lv_goto (tgt := 30) hx hb dX1_fill_104 (by decide) ?_
                    exact ih30 I507 H locs ls x509 (by omega) hM hS hR (⟨by omega, by omega⟩) hW508 (lv_sub hl [0, 1, 2, 3, 4] rfl)
                  refine lv_if_ne (tgt := 74) hx hb dX1_fill_67 (by decide) (fun b510 => ?_) (fun b510 => ?_)
                  · have b510 := zi_ne b510 (rfl : j467.toInt = j467.toInt) (zl_0 : (0 : Int32).toInt = 0)
                    refine lv_aload_n hx hb dX1_fill_74 rfl (lv_at hl 3 rfl) ?_
                    refine lv_iload hx hb dX1_fill_75 (lv_at hl 0 rfl) ?_
                    refine lv_iconst (v := 1) hx hb dX1_fill_77 (by decide +kernel) ?_
                    refine lv_isub hx hb dX1_fill_78 ?_
                    refine lv_topi (fun x511 ex511 => ?_)
                    have tx511 := zi_sub ex511 (rfl : j467.toInt = j467.toInt) (zl_1 : (1 : Int32).toInt = 1) ⟨by omega, by omega⟩
                    refine zq_rald (n := 6) (t := 4) (j := (x511.toNatClampNeg)) E hZ hM k_p2 ⟨by decide, rfl⟩ ⟨rfl, by decide, by decide⟩ ⟨by omega, by omega⟩ rfl dX1_fill_79 ?_
                    have k512 : zq_k X (zq_r X p2 (x511.toNatClampNeg)) = 4 := zq_lay_a L.1 k_p2 (n := 6) (zq_inn (i := x511) (n := 6) ⟨by omega, by omega⟩) (by decide) (by decide)
                    exact J80 ls (some (zq_r X p2 (x511.toNatClampNeg))) (Or.inr ⟨_, rfl, k512⟩) (lv_sub hl [0, 1, 2, 3, 4] rfl)
                  · have b510 := zi_eq b510 (rfl : j467.toInt = j467.toInt) (zl_0 : (0 : Int32).toInt = 0)
                    refine lv_null hx hb dX1_fill_70 ?_
                    refine lv_goto (tgt := 80) hx hb dX1_fill_71 (by decide) ?_
                    exact J80 ls none (Or.inl rfl) (lv_sub hl [0, 1, 2, 3, 4] rfl)
        exact J30 (7 + 1 - (0 : Int32).toInt).toNat I368 H locs ls (0 : Int32) (by omega) hM hS hR (by rw [zl_0]; decide) F369 (lv_sub hl [0, 1, 2, 3, 4] rfl)
      · have b373 := zi_nle b373 (zl_7 : (7 : Int32).toInt = 7) (rfl : j367.toInt = j367.toInt)
        refine lv_aload_n hx hb dX1_fill_13 rfl (lv_at hl 1 rfl) ?_
        refine zq_getr E hM k_h0 (zFX1_23 E hZ) ⟨by decide, by decide, by decide, rfl⟩ dX1_fill_14 ?_
        have k513 : zq_k X (zq_r X h0 2) = 38 := zq_lk L.1 k_h0 rfl (by decide)
        refine lv_iload hx hb dX1_fill_17 (lv_at hl 0 rfl) ?_
        refine lv_iconst (v := 0) hx hb dX1_fill_19 (by decide +kernel) ?_
        refine zq_zsn (n := 7) (j := (j367.toNatClampNeg)) E hZ hM hS k513 ⟨by decide, rfl⟩ ⟨by omega, by omega⟩ rfl (show 0 ≤ (0 : Int32).toInt ∧ (0 : Int32).toInt ≤ 1 by decide +kernel) rfl dX1_fill_20 (fun I514 H locs eI514 hM hS => ?_)
        have hR := zq_fr.putE hR eI514 (zf_ia k513 (by decide) rfl)
        have hW515 := zW.put F369 L (zq_lk L.1 k_p1 rfl (by decide)) eI514 k513 (Or.inl ⟨by decide, by decide⟩)
        obtain ⟨x516, ex516⟩ : ∃ y : Int32, y = j367 + 1 := ⟨_, rfl⟩
        have tx516 := zi_add ex516 (rfl : j367.toInt = j367.toInt) zl_1 ⟨by omega, by omega⟩
        refine lv_iinc (v := x516) (lv' := [(4, .int x516), (0, .ref h0), (1, .ref p1), (2, .ref p2), (3, .int p3)]) hx hb dX1_fill_21 hl (k := 0) rfl (by rw [ex516]; rfl) (by decide) rfl (fun ls hl => ?_)
        refine lv_goto (tgt := 3) hx hb dX1_fill_24 (by decide) ?_
        exact ih3 I514 H locs ls x516 (by omega) hM hS hR (⟨by omega, by omega⟩) hW515 (lv_sub hl [0, 1, 2, 3, 4] rfl)
  exact J3 (7 + 1 - (0 : Int32).toInt).toNat I H locs ls (0 : Int32) (by omega) hM hS hR (by rw [zl_0]; decide) q_0 (lv_sub hl [0, 1, 2, 3, 4] rfl)
