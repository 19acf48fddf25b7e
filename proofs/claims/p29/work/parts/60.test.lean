def zw_X12_opens : List (Nat × Nat) := [(10, 9), (10, 13), (10, 16), (56, 999)]
set_option maxHeartbeats 8000000 in
set_option maxRecDepth 100000 in
theorem c_X12_opens (l : Launch) (X : zq_X) (zk zn : Nat) (I : zq_M) (L : zq_L X)  (h0 : Nat) (k_h0 : zq_k X h0 = 10) (p1 : Int32) (q_0 : zk ≤ 4400 ∧ zn ≤ 4400) (q_1 : (I h0 8).toInt ≤ (I h0 1).toInt) (q_2 : (I h0 16).toInt ≤ 399) : Met l yX12_opens (zt_w yX12_opens cX12_opens 2 (some .boolean)) (zq_rm (1)) (va_Pc [.ref h0, .int p1] (zq_W X (zk, zn) I)) (va_Qi (fun (r : Int32) I2 => zq_fr (zf X zw_X12_opens (fun _ => False)) I I2 ∧ (zGo X h0 true (-1) I I2) ∧ (((p1.toInt = 11 ∨ p1.toInt = 91) → zOk X I h0 → (zOk X I2 h0 ∧ zC X I2 h0 = zC X I h0))) ∧ (r.toInt = 1 ∨ zGo X h0 true 0 I I2) ∧ (0 ≤ r.toInt ∧ r.toInt ≤ 1)) (zq_E X (zk, zn)) (zq_A X)) 0 0 (zq_A X) := by
  refine Met.ofW (cc := cX12_opens) (maxL := 2) (ret := (some .boolean)) (by decide) rfl ?_
  intro p e s m args below meth c s₁ B hml hv
  obtain ⟨hargs, hM, hZ⟩ := hv
  have hown : s.vm.findClass RX12 = some m.cls := findClass_of_methodNamed B.named
  have hts := atoms_spec (ws := zt_w yX12_opens cX12_opens 2 (some .boolean)) B.pre
  have E : CallFix p m c cX12_opens 2 s args (Cond.code yX12_opens cX12_opens 2 (some .boolean) :: zt) RX12 := ⟨B.exec, B.bytes, hml, hown, hts⟩
  have hx := B.exec
  have hb := B.bytes
  have hr := B.returns
  have hlocks := B.notSynchronized
  clear B
  have hS : va_S (zq_A X) s.heap s.heap [] := va_S.rf
  have hR : zq_fr (zf X zw_X12_opens (fun _ => False)) I I := zq_fr.rf
  have hl := lv_entry ([.ref h0, .int p1]) (n := 2) (by exact Nat.le_of_ble_eq_true rfl)
  have hg : entryFrame m args 2 = F0 m 0 ((lg_sl ([.ref h0, .int p1]) ++ List.replicate (2 - (lg_sl ([.ref h0, .int p1])).length) Slot.unset).toArray) [] := by rw [hargs]; exact lg_entry_eq m ([.ref h0, .int p1]) 2
  rw [hg]
  clear hg hargs
  generalize (lg_sl ([.ref h0, .int p1]) ++ List.replicate (2 - (lg_sl ([.ref h0, .int p1])).length) Slot.unset).toArray = ls at hl ⊢
  have hl : lv_has ls 2 [(0, .ref h0), (1, .int p1)] := by exact hl
  obtain ⟨R, hRm⟩ : ∃ R : Room, R = (headSpec (zt_w yX12_opens cX12_opens 2 (some .boolean)) (zq_rm (1))).room := ⟨_, rfl⟩
  rw [← hRm]
  have hro : ∀ d q : Nat, d + 1 ≤ 1 → q ≤ 45 → zq_rok d q R := fun d q h1 h2 => by rw [hRm]; exact zq_rokI h1 h2
  generalize hQ : MQ below _ args s 0 0 (zq_A X) = Q
  obtain ⟨H, hH⟩ : ∃ H, H = s.heap := ⟨_, rfl⟩
  obtain ⟨locs, hlo⟩ : ∃ x : List Loc, x = [] := ⟨_, rfl⟩
  rw [show W p l e R s m args below meth c s.heap [] 0 0 Q = W p l e R s m args below meth c H locs 0 0 Q by rw [hH, hlo]]
  have hM : zq_hm X (zk, zn) I H := by rw [hH]; exact hM
  have hS : va_S (zq_A X) s.heap H locs := by rw [hH, hlo]; exact hS
  clear hH hlo
  have hG0 : zGo X h0 true 0 I I := zGo.rf q_1
  refine lv_aload_n hx hb dX12_opens_0 rfl (lv_at hl 0 rfl) ?_
  refine zq_gn E hM k_h0 (zFX12_148 E hZ) (Or.inl ⟨by decide, by decide, by decide, rfl⟩) dX12_opens_1 (fun x101 ex101 gx101 => ?_)
  clear gx101
  refine lv_bipush (v := 10) hx hb dX12_opens_4 (by decide +kernel) ?_
  refine lv_icmp_ne (tgt := 19) hx hb dX12_opens_6 (by decide) (fun b102 => ?_) (fun b102 => ?_)
  · have b102 := zi_ne b102 (rfl : x101.toInt = x101.toInt) (zl_10 : (10 : Int32).toInt = 10)
    refine lv_aload_n hx hb dX12_opens_19 rfl (lv_at hl 0 rfl) ?_
    refine lv_dup hx hb dX12_opens_20 rfl ?_
    refine zq_gk (v := x101) E hM k_h0 (zFX12_148 E hZ) (Or.inl ⟨by decide, by decide, by decide, rfl⟩) ex101 dX12_opens_21 ?_
    refine lv_iconst (v := 1) hx hb dX12_opens_24 (by decide +kernel) ?_
    refine lv_iadd hx hb dX12_opens_25 ?_
    refine lv_topi (fun x103 ex103 => ?_)
    refine zq_pn E hM hS k_h0 (zGX12_148 E hZ) ⟨by decide, by decide, by decide, rfl⟩ (zq_any _) dX12_opens_26 (fun I104 H locs eI104 hM hS => ?_)
    have hR := zq_fr.putE hR eI104 (zf_i k_h0 rfl rfl)
    have hG105 : zGo X h0 true 0 I I104 := (zGo.wk (zGo.pt hG0 L k_h0 eI104 k_h0 rfl) (by decide))
    refine lv_aload_n hx hb dX12_opens_29 rfl (lv_at hl 0 rfl) ?_
    refine zq_getr E hM k_h0 (zFX12_29 E hZ) ⟨by decide, by decide, by decide, rfl⟩ dX12_opens_30 ?_
    have k106 : zq_k X (zq_r X h0 15) = 56 := zq_lk L.1 k_h0 rfl (by decide)
    refine lv_aload_n hx hb dX12_opens_33 rfl (lv_at hl 0 rfl) ?_
    refine W.eq (g2 := F0 m 34 ls [.ref h0, .ref (zq_r X h0 15)]) rfl ?_
    refine zq_gn E hM k_h0 (zFX12_151 E hZ) (Or.inl ⟨by decide, by decide, by decide, rfl⟩) dX12_opens_34 (fun x107 ex107 gx107 => ?_)
    replace gx107 : 0 ≤ x107.toInt ∧ x107.toInt ≤ 400 := gx107
    have := congrArg Int32.toInt ex107
    have hop : x107.toInt ≤ 399 := by have q := q_2; rw [← zpu_o (i := 16) k_h0 eI104 k_h0 (Or.inr (by decide)), ex107] at q; omega
    refine lv_iload_n hx hb dX12_opens_37 rfl (lv_at hl 1 rfl) ?_
    refine zq_isn (n := 400) (j := (x107.toNatClampNeg)) E hZ hM hS k106 ⟨by decide, rfl⟩ ⟨by omega, by omega⟩ rfl (zq_any _) dX12_opens_38 (fun I108 H locs eI108 hM hS => ?_)
    have hR := zq_fr.putE hR eI108 (zf_ia k106 (by decide) rfl)
    have hG109 : zGo X h0 true 0 I I108 := (zGo.wk (zGo.pt hG105 L k_h0 eI108 k106 rfl) (by decide))
    refine lv_aload_n hx hb dX12_opens_39 rfl (lv_at hl 0 rfl) ?_
    refine lv_dup hx hb dX12_opens_40 rfl ?_
    refine zq_gk (v := x107) E hM k_h0 (zFX12_151 E hZ) (Or.inl ⟨by decide, by decide, by decide, rfl⟩) (zq_kp eI108 (Or.inl (zq_kne k_h0 k106 (by decide))) ex107) dX12_opens_41 ?_
    refine lv_iconst (v := 1) hx hb dX12_opens_44 (by decide +kernel) ?_
    refine lv_iadd hx hb dX12_opens_45 ?_
    refine lv_topi (fun x110 ex110 => ?_)
    have tx110 := zi_add ex110 (rfl : x107.toInt = x107.toInt) (zl_1 : (1 : Int32).toInt = 1) ⟨by omega, by omega⟩
    refine zq_pn E hM hS k_h0 (zGX12_151 E hZ) ⟨by decide, by decide, by decide, rfl⟩ (show 0 ≤ x110.toInt ∧ x110.toInt ≤ 400 from ⟨by omega, by omega⟩) dX12_opens_46 (fun I111 H locs eI111 hM hS => ?_)
    have hR := zq_fr.putE hR eI111 (zf_i k_h0 rfl rfl)
    have hG112 : zGo X h0 true (-1) I I111 := (zGo.wk (zGo.p16 hG109 L k_h0 eI111 (-1) (by rw [(zq_kp eI108 (Or.inl (zq_kne k_h0 k106 (by decide))) ex107)]; omega)) (by decide))
    refine lv_iconst (v := 1) hx hb dX12_opens_49 (by decide +kernel) ?_
    refine W.eq (g2 := F0 m 50 ls [.int (1 : Int32)]) rfl ?_
    subst hQ
    exact zq_zret E hr hZ hM hS (show 0 ≤ (1 : Int32).toInt ∧ (1 : Int32).toInt ≤ 1 by decide +kernel) ⟨hR, (hG112), (fun hs o => by
      have a16 := (zpu_o (i := 16) k_h0 eI104 k_h0 (Or.inr (by decide)))
      have ao : ∀ j, I104 (zq_r X h0 15) j = I (zq_r X h0 15) j := fun j => zq_kp eI104 (Or.inl (zq_kne (zq_lk L.1 k_h0 rfl (by decide) : zq_k X (zq_r X h0 15) = 56) k_h0 (by decide))) rfl
      have q9 := zop (zOk.eq o a16 ao) L k_h0 ex107 eI108 eI111 (by have := zq_cl (i := x107) (by omega); have := zq_cl (i := x110) (by omega); omega) hs
      exact ⟨q9.1, q9.2.trans (zC.eq a16 ao)⟩), (Or.inl (by decide +kernel)), (by have := zl_1; omega)⟩ hlocks dX12_opens_50
  · have b102 := zi_eq b102 (rfl : x101.toInt = x101.toInt) (zl_10 : (10 : Int32).toInt = 10)
    refine lv_aload_n hx hb dX12_opens_9 rfl (lv_at hl 0 rfl) ?_
    refine lv_iconst (v := 2) hx hb dX12_opens_10 (by decide +kernel) ?_
    refine lv_aload_n hx hb dX12_opens_11 rfl (lv_at hl 0 rfl) ?_
    refine zq_gn E hM k_h0 (zFX12_84 E hZ) (Or.inl ⟨by decide, by decide, by decide, rfl⟩) dX12_opens_12 (fun x113 ex113 gx113 => ?_)
    replace gx113 : 0 ≤ x113.toInt ∧ x113.toInt ≤ 400 := gx113
    refine zq_calli (zq_rV (As := [.int (2 : Int32), .int x113]) (rest := []) E hZ hM k_h0 (c_X12_fails l X zk (zn) I L h0 k_h0 (2 : Int32) x113 (by have := zl_2; omega)) zmX12_105 zM_X12_fails (hro (0) 3 (by first | decide | omega) (by decide)) ⟨by decide, by decide⟩ rfl hl.1 rfl rfl (Nat.le_of_ble_eq_true rfl) dX12_opens_15) hS (fun x115 I116 H locs h114 hM hS => ?_)
    obtain ⟨fr117, p118, p119⟩ := h114
    have := zl_2
    have hR := zq_fr.call hR fr117 (zf_sub (by decide +kernel) (fun _ _ q => q.elim))
    have hG120 : zGo X h0 true 0 I I116 := (zGo.wk (zGo.fr hG0 L k_h0 fr117 rfl rfl rfl) (by decide))
    subst hQ
    exact zq_zret E hr hZ hM hS (show 0 ≤ x115.toInt ∧ x115.toInt ≤ 1 from ⟨by omega, by omega⟩) ⟨hR, ((zGo.wk hG120 (by decide))), (fun _ o => ⟨zOk.eq o (zfr_o k_h0 fr117 rfl) (zfr_s L k_h0 fr117 rfl (by decide) rfl), zC.eq (zfr_o k_h0 fr117 rfl) (zfr_s L k_h0 fr117 rfl (by decide) rfl)⟩), (Or.inr hG120), (by omega)⟩ hlocks dX12_opens_18
set_option maxHeartbeats 8000000 in
set_option maxRecDepth 100000 in
theorem c_X12_isInside (l : Launch) (X : zq_X) (zk zn : Nat) (I : zq_M) (L : zq_L X)  (h0 : Nat) (k_h0 : zq_k X h0 = 10) (q_0 : zk ≤ 4400 ∧ zn ≤ 4400) : Met l yX12_isInside (zt_w yX12_isInside cX12_isInside 2 (some .boolean)) (zq_rm (0)) (va_Pc [.ref h0] (zq_W X (zk, zn) I)) (va_Qi (fun (r : Int32) I2 => I2 = I ∧ (r.toInt = 0 ∨ ∃ k : Nat, (k : Int) < (I h0 16).toInt ∧ (I (zq_r X h0 15) k).toInt = 91) ∧ (r.toInt = 1 ∨ ∀ k : Nat, (k : Int) < (I h0 16).toInt → ¬ (I (zq_r X h0 15) k).toInt = 91) ∧ (0 ≤ r.toInt ∧ r.toInt ≤ 1)) (zq_E X (zk, zn)) (zq_A X)) 0 0 (zq_A X) := by
  refine Met.ofW (cc := cX12_isInside) (maxL := 2) (ret := (some .boolean)) (by decide) rfl ?_
  intro p e s m args below meth c s₁ B hml hv
  obtain ⟨hargs, hM, hZ⟩ := hv
  have hown : s.vm.findClass RX12 = some m.cls := findClass_of_methodNamed B.named
  have hts := atoms_spec (ws := zt_w yX12_isInside cX12_isInside 2 (some .boolean)) B.pre
  have E : CallFix p m c cX12_isInside 2 s args (Cond.code yX12_isInside cX12_isInside 2 (some .boolean) :: zt) RX12 := ⟨B.exec, B.bytes, hml, hown, hts⟩
  have hx := B.exec
  have hb := B.bytes
  have hr := B.returns
  have hlocks := B.notSynchronized
  clear B
  have hS : va_S (zq_A X) s.heap s.heap [] := va_S.rf
  have hl := lv_entry ([.ref h0]) (n := 2) (by exact Nat.le_of_ble_eq_true rfl)
  have hg : entryFrame m args 2 = F0 m 0 ((lg_sl ([.ref h0]) ++ List.replicate (2 - (lg_sl ([.ref h0])).length) Slot.unset).toArray) [] := by rw [hargs]; exact lg_entry_eq m ([.ref h0]) 2
  rw [hg]
  clear hg hargs
  generalize (lg_sl ([.ref h0]) ++ List.replicate (2 - (lg_sl ([.ref h0])).length) Slot.unset).toArray = ls at hl ⊢
  have hl : lv_has ls 2 [(0, .ref h0)] := by exact hl
  obtain ⟨R, hRm⟩ : ∃ R : Room, R = (headSpec (zt_w yX12_isInside cX12_isInside 2 (some .boolean)) (zq_rm (0))).room := ⟨_, rfl⟩
  rw [← hRm]
  generalize hQ : MQ below _ args s 0 0 (zq_A X) = Q
  obtain ⟨H, hH⟩ : ∃ H, H = s.heap := ⟨_, rfl⟩
  obtain ⟨locs, hlo⟩ : ∃ x : List Loc, x = [] := ⟨_, rfl⟩
  rw [show W p l e R s m args below meth c s.heap [] 0 0 Q = W p l e R s m args below meth c H locs 0 0 Q by rw [hH, hlo]]
  have hM : zq_hm X (zk, zn) I H := by rw [hH]; exact hM
  have hS : va_S (zq_A X) s.heap H locs := by rw [hH, hlo]; exact hS
  clear hH hlo
  refine lv_iconst (v := 0) hx hb dX12_isInside_0 (by decide +kernel) ?_
  refine lv_istore_n (lv' := [(1, .int (0 : Int32)), (0, .ref h0)]) hx hb dX12_isInside_1 rfl hl (by decide) rfl (fun ls hl => ?_)
  have J2 : ∀ (n122 : Nat) (ls : Array Slot) (j121 : Int32), 400 + 1 - j121.toInt ≤ ((n122 : Nat) : Int) → (0 ≤ j121.toInt ∧ j121.toInt ≤ 400) → (∀ k : Nat, (k : Int) < j121.toInt → ¬ (I (zq_r X h0 15) k).toInt = 91) → (lv_has ls 2 [(1, .int j121), (0, .ref h0)]) → W p l e R s m args below meth c H locs 0 0 Q (F0 m 2 ls []) := by
    intro n122
    induction n122 with
    | zero => intro ls j121 mu123 gj121 hii hl; exfalso; have := zi_rng j121; omega
    | succ n122 ih2 =>
      intro ls j121 mu123 gj121 hii hl
      refine lv_iload_n hx hb dX12_isInside_2 rfl (lv_at hl 0 rfl) ?_
      refine lv_aload_n hx hb dX12_isInside_3 rfl (lv_at hl 1 rfl) ?_
      refine zq_gn E hM k_h0 (zFX12_151 E hZ) (Or.inl ⟨by decide, by decide, by decide, rfl⟩) dX12_isInside_4 (fun x124 ex124 gx124 => ?_)
      replace gx124 : 0 ≤ x124.toInt ∧ x124.toInt ≤ 400 := gx124
      have := congrArg Int32.toInt ex124
      refine lv_icmp_ge (tgt := 29) hx hb dX12_isInside_7 (by decide) (fun b125 => ?_) (fun b125 => ?_)
      · have b125 := zi_le b125 (rfl : x124.toInt = x124.toInt) (rfl : j121.toInt = j121.toInt)
        refine lv_iconst (v := 0) hx hb dX12_isInside_29 (by decide +kernel) ?_
        subst hQ
        exact zq_zret E hr hZ hM hS (show 0 ≤ (0 : Int32).toInt ∧ (0 : Int32).toInt ≤ 1 by decide +kernel) ⟨rfl, (Or.inl (by decide +kernel)), (Or.inr (fun k hk => hii k (by omega))), (by have := zl_0; omega)⟩ hlocks dX12_isInside_30
      · have b125 := zi_nle b125 (rfl : x124.toInt = x124.toInt) (rfl : j121.toInt = j121.toInt)
        refine lv_aload_n hx hb dX12_isInside_10 rfl (lv_at hl 1 rfl) ?_
        refine zq_getr E hM k_h0 (zFX12_29 E hZ) ⟨by decide, by decide, by decide, rfl⟩ dX12_isInside_11 ?_
        have k126 : zq_k X (zq_r X h0 15) = 56 := zq_lk L.1 k_h0 rfl (by decide)
        refine lv_iload_n hx hb dX12_isInside_14 rfl (lv_at hl 0 rfl) ?_
        refine zq_ian (n := 400) (j := (j121.toNatClampNeg)) E hZ hM k126 ⟨by decide, rfl⟩ ⟨by omega, by omega⟩ rfl dX12_isInside_15 (fun x127 ex127 gx127 => ?_)
        clear gx127
        refine lv_bipush (v := 91) hx hb dX12_isInside_16 (by decide +kernel) ?_
        refine lv_icmp_ne (tgt := 23) hx hb dX12_isInside_18 (by decide) (fun b128 => ?_) (fun b128 => ?_)
        · have b128 := zi_ne b128 (rfl : x127.toInt = x127.toInt) (zl_91 : (91 : Int32).toInt = 91)
          obtain ⟨x129, ex129⟩ : ∃ y : Int32, y = j121 + 1 := ⟨_, rfl⟩
          have tx129 := zi_add ex129 (rfl : j121.toInt = j121.toInt) zl_1 ⟨by omega, by omega⟩
          refine lv_iinc (v := x129) (lv' := [(1, .int x129), (0, .ref h0)]) hx hb dX12_isInside_23 hl (k := 0) rfl (by rw [ex129]; rfl) (by decide) rfl (fun ls hl => ?_)
          refine lv_goto (tgt := 2) hx hb dX12_isInside_26 (by decide) ?_
          exact ih2 ls x129 (by omega) (⟨by omega, by omega⟩) (fun k hk => by
      by_cases q : (k : Int) = j121.toInt
      · rw [show k = j121.toNatClampNeg by have := zq_cl (i := j121) (by omega); omega, ex127]; omega
      · exact hii k (by omega)) (lv_sub hl [0, 1] rfl)
        · have b128 := zi_eq b128 (rfl : x127.toInt = x127.toInt) (zl_91 : (91 : Int32).toInt = 91)
          refine lv_iconst (v := 1) hx hb dX12_isInside_21 (by decide +kernel) ?_
          subst hQ
          exact zq_zret E hr hZ hM hS (show 0 ≤ (1 : Int32).toInt ∧ (1 : Int32).toInt ≤ 1 by decide +kernel) ⟨rfl, (Or.inr ⟨j121.toNatClampNeg, by have := zq_cl (i := j121) (by omega); omega, by rw [ex127]; omega⟩), (Or.inl (by decide +kernel)), (by have := zl_1; omega)⟩ hlocks dX12_isInside_22
  exact J2 (400 + 1 - (0 : Int32).toInt).toNat ls (0 : Int32) (by omega) (by rw [zl_0]; decide) (fun k hk => absurd hk (by have := zl_0; omega)) (lv_sub hl [0, 1] rfl)
def zw_X12_settles : List (Nat × Nat) := [(10, 13), (10, 16), (51, 999), (52, 999)]
set_option maxHeartbeats 8000000 in
set_option maxRecDepth 100000 in
theorem c_X12_settles (l : Launch) (X : zq_X) (zk zn : Nat) (I : zq_M) (L : zq_L X)  (h0 : Nat) (k_h0 : zq_k X h0 = 10) (p1 : Int32) (g_p1 : 1 ≤ p1.toInt ∧ p1.toInt ≤ 3) (q_0 : zk ≤ 4400 ∧ zn ≤ 4400) (q_1 : (I h0 8).toInt ≤ (I h0 1).toInt) (q_2 : (I h0 11).toInt ≤ 5) (q_3 : zMu X h0 true I ≤ (I h0 8).toInt) (q_4 : zOk X I h0) : Met l yX12_settles (zt_w yX12_settles cX12_settles 2 none) (zq_rm (1)) (va_Pc [.ref h0, .int p1] (zq_W X (zk, zn) I)) (va_Qv (fun I2 => zq_fr (zf X zw_X12_settles (fun _ => False)) I I2 ∧ (zGo X h0 true 0 I I2) ∧ (zSe X h0 I I2) ∧ (p1.toInt = 1 → ∀ k : Nat, (k : Int) + 1 = (I2 h0 16).toInt → (I2 (zq_r X h0 15) k).toInt = 91)) (zq_E X (zk, zn)) (zq_A X)) 0 0 (zq_A X) := by
  refine Met.ofW (cc := cX12_settles) (maxL := 2) (ret := none) (by decide) rfl ?_
  intro p e s m args below meth c s₁ B hml hv
  obtain ⟨hargs, hM, hZ⟩ := hv
  have hown : s.vm.findClass RX12 = some m.cls := findClass_of_methodNamed B.named
  have hts := atoms_spec (ws := zt_w yX12_settles cX12_settles 2 none) B.pre
  have E : CallFix p m c cX12_settles 2 s args (Cond.code yX12_settles cX12_settles 2 none :: zt) RX12 := ⟨B.exec, B.bytes, hml, hown, hts⟩
  have hx := B.exec
  have hb := B.bytes
  have hr := B.returns
  have hlocks := B.notSynchronized
  clear B
  have hS : va_S (zq_A X) s.heap s.heap [] := va_S.rf
  have hR : zq_fr (zf X zw_X12_settles (fun _ => False)) I I := zq_fr.rf
  have hl := lv_entry ([.ref h0, .int p1]) (n := 2) (by exact Nat.le_of_ble_eq_true rfl)
  have hg : entryFrame m args 2 = F0 m 0 ((lg_sl ([.ref h0, .int p1]) ++ List.replicate (2 - (lg_sl ([.ref h0, .int p1])).length) Slot.unset).toArray) [] := by rw [hargs]; exact lg_entry_eq m ([.ref h0, .int p1]) 2
  rw [hg]
  clear hg hargs
  generalize (lg_sl ([.ref h0, .int p1]) ++ List.replicate (2 - (lg_sl ([.ref h0, .int p1])).length) Slot.unset).toArray = ls at hl ⊢
  have hl : lv_has ls 2 [(0, .ref h0), (1, .int p1)] := by exact hl
  obtain ⟨R, hRm⟩ : ∃ R : Room, R = (headSpec (zt_w yX12_settles cX12_settles 2 none) (zq_rm (1))).room := ⟨_, rfl⟩
  rw [← hRm]
  have hro : ∀ d q : Nat, d + 1 ≤ 1 → q ≤ 45 → zq_rok d q R := fun d q h1 h2 => by rw [hRm]; exact zq_rokI h1 h2
  generalize hQ : MQ below _ args s 0 0 (zq_A X) = Q
  obtain ⟨H, hH⟩ : ∃ H, H = s.heap := ⟨_, rfl⟩
  obtain ⟨locs, hlo⟩ : ∃ x : List Loc, x = [] := ⟨_, rfl⟩
  rw [show W p l e R s m args below meth c s.heap [] 0 0 Q = W p l e R s m args below meth c H locs 0 0 Q by rw [hH, hlo]]
  have hM : zq_hm X (zk, zn) I H := by rw [hH]; exact hM
  have hS : va_S (zq_A X) s.heap H locs := by rw [hH, hlo]; exact hS
  clear hH hlo
  have hG0 : zGo X h0 true 0 I I := zGo.rf q_1
  have hSe0 : zSe X h0 I I := zSe.rf q_4
  have J0 : ∀ (n136 : Nat) (I133 : zq_M) (H : Heap) (locs : List Loc) (ls : Array Slot), (I133 h0 16).toInt + 1 ≤ ((n136 : Nat) : Int) → (zq_hm X (zk, zn) I133 H) → (va_S (zq_A X) s.heap H locs) → (zq_fr (zf X zw_X12_settles (fun _ => False)) I I133) → (zGo X h0 true 0 I I133) → (zSe X h0 I I133) → (lv_has ls 2 [(0, .ref h0), (1, .int p1)]) → W p l e R s m args below meth c H locs 0 0 Q (F0 m 0 ls []) := by
    intro n136
    induction n136 with
    | zero => intro I133 H locs ls mu137 hM hS hR F134 F135 hl; exfalso; have q9 : (0 : Int) ≤ _ := (zq_rng hM k_h0 16).1; omega
    | succ n136 ih0 =>
      intro I133 H locs ls mu137 hM hS hR F134 F135 hl
      refine lv_aload_n hx hb dX12_settles_0 rfl (lv_at hl 0 rfl) ?_
      refine zq_gn E hM k_h0 (zFX12_151 E hZ) (Or.inl ⟨by decide, by decide, by decide, rfl⟩) dX12_settles_1 (fun x138 ex138 gx138 => ?_)
      replace gx138 : 0 ≤ x138.toInt ∧ x138.toInt ≤ 400 := gx138
      have := congrArg Int32.toInt ex138
      refine lv_if_le (tgt := 76) hx hb dX12_settles_4 (by decide) (fun b139 => ?_) (fun b139 => ?_)
      · have b139 := zi_le b139 (rfl : x138.toInt = x138.toInt) (zl_0 : (0 : Int32).toInt = 0)
        subst hQ
        exact zq_vret E hr hZ hM hS ⟨hR, (F134), (F135), (fun _ k hk => by exfalso; rw [ex138] at hk; omega)⟩ hlocks dX12_settles_76
      · have b139 := zi_nle b139 (rfl : x138.toInt = x138.toInt) (zl_0 : (0 : Int32).toInt = 0)
        refine lv_aload_n hx hb dX12_settles_7 rfl (lv_at hl 0 rfl) ?_
        refine zq_getr E hM k_h0 (zFX12_29 E hZ) ⟨by decide, by decide, by decide, rfl⟩ dX12_settles_8 ?_
        have k140 : zq_k X (zq_r X h0 15) = 56 := zq_lk L.1 k_h0 rfl (by decide)
        refine lv_aload_n hx hb dX12_settles_11 rfl (lv_at hl 0 rfl) ?_
        refine zq_gk (v := x138) E hM k_h0 (zFX12_151 E hZ) (Or.inl ⟨by decide, by decide, by decide, rfl⟩) ex138 dX12_settles_12 ?_
        refine lv_iconst (v := 1) hx hb dX12_settles_15 (by decide +kernel) ?_
        refine lv_isub hx hb dX12_settles_16 ?_
        refine lv_topi (fun x141 ex141 => ?_)
        have tx141 := zi_sub ex141 (rfl : x138.toInt = x138.toInt) (zl_1 : (1 : Int32).toInt = 1) ⟨by omega, by omega⟩
        refine zq_ian (n := 400) (j := (x141.toNatClampNeg)) E hZ hM k140 ⟨by decide, rfl⟩ ⟨by omega, by omega⟩ rfl dX12_settles_17 (fun x142 ex142 gx142 => ?_)
        clear gx142
        refine zq_pcalli (zq_rS (As := [.int x142]) (rest := []) E hZ hM (c_X12_strength l X zk (zn) I133 L x142) zmX12_154 zM_X12_strength (hro (0) 1 (by first | decide | omega) (by decide)) hl.1 rfl rfl (Nat.le_of_ble_eq_true rfl) dX12_settles_18) hS (fun x144 H locs h143 hM hS => ?_)
        obtain ⟨p145, p146, p147⟩ := h143
        refine lv_iload_n hx hb dX12_settles_21 rfl (lv_at hl 1 rfl) ?_
        refine W.eq (g2 := F0 m 22 ls [.int p1, .int x144]) rfl ?_
        refine lv_icmp_lt (tgt := 76) hx hb dX12_settles_22 (by decide) (fun b148 => ?_) (fun b148 => ?_)
        · have b148 := zi_lt b148 (rfl : x144.toInt = x144.toInt) (rfl : p1.toInt = p1.toInt)
          subst hQ
          exact zq_vret E hr hZ hM hS ⟨hR, (F134), (F135), (fun h1 k hk => by
      rw [ex138] at hk
      have hc := zq_cl (i := x141) (by omega)
      have hx := zq_cl (i := x138) (by omega)
      have o9 := F135.1.1 x141.toNatClampNeg (by rw [ex138]; omega)
      rw [show k = x141.toNatClampNeg by omega, ex142]
      rw [ex142] at o9
      by_cases h9 : x142.toInt = 11 ∨ x142.toInt = 12 ∨ x142.toInt = 13
      · have := p146 h9; omega
      · omega)⟩ hlocks dX12_settles_76
        · have b148 := zi_nlt b148 (rfl : x144.toInt = x144.toInt) (rfl : p1.toInt = p1.toInt)
          refine lv_aload_n hx hb dX12_settles_25 rfl (lv_at hl 0 rfl) ?_
          refine lv_dup hx hb dX12_settles_26 rfl ?_
          refine zq_gk (v := x138) E hM k_h0 (zFX12_151 E hZ) (Or.inl ⟨by decide, by decide, by decide, rfl⟩) ex138 dX12_settles_27 ?_
          refine lv_iconst (v := 1) hx hb dX12_settles_30 (by decide +kernel) ?_
          refine lv_isub hx hb dX12_settles_31 ?_
          refine lv_topi (fun x149 ex149 => ?_)
          have tx149 := zi_sub ex149 (rfl : x138.toInt = x138.toInt) (zl_1 : (1 : Int32).toInt = 1) ⟨by omega, by omega⟩
          refine zq_pn E hM hS k_h0 (zGX12_151 E hZ) ⟨by decide, by decide, by decide, rfl⟩ (show 0 ≤ x149.toInt ∧ x149.toInt ≤ 400 from ⟨by omega, by omega⟩) dX12_settles_32 (fun I150 H locs eI150 hM hS => ?_)
          have hR := zq_fr.putE hR eI150 (zf_i k_h0 rfl rfl)
          have hG151 : zGo X h0 true 1 I I150 := (zGo.wk (zGo.p16 F134 L k_h0 eI150 1 (by rw [ex138]; omega)) (by decide))
          refine lv_aload_n hx hb dX12_settles_35 rfl (lv_at hl 0 rfl) ?_
          refine lv_aload_n hx hb dX12_settles_36 rfl (lv_at hl 0 rfl) ?_
          refine zq_getr E hM k_h0 (zFX12_29 E hZ) ⟨by decide, by decide, by decide, rfl⟩ dX12_settles_37 ?_
          have k152 : zq_k X (zq_r X h0 15) = 56 := zq_lk L.1 k_h0 rfl (by decide)
          refine W.eq (g2 := F0 m 40 ls [.ref (zq_r X h0 15), .ref h0]) rfl ?_
          refine lv_aload_n hx hb dX12_settles_40 rfl (lv_at hl 0 rfl) ?_
          refine zq_gk (v := x149) E hM k_h0 (zFX12_151 E hZ) (Or.inl ⟨by decide, by decide, by decide, rfl⟩) (zq_kv eI150) dX12_settles_41 ?_
          refine zq_ian (n := 400) (j := (x149.toNatClampNeg)) E hZ hM k152 ⟨by decide, rfl⟩ ⟨by omega, by omega⟩ rfl dX12_settles_44 (fun x153 ex153 gx153 => ?_)
          clear gx153
          refine lv_iconst (v := 0) hx hb dX12_settles_45 (by decide +kernel) ?_
          have hso : I133 (zq_r X h0 15) x149.toNatClampNeg = x153 := zq_kb eI150 (Or.inl (zq_kne (zq_lk L.1 k_h0 rfl (by decide) : zq_k X (zq_r X h0 15) = 56) k_h0 (by decide))) ex153
          have hss : x153 = x142 := hso.symm.trans (by rw [show x149.toNatClampNeg = x141.toNatClampNeg by have := zq_cl (i := x149) (by omega); have := zq_cl (i := x141) (by omega); omega]; exact ex142)
          have hss := congrArg Int32.toInt hss
          refine zq_callv (zq_rV (As := [.int x153, .int (0 : Int32)]) (rest := []) E hZ hM k_h0 (c_X12_puts l X zk (zn) I150 L h0 k_h0 x153 (0 : Int32) (by have := zl_0; have := zi_rng x153; omega) (by rw [hG151.1]; exact q_2) (zGo.room1 hG151 (by decide) q_3 ((zq_rng hM k_h0 16).1) ((zq_rng hM k_h0 1).2))) zmX12_158 zM_X12_puts (hro (0) 3 (by first | decide | omega) (by decide)) ⟨by decide, by decide⟩ rfl hl.1 rfl rfl (Nat.le_of_ble_eq_true rfl) dX12_settles_46) hS (fun I156 H locs h154 hM hS => ?_)
          obtain ⟨fr157, p158, p159⟩ := h154
          have := zl_0
          have hR := zq_fr.call hR fr157 (zf_sub (by decide +kernel) (fun _ _ q => q.elim))
          have hG160 : zGo X h0 true 0 I I156 := (zGo.wk (zGo.tr hG151 (zPu.go p158 k_h0 fr157 rfl hG151.2.2.2.1 p159)) (by decide))
          have hSe161 : zSe X h0 I I156 := zSe.pop F135 F134 L k_h0 eI150 ex138 (by omega) (by omega) p158 fr157 rfl rfl hso (by have q := p145.resolve_left (by omega); have e9 := hss; omega)
          refine lv_aload_n hx hb dX12_settles_49 rfl (lv_at hl 0 rfl) ?_
          refine zq_getr E hM k_h0 (zFX12_29 E hZ) ⟨by decide, by decide, by decide, rfl⟩ dX12_settles_50 ?_
          have k162 : zq_k X (zq_r X h0 15) = 56 := zq_lk L.1 k_h0 rfl (by decide)
          refine lv_aload_n hx hb dX12_settles_53 rfl (lv_at hl 0 rfl) ?_
          refine zq_gk (v := x149) E hM k_h0 (zFX12_151 E hZ) (Or.inl ⟨by decide, by decide, by decide, rfl⟩) (zq_fr.kp fr157 (zf_n k_h0 rfl) (zq_kv eI150)) dX12_settles_54 ?_
          refine zq_iald (n := 400) (j := (x149.toNatClampNeg)) (v := x153) E hZ hM k162 ⟨by decide, rfl⟩ ⟨by omega, by omega⟩ rfl (zq_fr.kp fr157 (zf_n k162 rfl) ex153) dX12_settles_57 ?_
          refine W.eq (g2 := F0 m 58 ls [.int x153]) rfl ?_
          refine lv_bipush (v := 11) hx hb dX12_settles_58 (by decide +kernel) ?_
          refine lv_icmp_ne (tgt := 0) hx hb dX12_settles_60 (by decide) (fun b164 => ?_) (fun b164 => ?_)
          · have b164 := zi_ne b164 (rfl : x153.toInt = x153.toInt) (zl_11 : (11 : Int32).toInt = 11)
            exact ih0 I156 H locs ls (by rw [(zq_fr.kp fr157 (zf_n k_h0 rfl) (zq_kv eI150))]; omega) hM hS hR hG160 hSe161 (lv_sub hl [0, 1] rfl)
          · have b164 := zi_eq b164 (rfl : x153.toInt = x153.toInt) (zl_11 : (11 : Int32).toInt = 11)
            refine lv_aload_n hx hb dX12_settles_63 rfl (lv_at hl 0 rfl) ?_
            refine lv_dup hx hb dX12_settles_64 rfl ?_
            refine zq_gn E hM k_h0 (zFX12_148 E hZ) (Or.inl ⟨by decide, by decide, by decide, rfl⟩) dX12_settles_65 (fun x165 ex165 gx165 => ?_)
            clear gx165
            refine lv_iconst (v := 1) hx hb dX12_settles_68 (by decide +kernel) ?_
            refine lv_isub hx hb dX12_settles_69 ?_
            refine lv_topi (fun x166 ex166 => ?_)
            refine zq_pn E hM hS k_h0 (zGX12_148 E hZ) ⟨by decide, by decide, by decide, rfl⟩ (zq_any _) dX12_settles_70 (fun I167 H locs eI167 hM hS => ?_)
            have hR := zq_fr.putE hR eI167 (zf_i k_h0 rfl rfl)
            have hG168 : zGo X h0 true 0 I I167 := (zGo.wk (zGo.pt hG160 L k_h0 eI167 k_h0 rfl) (by decide))
            have hSe169 : zSe X h0 I I167 := zSe.st hSe161 (zpu_s L k_h0 eI167 k_h0 (by decide)) (zLn.eq (zpu_o k_h0 eI167 k_h0 (Or.inr (by decide))) (zpu_l L k_h0 eI167 k_h0 (by decide))) (zpu_o k_h0 eI167 k_h0 (Or.inr (by decide))) (fun j => zq_kp eI167 (Or.inl (zq_kne (zq_lk L.1 k_h0 rfl (by decide) : zq_k X (zq_r X h0 15) = 56) k_h0 (by decide))) rfl)
            refine lv_goto (tgt := 0) hx hb dX12_settles_73 (by decide) ?_
            exact ih0 I167 H locs ls (by rw [(zq_kp eI167 (Or.inr (by decide)) (zq_fr.kp fr157 (zf_n k_h0 rfl) (zq_kv eI150)))]; omega) hM hS hR hG168 hSe169 (lv_sub hl [0, 1] rfl)
  exact J0 ((I h0 16).toInt + 1).toNat I H locs ls (by omega) hM hS hR hG0 hSe0 (lv_sub hl [0, 1] rfl)
def zw_X12_fact : List (Nat × Nat) := [(10, 8), (10, 9), (10, 10), (10, 12), (10, 13), (10, 16), (51, 999), (52, 999), (56, 999)]
set_option maxHeartbeats 8000000 in
set_option maxRecDepth 100000 in
theorem c_X12_fact (l : Launch) (X : zq_X) (zk zn : Nat) (I : zq_M) (L : zq_L X)  (h0 : Nat) (k_h0 : zq_k X h0 = 10) (q_0 : zk ≤ 4400 ∧ zn ≤ 4400) (q_1 : (I h0 8).toInt ≤ (I h0 1).toInt) (q_2 : (I h0 11).toInt ≤ 5) (q_3 : zMu X h0 true I ≤ (I h0 8).toInt) (q_4 : zOk X I h0) : Met l yX12_fact (zt_w yX12_fact cX12_fact 3 (some .boolean)) (zq_rm (7)) (va_Pc [.ref h0] (zq_W X (zk, zn) I)) (va_Qi (fun (r : Int32) I2 => zq_fr (zf X zw_X12_fact (fun _ => False)) I I2 ∧ (zGo X h0 true 0 I I2) ∧ (zOk X I2 h0 ∧ zC X I2 h0 = zC X I h0) ∧ (r.toInt = 0 ∨ zQ X h0 1 I I2) ∧ (0 ≤ r.toInt ∧ r.toInt ≤ 1)) (zq_E X (zk, zn)) (zq_A X)) 0 0 (zq_A X) := by
  refine Met.ofW (cc := cX12_fact) (maxL := 3) (ret := (some .boolean)) (by decide) rfl ?_
  intro p e s m args below meth c s₁ B hml hv
  obtain ⟨hargs, hM, hZ⟩ := hv
  have hown : s.vm.findClass RX12 = some m.cls := findClass_of_methodNamed B.named
  have hts := atoms_spec (ws := zt_w yX12_fact cX12_fact 3 (some .boolean)) B.pre
  have E : CallFix p m c cX12_fact 3 s args (Cond.code yX12_fact cX12_fact 3 (some .boolean) :: zt) RX12 := ⟨B.exec, B.bytes, hml, hown, hts⟩
  have hx := B.exec
  have hb := B.bytes
  have hr := B.returns
  have hlocks := B.notSynchronized
  clear B
  have hS : va_S (zq_A X) s.heap s.heap [] := va_S.rf
  have hR : zq_fr (zf X zw_X12_fact (fun _ => False)) I I := zq_fr.rf
  have hl := lv_entry ([.ref h0]) (n := 3) (by exact Nat.le_of_ble_eq_true rfl)
  have hg : entryFrame m args 3 = F0 m 0 ((lg_sl ([.ref h0]) ++ List.replicate (3 - (lg_sl ([.ref h0])).length) Slot.unset).toArray) [] := by rw [hargs]; exact lg_entry_eq m ([.ref h0]) 3
  rw [hg]
  clear hg hargs
  generalize (lg_sl ([.ref h0]) ++ List.replicate (3 - (lg_sl ([.ref h0])).length) Slot.unset).toArray = ls at hl ⊢
  have hl : lv_has ls 3 [(0, .ref h0)] := by exact hl
  obtain ⟨R, hRm⟩ : ∃ R : Room, R = (headSpec (zt_w yX12_fact cX12_fact 3 (some .boolean)) (zq_rm (7))).room := ⟨_, rfl⟩
  rw [← hRm]
  have hro : ∀ d q : Nat, d + 1 ≤ 7 → q ≤ 45 → zq_rok d q R := fun d q h1 h2 => by rw [hRm]; exact zq_rokI h1 h2
  generalize hQ : MQ below _ args s 0 0 (zq_A X) = Q
  obtain ⟨H, hH⟩ : ∃ H, H = s.heap := ⟨_, rfl⟩
  obtain ⟨locs, hlo⟩ : ∃ x : List Loc, x = [] := ⟨_, rfl⟩
  rw [show W p l e R s m args below meth c s.heap [] 0 0 Q = W p l e R s m args below meth c H locs 0 0 Q by rw [hH, hlo]]
  have hM : zq_hm X (zk, zn) I H := by rw [hH]; exact hM
  have hS : va_S (zq_A X) s.heap H locs := by rw [hH, hlo]; exact hS
  clear hH hlo
  have hG0 : zGo X h0 true 0 I I := zGo.rf q_1
  have hOk0 : zOk X I h0 ∧ zC X I h0 = zC X I h0 := ⟨q_4, rfl⟩
  have hQ0 : zQ X h0 0 I I := zQ.rf
  refine lv_iconst (v := 1) hx hb dX12_fact_0 (by decide +kernel) ?_
  refine lv_istore_n (lv' := [(1, .int (1 : Int32)), (0, .ref h0)]) hx hb dX12_fact_1 rfl hl (by decide) rfl (fun ls hl => ?_)
  have J2 : ∀ (n306 : Nat) (I302 : zq_M) (H : Heap) (locs : List Loc) (ls : Array Slot) (j301 : Int32), 2 * (401 - (I302 h0 8).toInt) + j301.toInt ≤ ((n306 : Nat) : Int) → (zq_hm X (zk, zn) I302 H) → (va_S (zq_A X) s.heap H locs) → (zq_fr (zf X zw_X12_fact (fun _ => False)) I I302) → (0 ≤ j301.toInt ∧ j301.toInt ≤ 1) → (zGo X h0 true 0 I I302) → (zOk X I302 h0 ∧ zC X I302 h0 = zC X I h0) → (zQ X h0 0 I I302) → (lv_has ls 3 [(1, .int j301), (0, .ref h0)]) → W p l e R s m args below meth c H locs 0 0 Q (F0 m 2 ls []) := by
    intro n306
    induction n306 with
    | zero => intro I302 H locs ls j301 mu307 hM hS hR gj301 F303 F304 F305 hl; exfalso; have q9 : _ ≤ (400 : Int) := (zq_rng hM k_h0 8).2; omega
    | succ n306 ih2 =>
      intro I302 H locs ls j301 mu307 hM hS hR gj301 F303 F304 F305 hl
      have hNx0 : (I302 h0 8).toInt + 0 ≤ (I302 h0 8).toInt := by omega
      refine lv_iload_n hx hb dX12_fact_2 rfl (lv_at hl 0 rfl) ?_
      refine lv_if_eq (tgt := 75) hx hb dX12_fact_3 (by decide) (fun b308 => ?_) (fun b308 => ?_)
      · have b308 := zi_eq b308 (rfl : j301.toInt = j301.toInt) (zl_0 : (0 : Int32).toInt = 0)
        refine lv_aload_n hx hb dX12_fact_75 rfl (lv_at hl 1 rfl) ?_
        refine zq_calli (zq_rV (As := []) (rest := []) E hZ hM k_h0 (c_X12_compare l X zk (zn) I302 L h0 k_h0 (by omega) (F303.2.2.2.1) (by rw [F303.1]; exact q_2) (zGo.len1 F303 (by decide) q_3 ((zq_rng hM k_h0 16).1))) zmX12_187 zM_X12_compare (hro (6) 5 (by first | decide | omega) (by decide)) ⟨by decide, by decide⟩ rfl hl.1 rfl rfl (Nat.le_of_ble_eq_true rfl) dX12_fact_76) hS (fun x310 I311 H locs h309 hM hS => ?_)
        obtain ⟨fr312, p313, p314, p315⟩ := h309
        have hR := zq_fr.call hR fr312 (zf_sub (by decide +kernel) (fun _ _ q => q.elim))
        have hG316 : zGo X h0 true 0 I I311 := (zGo.wk (zGo.tr F303 (p313 true)) (by decide))
        have hOk317 : zOk X I311 h0 ∧ zC X I311 h0 = zC X I h0 := ⟨zOk.eq F304.1 (zfr_o k_h0 fr312 rfl) (zfr_s L k_h0 fr312 rfl (by decide) rfl), (zC.eq (zfr_o k_h0 fr312 rfl) (zfr_s L k_h0 fr312 rfl (by decide) rfl)).trans F304.2⟩
        have hNx319 : (I302 h0 8).toInt + 0 ≤ (I311 h0 8).toInt := Int.le_trans hNx0 (p313 true).2.2.1
        subst hQ
        exact zq_zret E hr hZ hM hS (show 0 ≤ x310.toInt ∧ x310.toInt ≤ 1 from ⟨by omega, by omega⟩) ⟨hR, (hG316), (hOk317), (p314.imp id (fun q9 => zQ.tr F305 F303 (p313 true) q9)), (by omega)⟩ hlocks dX12_fact_79
      · have b308 := zi_ne b308 (rfl : j301.toInt = j301.toInt) (zl_0 : (0 : Int32).toInt = 0)
        refine lv_iconst (v := 0) hx hb dX12_fact_6 (by decide +kernel) ?_
        refine lv_istore_n (lv' := [(1, .int (0 : Int32)), (0, .ref h0)]) hx hb dX12_fact_7 rfl hl (by decide) rfl (fun ls hl => ?_)
        refine lv_aload_n hx hb dX12_fact_8 rfl (lv_at hl 1 rfl) ?_
        refine zq_calli (zq_rV (As := []) (rest := []) E hZ hM k_h0 (c_X12_see l X zk (zn) I302 L h0 k_h0 (by omega) (F303.2.2.2.1)) zmX12_87 zM_X12_see (hro (0) 1 (by first | decide | omega) (by decide)) ⟨by decide, by decide⟩ rfl hl.1 rfl rfl (Nat.le_of_ble_eq_true rfl) dX12_fact_9) hS (fun x321 I322 H locs h320 hM hS => ?_)
        obtain ⟨fr323, p324, p325, p326, p327⟩ := h320
        have hR := zq_fr.call hR fr323 (zf_sub (by decide +kernel) (fun _ _ q => q.elim))
        have hG328 : zGo X h0 true 0 I I322 := (zGo.wk (zGo.tr F303 (p324 true)) (by decide))
        have hOk329 : zOk X I322 h0 ∧ zC X I322 h0 = zC X I h0 := ⟨zOk.eq F304.1 (zfr_o k_h0 fr323 rfl) (zfr_s L k_h0 fr323 rfl (by decide) rfl), (zC.eq (zfr_o k_h0 fr323 rfl) (zfr_s L k_h0 fr323 rfl (by decide) rfl)).trans F304.2⟩
        have hQ330 : zQ X h0 0 I I322 := zQ.fr F305 L k_h0 fr323 rfl rfl rfl (by rw [zfr_o k_h0 fr323 rfl]; exact Int.le_refl _)
        have hNx331 : (I302 h0 8).toInt + 0 ≤ (I322 h0 8).toInt := Int.le_trans hNx0 (p324 true).2.2.1
        refine lv_istore_n (lv' := [(2, .int x321), (1, .int (0 : Int32)), (0, .ref h0)]) hx hb dX12_fact_12 rfl hl (by decide) rfl (fun ls hl => ?_)
        refine lv_aload_n hx hb dX12_fact_13 rfl (lv_at hl 2 rfl) ?_
        refine W.ldc2 (v := 7237492) hx hb hown (hts _ (List.mem_cons_of_mem _ zCX12_182)) rfl dX12_fact_14 ?_
        refine W.eq (g2 := F0 m 17 ls [.long (7237492 : Int64), .ref h0]) rfl ?_
        refine zq_calli (zq_rV (As := [.long (7237492 : Int64)]) (rest := []) E hZ hM k_h0 (c_X12_isWord l X zk (zn) I322 L h0 k_h0 (7237492 : Int64) (by have : (7237492 : Int64).toInt = 7237492 := (by decide +kernel); omega) (hG328.2.2.2.1)) zmX12_95 zM_X12_isWord (hro (1) 6 (by first | decide | omega) (by decide)) ⟨by decide, by decide⟩ rfl hl.1 rfl rfl (Nat.le_of_ble_eq_true rfl) dX12_fact_17) hS (fun x333 I334 H locs h332 hM hS => ?_)
        obtain ⟨fr335, p336, p337, p338, p339⟩ := h332
        have : (7237492 : Int64).toInt = 7237492 := by decide +kernel
        have hR := zq_fr.call hR fr335 (zf_sub (by decide +kernel) (fun _ _ q => q.elim))
        have hG340 : zGo X h0 true 0 I I334 := (zGo.wk (zGo.tr hG328 (p336 true)) (by decide))
        have hOk341 : zOk X I334 h0 ∧ zC X I334 h0 = zC X I h0 := ⟨zOk.eq hOk329.1 (zfr_o k_h0 fr335 rfl) (zfr_s L k_h0 fr335 rfl (by decide) rfl), (zC.eq (zfr_o k_h0 fr335 rfl) (zfr_s L k_h0 fr335 rfl (by decide) rfl)).trans hOk329.2⟩
        have hQ342 : zQ X h0 0 I I334 := zQ.fr hQ330 L k_h0 fr335 rfl rfl rfl (by rw [zfr_o k_h0 fr335 rfl]; exact Int.le_refl _)
        have hNx343 : (I302 h0 8).toInt + 0 ≤ (I334 h0 8).toInt := Int.le_trans hNx331 (p336 true).2.2.1
        have hE344 : x321.toInt = -1 ∨ zAt X I334 h0 := p326.imp id (fun q9 => zAt.sm q9 p337)
        have J72 : ∀ (I413 : zq_M) (H : Heap) (locs : List Loc) (ls : Array Slot) (j412 : Int32), (zq_hm X (zk, zn) I413 H) → (va_S (zq_A X) s.heap H locs) → (zq_fr (zf X zw_X12_fact (fun _ => False)) I I413) → (0 ≤ j412.toInt ∧ j412.toInt ≤ 1) → (zGo X h0 true 0 I I413) → (zOk X I413 h0 ∧ zC X I413 h0 = zC X I h0) → (zQ X h0 0 I I413) → ((I302 h0 8).toInt + 0 ≤ (I413 h0 8).toInt) → (j412.toInt = 0 ∨ (I302 h0 8).toInt + 1 ≤ (I413 h0 8).toInt) → (lv_has ls 3 [(2, .int x321), (1, .int j412), (0, .ref h0)]) → W p l e R s m args below meth c H locs 0 0 Q (F0 m 72 ls []) := by
          intro I413 H locs ls j412 hM hS hR gj412 F414 F415 F416 F417 h72 hl
          refine lv_goto (tgt := 2) hx hb dX12_fact_72 (by decide) ?_
          exact ih2 I413 H locs ls j412 (by have q9 := F417; omega) hM hS hR (⟨by omega, by omega⟩) F414 F415 F416 (lv_sub hl [1, 2] rfl)
        refine lv_if_eq (tgt := 43) hx hb dX12_fact_20 (by decide) (fun b418 => ?_) (fun b418 => ?_)
        · have b418 := zi_eq b418 (rfl : x333.toInt = x333.toInt) (zl_0 : (0 : Int32).toInt = 0)
          refine lv_iload_n hx hb dX12_fact_43 rfl (lv_at hl 0 rfl) ?_
          refine lv_bipush (v := 91) hx hb dX12_fact_44 (by decide +kernel) ?_
          refine lv_icmp_ne (tgt := 72) hx hb dX12_fact_46 (by decide) (fun b419 => ?_) (fun b419 => ?_)
          · have b419 := zi_ne b419 (rfl : x321.toInt = x321.toInt) (zl_91 : (91 : Int32).toInt = 91)
            exact J72 I334 H locs ls (0 : Int32) hM hS hR (by rw [zl_0]; decide) hG340 hOk341 hQ342 hNx343 (Or.inl zl_0) (lv_sub hl [0, 1, 2] rfl)
          · have b419 := zi_eq b419 (rfl : x321.toInt = x321.toInt) (zl_91 : (91 : Int32).toInt = 91)
            refine lv_aload_n hx hb dX12_fact_49 rfl (lv_at hl 2 rfl) ?_
            refine lv_bipush (v := 91) hx hb dX12_fact_50 (by decide +kernel) ?_
            refine zq_calli (zq_rV (As := [.int (91 : Int32)]) (rest := []) E hZ hM k_h0 (c_X12_opens l X zk (zn) I334 L h0 k_h0 (91 : Int32) (by have := zl_91; omega) (hG340.2.2.2.1) (by have q9 := (hE344.resolve_left (by omega)).1; have q8 := zGo.op hG340 q_3; have q7 : (I334 h0 1).toInt ≤ 400 := (zq_rng hM k_h0 1).2; omega)) zmX12_184 zM_X12_opens (hro (1) 2 (by first | decide | omega) (by decide)) ⟨by decide, by decide⟩ rfl hl.1 rfl rfl (Nat.le_of_ble_eq_true rfl) dX12_fact_52) hS (fun x421 I422 H locs h420 hM hS => ?_)
            obtain ⟨fr423, p424, p425, p426, p427⟩ := h420
            have := zl_91
            have hR := zq_fr.call hR fr423 (zf_sub (by decide +kernel) (fun _ _ q => q.elim))
            have hG428 : zGo X h0 true (-1) I I422 := (zGo.wk (zGo.tr hG340 p424) (by decide))
            have hOk429 : zOk X I422 h0 ∧ zC X I422 h0 = zC X I h0 := have q9 := p425 (by have := zl_91; omega) hOk341.1; ⟨q9.1, q9.2.trans hOk341.2⟩
            have hQ430 : zQ X h0 0 I I422 := zQ.fr hQ342 L k_h0 fr423 rfl rfl rfl (by rw [zfr_o k_h0 fr423 rfl]; exact Int.le_refl _)
            have hNx431 : (I302 h0 8).toInt + 0 ≤ (I422 h0 8).toInt := Int.le_trans hNx343 (p424).2.2.1
            have hE432 : x321.toInt = -1 ∨ zAt X I422 h0 := hE344.imp id (fun q9 => zAt.sm q9 (fun _ => ⟨zfr_o k_h0 fr423 rfl, zfr_o k_h0 fr423 rfl, zfr_s L k_h0 fr423 rfl (by decide) rfl⟩))
            have hW434 : x333.toInt = 0 ∨ zLt X I422 h0 := p338.imp id (fun q9 => zLt.sm q9 (fun _ => ⟨zfr_o k_h0 fr423 rfl, zfr_o k_h0 fr423 rfl, zfr_s L k_h0 fr423 rfl (by decide) rfl⟩))
            refine lv_if_ne (tgt := 60) hx hb dX12_fact_55 (by decide) (fun b436 => ?_) (fun b436 => ?_)
            · have b436 := zi_ne b436 (rfl : x421.toInt = x421.toInt) (zl_0 : (0 : Int32).toInt = 0)
              have h60a : (I422 h0 8).toInt < (I422 h0 1).toInt := (hE432.resolve_left (by omega)).1
              have hN8437 : 0 ≤ (I422 h0 8).toInt ∧ (I422 h0 8).toInt ≤ 399 := ⟨(zq_rng hM k_h0 8).1, by have q : (I422 h0 1).toInt ≤ 400 := (zq_rng hM k_h0 1).2; omega⟩
              refine lv_aload_n hx hb dX12_fact_60 rfl (lv_at hl 2 rfl) ?_
              refine lv_dup hx hb dX12_fact_61 rfl ?_
              refine zq_gn E hM k_h0 (zFX12_84 E hZ) (Or.inl ⟨by decide, by decide, by decide, rfl⟩) dX12_fact_62 (fun x438 ex438 gx438 => ?_)
              replace gx438 : 0 ≤ x438.toInt ∧ x438.toInt ≤ 400 := gx438
              have fx438 : 0 ≤ x438.toInt ∧ x438.toInt ≤ 399 := by rw [← ex438]; exact hN8437
              have := congrArg Int32.toInt ex438
              refine lv_iconst (v := 1) hx hb dX12_fact_65 (by decide +kernel) ?_
              refine lv_iadd hx hb dX12_fact_66 ?_
              refine lv_topi (fun x439 ex439 => ?_)
              have tx439 := zi_add ex439 (rfl : x438.toInt = x438.toInt) (zl_1 : (1 : Int32).toInt = 1) ⟨by omega, by omega⟩
              refine zq_pn E hM hS k_h0 (zGX12_84 E hZ) ⟨by decide, by decide, by decide, rfl⟩ (show 0 ≤ x439.toInt ∧ x439.toInt ≤ 400 from ⟨by omega, by omega⟩) dX12_fact_67 (fun I440 H locs eI440 hM hS => ?_)
              have hR := zq_fr.putE hR eI440 (zf_i k_h0 rfl rfl)
              have hG441 : zGo X h0 true 0 I I440 := (zGo.wk (zGo.p8 hG428 L k_h0 eI440 1 (by rw [ex438]; omega) (by decide) (by omega)) (by decide))
              have hOk442 : zOk X I440 h0 ∧ zC X I440 h0 = zC X I h0 := ⟨zOk.eq hOk429.1 (zpu_o k_h0 eI440 k_h0 (Or.inr (by decide))) (fun j => zq_kp eI440 (Or.inl (zq_kne (zq_lk L.1 k_h0 rfl (by decide) : zq_k X (zq_r X h0 15) = 56) k_h0 (by decide))) rfl), (zC.eq (zpu_o k_h0 eI440 k_h0 (Or.inr (by decide))) (fun j => zq_kp eI440 (Or.inl (zq_kne (zq_lk L.1 k_h0 rfl (by decide) : zq_k X (zq_r X h0 15) = 56) k_h0 (by decide))) rfl)).trans hOk429.2⟩
              have hQ443 : zQ X h0 0 I I440 := zQ.pt hQ430 L k_h0 eI440 k_h0 ⟨by decide, by decide, Or.inr ⟨by decide, by decide⟩⟩
              have hNx444 : (I302 h0 8).toInt + 1 ≤ (I440 h0 8).toInt := by have q9 := hNx431; rw [zq_kv eI440]; omega
              refine lv_iconst (v := 1) hx hb dX12_fact_70 (by decide +kernel) ?_
              refine lv_istore_n (lv' := [(1, .int (1 : Int32)), (2, .int x321), (0, .ref h0)]) hx hb dX12_fact_71 rfl hl (by decide) rfl (fun ls hl => ?_)
              exact J72 I440 H locs ls (1 : Int32) hM hS hR (by rw [zl_1]; decide) hG441 hOk442 hQ443 (by have q9 := hNx444; omega) (Or.inr (by have q9 := hNx444; omega)) (lv_sub hl [1, 0, 2] rfl)
            · have b436 := zi_eq b436 (rfl : x421.toInt = x421.toInt) (zl_0 : (0 : Int32).toInt = 0)
              have hG449 : zGo X h0 true 0 I I422 := zGo.wk (zGo.tr hG340 (p426.resolve_left (by omega))) (by decide)
              refine lv_iconst (v := 0) hx hb dX12_fact_58 (by decide +kernel) ?_
              subst hQ
              exact zq_zret E hr hZ hM hS (show 0 ≤ (0 : Int32).toInt ∧ (0 : Int32).toInt ≤ 1 by decide +kernel) ⟨hR, (hG449), (hOk429), (Or.inl (by decide +kernel)), (by have := zl_0; omega)⟩ hlocks dX12_fact_59
        · have b418 := zi_ne b418 (rfl : x333.toInt = x333.toInt) (zl_0 : (0 : Int32).toInt = 0)
          have hLt450 : zLt X I334 h0 := p338.resolve_left (by omega)
          refine lv_aload_n hx hb dX12_fact_23 rfl (lv_at hl 2 rfl) ?_
          refine lv_bipush (v := 11) hx hb dX12_fact_24 (by decide +kernel) ?_
          refine zq_calli (zq_rV (As := [.int (11 : Int32)]) (rest := []) E hZ hM k_h0 (c_X12_opens l X zk (zn) I334 L h0 k_h0 (11 : Int32) (by have := zl_11; omega) (hG340.2.2.2.1) (by have q9 := hLt450.1.1; have q8 := zGo.op hG340 q_3; have q7 : (I334 h0 1).toInt ≤ 400 := (zq_rng hM k_h0 1).2; omega)) zmX12_184 zM_X12_opens (hro (1) 2 (by first | decide | omega) (by decide)) ⟨by decide, by decide⟩ rfl hl.1 rfl rfl (Nat.le_of_ble_eq_true rfl) dX12_fact_26) hS (fun x452 I453 H locs h451 hM hS => ?_)
          obtain ⟨fr454, p455, p456, p457, p458⟩ := h451
          have := zl_11
          have hR := zq_fr.call hR fr454 (zf_sub (by decide +kernel) (fun _ _ q => q.elim))
          have hG459 : zGo X h0 true (-1) I I453 := (zGo.wk (zGo.tr hG340 p455) (by decide))
          have hOk460 : zOk X I453 h0 ∧ zC X I453 h0 = zC X I h0 := have q9 := p456 (by have := zl_11; omega) hOk341.1; ⟨q9.1, q9.2.trans hOk341.2⟩
          have hQ461 : zQ X h0 0 I I453 := zQ.fr hQ342 L k_h0 fr454 rfl rfl rfl (by rw [zfr_o k_h0 fr454 rfl]; exact Int.le_refl _)
          have hNx462 : (I302 h0 8).toInt + 0 ≤ (I453 h0 8).toInt := Int.le_trans hNx343 (p455).2.2.1
          have hE463 : x321.toInt = -1 ∨ zAt X I453 h0 := hE344.imp id (fun q9 => zAt.sm q9 (fun _ => ⟨zfr_o k_h0 fr454 rfl, zfr_o k_h0 fr454 rfl, zfr_s L k_h0 fr454 rfl (by decide) rfl⟩))
          have hW465 : x333.toInt = 0 ∨ zLt X I453 h0 := p338.imp id (fun q9 => zLt.sm q9 (fun _ => ⟨zfr_o k_h0 fr454 rfl, zfr_o k_h0 fr454 rfl, zfr_s L k_h0 fr454 rfl (by decide) rfl⟩))
          have hH467 : zLt X I453 h0 := zLt.sm hLt450 (fun _ => ⟨zfr_o k_h0 fr454 rfl, zfr_o k_h0 fr454 rfl, zfr_s L k_h0 fr454 rfl (by decide) rfl⟩)
          refine lv_if_ne (tgt := 34) hx hb dX12_fact_29 (by decide) (fun b468 => ?_) (fun b468 => ?_)
          · have b468 := zi_ne b468 (rfl : x452.toInt = x452.toInt) (zl_0 : (0 : Int32).toInt = 0)
            refine lv_aload_n hx hb dX12_fact_34 rfl (lv_at hl 2 rfl) ?_
            refine zq_callv (zq_rV (As := []) (rest := []) E hZ hM k_h0 (c_X12_passWord l X zk (zn) I453 L h0 k_h0 (by omega) (hG459.2.2.2.1)) zmX12_99 zM_X12_passWord (hro (1) 1 (by first | decide | omega) (by decide)) ⟨by decide, by decide⟩ rfl hl.1 rfl rfl (Nat.le_of_ble_eq_true rfl) dX12_fact_35) hS (fun I471 H locs h469 hM hS => ?_)
            obtain ⟨fr472, p473, p474, p475⟩ := h469
            have hR := zq_fr.call hR fr472 (zf_sub (by decide +kernel) (fun _ _ q => q.elim))
            have hG476 : zGo X h0 true (-1) I I471 := (zGo.wk (zGo.tr hG459 (p473 true)) (by decide))
            have hOk477 : zOk X I471 h0 ∧ zC X I471 h0 = zC X I h0 := ⟨zOk.eq hOk460.1 (zfr_o k_h0 fr472 rfl) (zfr_s L k_h0 fr472 rfl (by decide) rfl), (zC.eq (zfr_o k_h0 fr472 rfl) (zfr_s L k_h0 fr472 rfl (by decide) rfl)).trans hOk460.2⟩
            have hQ478 : zQ X h0 0 I I471 := zQ.fr hQ461 L k_h0 fr472 rfl rfl rfl (by rw [zfr_o k_h0 fr472 rfl]; exact Int.le_refl _)
            have hNx479 : (I302 h0 8).toInt + 0 ≤ (I471 h0 8).toInt := Int.le_trans hNx462 (p473 true).2.2.1
            have hG485 : zGo X h0 true 0 I I471 := (zGo.wk (zGo.tr hG459 (p474 hH467 true)) (by decide))
            have hNx486 : (I302 h0 8).toInt + 1 ≤ (I471 h0 8).toInt := by have q9 := hNx462; have q8 := p475 hH467; omega
            refine lv_iconst (v := 1) hx hb dX12_fact_38 (by decide +kernel) ?_
            refine lv_istore_n (lv' := [(1, .int (1 : Int32)), (2, .int x321), (0, .ref h0)]) hx hb dX12_fact_39 rfl hl (by decide) rfl (fun ls hl => ?_)
            refine lv_goto (tgt := 72) hx hb dX12_fact_40 (by decide) ?_
            exact J72 I471 H locs ls (1 : Int32) hM hS hR (by rw [zl_1]; decide) hG485 hOk477 hQ478 (by have q9 := hNx486; omega) (Or.inr (by have q9 := hNx486; omega)) (lv_sub hl [1, 0, 2] rfl)
          · have b468 := zi_eq b468 (rfl : x452.toInt = x452.toInt) (zl_0 : (0 : Int32).toInt = 0)
            have hG487 : zGo X h0 true 0 I I453 := zGo.wk (zGo.tr hG340 (p457.resolve_left (by omega))) (by decide)
            refine lv_iconst (v := 0) hx hb dX12_fact_32 (by decide +kernel) ?_
            subst hQ
            exact zq_zret E hr hZ hM hS (show 0 ≤ (0 : Int32).toInt ∧ (0 : Int32).toInt ≤ 1 by decide +kernel) ⟨hR, (hG487), (hOk460), (Or.inl (by decide +kernel)), (by have := zl_0; omega)⟩ hlocks dX12_fact_33
  exact J2 (2 * (401 - (I h0 8).toInt) + (1 : Int32).toInt).toNat I H locs ls (1 : Int32) (by omega) hM hS hR (by rw [zl_1]; decide) hG0 hOk0 hQ0 (lv_sub hl [0, 1] rfl)
def zw_X12_closes : List (Nat × Nat) := [(10, 8), (10, 13), (10, 16), (51, 999), (52, 999)]
set_option maxHeartbeats 8000000 in
set_option maxRecDepth 100000 in
theorem c_X12_closes (l : Launch) (X : zq_X) (zk zn : Nat) (I : zq_M) (L : zq_L X)  (h0 : Nat) (k_h0 : zq_k X h0 = 10) (q_0 : zk ≤ 4400 ∧ zn ≤ 4400) (q_1 : (I h0 8).toInt ≤ (I h0 1).toInt) (q_2 : (I h0 11).toInt ≤ 5) (q_3 : zMu X h0 true I ≤ (I h0 8).toInt) (q_4 : zOk X I h0) : Met l yX12_closes (zt_w yX12_closes cX12_closes 1 none) (zq_rm (2)) (va_Pc [.ref h0] (zq_W X (zk, zn) I)) (va_Qv (fun I2 => zq_fr (zf X zw_X12_closes (fun _ => False)) I I2 ∧ (zGo X h0 true 0 I I2) ∧ (zE X h0 I I2)) (zq_E X (zk, zn)) (zq_A X)) 0 0 (zq_A X) := by
  refine Met.ofW (cc := cX12_closes) (maxL := 1) (ret := none) (by decide) rfl ?_
  intro p e s m args below meth c s₁ B hml hv
  obtain ⟨hargs, hM, hZ⟩ := hv
  have hown : s.vm.findClass RX12 = some m.cls := findClass_of_methodNamed B.named
  have hts := atoms_spec (ws := zt_w yX12_closes cX12_closes 1 none) B.pre
  have E : CallFix p m c cX12_closes 1 s args (Cond.code yX12_closes cX12_closes 1 none :: zt) RX12 := ⟨B.exec, B.bytes, hml, hown, hts⟩
  have hx := B.exec
  have hb := B.bytes
  have hr := B.returns
  have hlocks := B.notSynchronized
  clear B
  have hS : va_S (zq_A X) s.heap s.heap [] := va_S.rf
  have hR : zq_fr (zf X zw_X12_closes (fun _ => False)) I I := zq_fr.rf
  have hl := lv_entry ([.ref h0]) (n := 1) (by exact Nat.le_of_ble_eq_true rfl)
  have hg : entryFrame m args 1 = F0 m 0 ((lg_sl ([.ref h0]) ++ List.replicate (1 - (lg_sl ([.ref h0])).length) Slot.unset).toArray) [] := by rw [hargs]; exact lg_entry_eq m ([.ref h0]) 1
  rw [hg]
  clear hg hargs
  generalize (lg_sl ([.ref h0]) ++ List.replicate (1 - (lg_sl ([.ref h0])).length) Slot.unset).toArray = ls at hl ⊢
  have hl : lv_has ls 1 [(0, .ref h0)] := by exact hl
  obtain ⟨R, hRm⟩ : ∃ R : Room, R = (headSpec (zt_w yX12_closes cX12_closes 1 none) (zq_rm (2))).room := ⟨_, rfl⟩
  rw [← hRm]
  have hro : ∀ d q : Nat, d + 1 ≤ 2 → q ≤ 45 → zq_rok d q R := fun d q h1 h2 => by rw [hRm]; exact zq_rokI h1 h2
  generalize hQ : MQ below _ args s 0 0 (zq_A X) = Q
  obtain ⟨H, hH⟩ : ∃ H, H = s.heap := ⟨_, rfl⟩
  obtain ⟨locs, hlo⟩ : ∃ x : List Loc, x = [] := ⟨_, rfl⟩
  rw [show W p l e R s m args below meth c s.heap [] 0 0 Q = W p l e R s m args below meth c H locs 0 0 Q by rw [hH, hlo]]
  have hM : zq_hm X (zk, zn) I H := by rw [hH]; exact hM
  have hS : va_S (zq_A X) s.heap H locs := by rw [hH, hlo]; exact hS
  clear hH hlo
  have hG0 : zGo X h0 true 0 I I := zGo.rf q_1
  have hEe0 : zE X h0 I I := zE.rf q_4
  refine lv_aload_n hx hb dX12_closes_0 rfl (lv_at hl 0 rfl) ?_
  refine lv_iconst (v := 3) hx hb dX12_closes_1 (by decide +kernel) ?_
  refine zq_callv (zq_rV (As := [.int (3 : Int32)]) (rest := []) E hZ hM k_h0 (c_X12_settles l X zk (zn) I L h0 k_h0 (3 : Int32) (by rw [zl_3]; decide) (by have := zl_3; omega) (hG0.2.2.2.1) (by rw [hG0.1]; exact q_2) (zGo.mu hG0 (by decide) q_3) (hEe0.1)) zmX12_190 zM_X12_settles (hro (1) 2 (by first | decide | omega) (by decide)) ⟨by decide, by decide⟩ rfl hl.1 rfl rfl (Nat.le_of_ble_eq_true rfl) dX12_closes_2) hS (fun I103 H locs h101 hM hS => ?_)
  obtain ⟨fr104, p105, p106, p107⟩ := h101
  have := zl_3
  have hR := zq_fr.call hR fr104 (zf_sub (by decide +kernel) (fun _ _ q => q.elim))
  have hG108 : zGo X h0 true 0 I I103 := (zGo.wk (zGo.tr hG0 p105) (by decide))
  have hEe109 : zE X h0 I I103 := zE.tr hEe0 hG0 p105 p106.1
  have J5 : ∀ (n174 : Nat) (I171 : zq_M) (H : Heap) (locs : List Loc) (ls : Array Slot), 401 - (I171 h0 8).toInt ≤ ((n174 : Nat) : Int) → (zq_hm X (zk, zn) I171 H) → (va_S (zq_A X) s.heap H locs) → (zq_fr (zf X zw_X12_closes (fun _ => False)) I I171) → (zGo X h0 true 0 I I171) → (zE X h0 I I171) → (lv_has ls 1 [(0, .ref h0)]) → W p l e R s m args below meth c H locs 0 0 Q (F0 m 5 ls []) := by
    intro n174
    induction n174 with
    | zero => intro I171 H locs ls mu175 hM hS hR F172 F173 hl; exfalso; have q9 : _ ≤ (400 : Int) := (zq_rng hM k_h0 8).2; omega
    | succ n174 ih5 =>
      intro I171 H locs ls mu175 hM hS hR F172 F173 hl
      have hNx0 : (I171 h0 8).toInt + 0 ≤ (I171 h0 8).toInt := by omega
      refine lv_aload_n hx hb dX12_closes_5 rfl (lv_at hl 0 rfl) ?_
      refine zq_calli (zq_rV (As := []) (rest := []) E hZ hM k_h0 (c_X12_see l X zk (zn) I171 L h0 k_h0 (by omega) (F172.2.2.2.1)) zmX12_87 zM_X12_see (hro (0) 1 (by first | decide | omega) (by decide)) ⟨by decide, by decide⟩ rfl hl.1 rfl rfl (Nat.le_of_ble_eq_true rfl) dX12_closes_6) hS (fun x177 I178 H locs h176 hM hS => ?_)
      obtain ⟨fr179, p180, p181, p182, p183⟩ := h176
      have hR := zq_fr.call hR fr179 (zf_sub (by decide +kernel) (fun _ _ q => q.elim))
      have hG184 : zGo X h0 true 0 I I178 := (zGo.wk (zGo.tr F172 (p180 true)) (by decide))
      have hEe185 : zE X h0 I I178 := zE.st F173 (zfr_s L k_h0 fr179 rfl (by decide) rfl) (zLn.eq (zfr_o k_h0 fr179 rfl) (zfr_s L k_h0 fr179 rfl (by decide) rfl)) (zfr_o k_h0 fr179 rfl) (zfr_s L k_h0 fr179 rfl (by decide) rfl)
      have hNx186 : (I171 h0 8).toInt + 0 ≤ (I178 h0 8).toInt := Int.le_trans hNx0 (p180 true).2.2.1
      refine lv_bipush (v := 93) hx hb dX12_closes_9 (by decide +kernel) ?_
      refine lv_icmp_ne (tgt := 64) hx hb dX12_closes_11 (by decide) (fun b187 => ?_) (fun b187 => ?_)
      · have b187 := zi_ne b187 (rfl : x177.toInt = x177.toInt) (zl_93 : (93 : Int32).toInt = 93)
        subst hQ
        exact zq_vret E hr hZ hM hS ⟨hR, (hG184), (hEe185)⟩ hlocks dX12_closes_64
      · have b187 := zi_eq b187 (rfl : x177.toInt = x177.toInt) (zl_93 : (93 : Int32).toInt = 93)
        refine lv_aload_n hx hb dX12_closes_14 rfl (lv_at hl 0 rfl) ?_
        refine zq_pcalli (zq_rV (As := []) (rest := []) E hZ hM k_h0 (c_X12_isInside l X zk (zn) I178 L h0 k_h0 (by omega)) zmX12_193 zM_X12_isInside (hro (0) 2 (by first | decide | omega) (by decide)) ⟨by decide, by decide⟩ rfl hl.1 rfl rfl (Nat.le_of_ble_eq_true rfl) dX12_closes_15) hS (fun x189 H locs h188 hM hS => ?_)
        obtain ⟨p190, p191, p192⟩ := h188
        refine lv_if_eq (tgt := 64) hx hb dX12_closes_18 (by decide) (fun b193 => ?_) (fun b193 => ?_)
        · have b193 := zi_eq b193 (rfl : x189.toInt = x189.toInt) (zl_0 : (0 : Int32).toInt = 0)
          subst hQ
          exact zq_vret E hr hZ hM hS ⟨hR, (hG184), (hEe185)⟩ hlocks dX12_closes_64
        · have b193 := zi_ne b193 (rfl : x189.toInt = x189.toInt) (zl_0 : (0 : Int32).toInt = 0)
          refine lv_aload_n hx hb dX12_closes_21 rfl (lv_at hl 0 rfl) ?_
          refine lv_iconst (v := 1) hx hb dX12_closes_22 (by decide +kernel) ?_
          refine zq_callv (zq_rV (As := [.int (1 : Int32)]) (rest := []) E hZ hM k_h0 (c_X12_settles l X zk (zn) I178 L h0 k_h0 (1 : Int32) (by rw [zl_1]; decide) (by have := zl_1; omega) (hG184.2.2.2.1) (by rw [hG184.1]; exact q_2) (zGo.mu hG184 (by decide) q_3) (hEe185.1)) zmX12_190 zM_X12_settles (hro (1) 2 (by first | decide | omega) (by decide)) ⟨by decide, by decide⟩ rfl hl.1 rfl rfl (Nat.le_of_ble_eq_true rfl) dX12_closes_23) hS (fun I196 H locs h194 hM hS => ?_)
          obtain ⟨fr197, p198, p199, p200⟩ := h194
          have := zl_1
          have hR := zq_fr.call hR fr197 (zf_sub (by decide +kernel) (fun _ _ q => q.elim))
          have hG201 : zGo X h0 true 0 I I196 := (zGo.wk (zGo.tr hG184 p198) (by decide))
          have hEe202 : zE X h0 I I196 := zE.tr hEe185 hG184 p198 p199.1
          have hNx203 : (I171 h0 8).toInt + 0 ≤ (I196 h0 8).toInt := Int.le_trans hNx186 (p198).2.2.1
          have hE204 : x177.toInt = -1 ∨ zAt X I196 h0 := p182.imp id (fun q9 => zAt.sm q9 (fun _ => ⟨zfr_o k_h0 fr197 rfl, zfr_o k_h0 fr197 rfl, zfr_s L k_h0 fr197 rfl (by decide) rfl⟩))
          have h26 : 1 ≤ (I196 h0 16).toInt := zSe.ins p199 (p190.resolve_left (by omega))
          have hN16206 : 1 ≤ (I196 h0 16).toInt ∧ (I196 h0 16).toInt ≤ 400 := ⟨h26, (zq_rng hM k_h0 16).2⟩
          refine lv_aload_n hx hb dX12_closes_26 rfl (lv_at hl 0 rfl) ?_
          refine lv_dup hx hb dX12_closes_27 rfl ?_
          refine zq_gn E hM k_h0 (zFX12_151 E hZ) (Or.inl ⟨by decide, by decide, by decide, rfl⟩) dX12_closes_28 (fun x207 ex207 gx207 => ?_)
          replace gx207 : 0 ≤ x207.toInt ∧ x207.toInt ≤ 400 := gx207
          have fx207 : 1 ≤ x207.toInt ∧ x207.toInt ≤ 400 := by rw [← ex207]; exact hN16206
          have := congrArg Int32.toInt ex207
          refine lv_iconst (v := 1) hx hb dX12_closes_31 (by decide +kernel) ?_
          refine lv_isub hx hb dX12_closes_32 ?_
          refine lv_topi (fun x208 ex208 => ?_)
          have tx208 := zi_sub ex208 (rfl : x207.toInt = x207.toInt) (zl_1 : (1 : Int32).toInt = 1) ⟨by omega, by omega⟩
          refine zq_pn E hM hS k_h0 (zGX12_151 E hZ) ⟨by decide, by decide, by decide, rfl⟩ (show 0 ≤ x208.toInt ∧ x208.toInt ≤ 400 from ⟨by omega, by omega⟩) dX12_closes_33 (fun I209 H locs eI209 hM hS => ?_)
          have hR := zq_fr.putE hR eI209 (zf_i k_h0 rfl rfl)
          have hG210 : zGo X h0 true 1 I I209 := (zGo.wk (zGo.p16 hG201 L k_h0 eI209 1 (by rw [ex207]; omega)) (by decide))
          have hEe211 : zE X h0 I I209 := zE.br hEe202 L k_h0 eI209 ex207 (by have := zq_cl (i := x208) (by omega); have := zq_cl (i := x207) (by omega); omega) (p200 zl_1 _ (by rw [ex207]; have := zq_cl (i := x208) (by omega); omega))
          have hNx212 : (I171 h0 8).toInt + 0 ≤ (I209 h0 8).toInt := by rw [zpu_o (i := 8) k_h0 eI209 k_h0 (Or.inr (by decide))]; exact hNx203
          have hE213 : x177.toInt = -1 ∨ zAt X I209 h0 := hE204.imp id (fun q9 => zAt.sm q9 (fun _ => ⟨zpu_o k_h0 eI209 k_h0 (Or.inr (by decide)), zpu_o k_h0 eI209 k_h0 (Or.inr (by decide)), fun j => zq_kp eI209 (Or.inl (zq_kne (zq_lk L.1 k_h0 rfl (by decide) : zq_k X (zq_r X h0 0) = 50) k_h0 (by decide))) rfl⟩))
          refine W.eq (g2 := F0 m 36 ls []) rfl ?_
          refine lv_aload_n hx hb dX12_closes_36 rfl (lv_at hl 0 rfl) ?_
          refine lv_dup hx hb dX12_closes_37 rfl ?_
          refine zq_gn E hM k_h0 (zFX12_148 E hZ) (Or.inl ⟨by decide, by decide, by decide, rfl⟩) dX12_closes_38 (fun x215 ex215 gx215 => ?_)
          clear gx215
          refine lv_iconst (v := 1) hx hb dX12_closes_41 (by decide +kernel) ?_
          refine lv_isub hx hb dX12_closes_42 ?_
          refine lv_topi (fun x216 ex216 => ?_)
          refine zq_pn E hM hS k_h0 (zGX12_148 E hZ) ⟨by decide, by decide, by decide, rfl⟩ (zq_any _) dX12_closes_43 (fun I217 H locs eI217 hM hS => ?_)
          have hR := zq_fr.putE hR eI217 (zf_i k_h0 rfl rfl)
          have hG218 : zGo X h0 true 1 I I217 := (zGo.wk (zGo.pt hG210 L k_h0 eI217 k_h0 rfl) (by decide))
          have hEe219 : zE X h0 I I217 := zE.st hEe211 (zpu_s L k_h0 eI217 k_h0 (by decide)) (zLn.eq (zpu_o k_h0 eI217 k_h0 (Or.inr (by decide))) (zpu_l L k_h0 eI217 k_h0 (by decide))) (zpu_o k_h0 eI217 k_h0 (Or.inr (by decide))) (fun j => zq_kp eI217 (Or.inl (zq_kne (zq_lk L.1 k_h0 rfl (by decide) : zq_k X (zq_r X h0 15) = 56) k_h0 (by decide))) rfl)
          have hNx220 : (I171 h0 8).toInt + 0 ≤ (I217 h0 8).toInt := by rw [zpu_o (i := 8) k_h0 eI217 k_h0 (Or.inr (by decide))]; exact hNx212
          have hE221 : x177.toInt = -1 ∨ zAt X I217 h0 := hE213.imp id (fun q9 => zAt.sm q9 (fun _ => ⟨zpu_o k_h0 eI217 k_h0 (Or.inr (by decide)), zpu_o k_h0 eI217 k_h0 (Or.inr (by decide)), fun j => zq_kp eI217 (Or.inl (zq_kne (zq_lk L.1 k_h0 rfl (by decide) : zq_k X (zq_r X h0 0) = 50) k_h0 (by decide))) rfl⟩))
          have h46 : (I217 h0 8).toInt < (I217 h0 1).toInt := (hE221.resolve_left (by omega)).1
          have hN8223 : 0 ≤ (I217 h0 8).toInt ∧ (I217 h0 8).toInt ≤ 399 := ⟨(zq_rng hM k_h0 8).1, by have q : (I217 h0 1).toInt ≤ 400 := (zq_rng hM k_h0 1).2; omega⟩
          refine lv_aload_n hx hb dX12_closes_46 rfl (lv_at hl 0 rfl) ?_
          refine lv_dup hx hb dX12_closes_47 rfl ?_
          refine zq_gn E hM k_h0 (zFX12_84 E hZ) (Or.inl ⟨by decide, by decide, by decide, rfl⟩) dX12_closes_48 (fun x224 ex224 gx224 => ?_)
          replace gx224 : 0 ≤ x224.toInt ∧ x224.toInt ≤ 400 := gx224
          have fx224 : 0 ≤ x224.toInt ∧ x224.toInt ≤ 399 := by rw [← ex224]; exact hN8223
          have := congrArg Int32.toInt ex224
          refine lv_iconst (v := 1) hx hb dX12_closes_51 (by decide +kernel) ?_
          refine W.eq (g2 := F0 m 52 ls [.int (1 : Int32), .int x224, .ref h0]) rfl ?_
          refine lv_iadd hx hb dX12_closes_52 ?_
          refine lv_topi (fun x225 ex225 => ?_)
          have tx225 := zi_add ex225 (rfl : x224.toInt = x224.toInt) (zl_1 : (1 : Int32).toInt = 1) ⟨by omega, by omega⟩
          refine zq_pn E hM hS k_h0 (zGX12_84 E hZ) ⟨by decide, by decide, by decide, rfl⟩ (show 0 ≤ x225.toInt ∧ x225.toInt ≤ 400 from ⟨by omega, by omega⟩) dX12_closes_53 (fun I226 H locs eI226 hM hS => ?_)
          have hR := zq_fr.putE hR eI226 (zf_i k_h0 rfl rfl)
          have hG227 : zGo X h0 true 2 I I226 := (zGo.wk (zGo.p8 hG218 L k_h0 eI226 1 (by rw [ex224]; omega) (by decide) (by omega)) (by decide))
          have hEe228 : zE X h0 I I226 := zE.st hEe219 (zpu_s L k_h0 eI226 k_h0 (by decide)) (zLn.eq (zpu_o k_h0 eI226 k_h0 (Or.inr (by decide))) (zpu_l L k_h0 eI226 k_h0 (by decide))) (zpu_o k_h0 eI226 k_h0 (Or.inr (by decide))) (fun j => zq_kp eI226 (Or.inl (zq_kne (zq_lk L.1 k_h0 rfl (by decide) : zq_k X (zq_r X h0 15) = 56) k_h0 (by decide))) rfl)
          have hNx229 : (I171 h0 8).toInt + 1 ≤ (I226 h0 8).toInt := by have q9 := hNx220; rw [zq_kv eI226]; omega
          refine lv_aload_n hx hb dX12_closes_56 rfl (lv_at hl 0 rfl) ?_
          refine lv_iconst (v := 3) hx hb dX12_closes_57 (by decide +kernel) ?_
          refine zq_callv (zq_rV (As := [.int (3 : Int32)]) (rest := []) E hZ hM k_h0 (c_X12_settles l X zk (zn) I226 L h0 k_h0 (3 : Int32) (by rw [zl_3]; decide) (by have := zl_3; omega) (hG227.2.2.2.1) (by rw [hG227.1]; exact q_2) (zGo.mu hG227 (by decide) q_3) (hEe228.1)) zmX12_190 zM_X12_settles (hro (1) 2 (by first | decide | omega) (by decide)) ⟨by decide, by decide⟩ rfl hl.1 rfl rfl (Nat.le_of_ble_eq_true rfl) dX12_closes_58) hS (fun I234 H locs h232 hM hS => ?_)
          obtain ⟨fr235, p236, p237, p238⟩ := h232
          have := zl_3
          have hR := zq_fr.call hR fr235 (zf_sub (by decide +kernel) (fun _ _ q => q.elim))
          have hG239 : zGo X h0 true 2 I I234 := (zGo.wk (zGo.tr hG227 p236) (by decide))
          have hEe240 : zE X h0 I I234 := zE.tr hEe228 hG227 p236 p237.1
          have hNx241 : (I171 h0 8).toInt + 1 ≤ (I234 h0 8).toInt := Int.le_trans hNx229 (p236).2.2.1
          refine lv_goto (tgt := 5) hx hb dX12_closes_61 (by decide) ?_
          exact ih5 I234 H locs ls (by have q9 := hNx241; omega) hM hS hR (zGo.wk hG239 (by decide)) hEe240 (lv_sub hl [0] rfl)
  exact J5 (401 - (I103 h0 8).toInt).toNat I103 H locs ls (by omega) hM hS hR hG108 hEe109 (lv_sub hl [0] rfl)
def zw_X12_tested : List (Nat × Nat) := [(10, 8), (10, 9), (10, 10), (10, 12), (10, 13), (10, 16), (51, 999), (52, 999), (56, 999)]
set_option maxHeartbeats 8000000 in
set_option maxRecDepth 100000 in
theorem c_X12_tested (l : Launch) (X : zq_X) (zk zn : Nat) (I : zq_M) (L : zq_L X)  (h0 : Nat) (k_h0 : zq_k X h0 = 10) (q_0 : zk ≤ 4400 ∧ zn ≤ 4400) (q_1 : (I h0 8).toInt ≤ (I h0 1).toInt) (q_2 : (I h0 11).toInt ≤ 5) (q_3 : ((zLn X I h0 : Nat) : Int) ≤ (I h0 8).toInt) : Met l yX12_tested (zt_w yX12_tested cX12_tested 3 (some .boolean)) (zq_rm (8)) (va_Pc [.ref h0] (zq_W X (zk, zn) I)) (va_Qi (fun (r : Int32) I2 => zq_fr (zf X zw_X12_tested (fun _ => False)) I I2 ∧ (zGo X h0 false 0 I I2) ∧ (r.toInt = 0 ∨ zQ X h0 1 I I2) ∧ (0 ≤ r.toInt ∧ r.toInt ≤ 1)) (zq_E X (zk, zn)) (zq_A X)) 0 0 (zq_A X) := by
  refine Met.ofW (cc := cX12_tested) (maxL := 3) (ret := (some .boolean)) (by decide) rfl ?_
  intro p e s m args below meth c s₁ B hml hv
  obtain ⟨hargs, hM, hZ⟩ := hv
  have hown : s.vm.findClass RX12 = some m.cls := findClass_of_methodNamed B.named
  have hts := atoms_spec (ws := zt_w yX12_tested cX12_tested 3 (some .boolean)) B.pre
  have E : CallFix p m c cX12_tested 3 s args (Cond.code yX12_tested cX12_tested 3 (some .boolean) :: zt) RX12 := ⟨B.exec, B.bytes, hml, hown, hts⟩
  have hx := B.exec
  have hb := B.bytes
  have hr := B.returns
  have hlocks := B.notSynchronized
  clear B
  have hS : va_S (zq_A X) s.heap s.heap [] := va_S.rf
  have hR : zq_fr (zf X zw_X12_tested (fun _ => False)) I I := zq_fr.rf
  have hl := lv_entry ([.ref h0]) (n := 3) (by exact Nat.le_of_ble_eq_true rfl)
  have hg : entryFrame m args 3 = F0 m 0 ((lg_sl ([.ref h0]) ++ List.replicate (3 - (lg_sl ([.ref h0])).length) Slot.unset).toArray) [] := by rw [hargs]; exact lg_entry_eq m ([.ref h0]) 3
  rw [hg]
  clear hg hargs
  generalize (lg_sl ([.ref h0]) ++ List.replicate (3 - (lg_sl ([.ref h0])).length) Slot.unset).toArray = ls at hl ⊢
  have hl : lv_has ls 3 [(0, .ref h0)] := by exact hl
  obtain ⟨R, hRm⟩ : ∃ R : Room, R = (headSpec (zt_w yX12_tested cX12_tested 3 (some .boolean)) (zq_rm (8))).room := ⟨_, rfl⟩
  rw [← hRm]
  have hro : ∀ d q : Nat, d + 1 ≤ 8 → q ≤ 45 → zq_rok d q R := fun d q h1 h2 => by rw [hRm]; exact zq_rokI h1 h2
  generalize hQ : MQ below _ args s 0 0 (zq_A X) = Q
  obtain ⟨H, hH⟩ : ∃ H, H = s.heap := ⟨_, rfl⟩
  obtain ⟨locs, hlo⟩ : ∃ x : List Loc, x = [] := ⟨_, rfl⟩
  rw [show W p l e R s m args below meth c s.heap [] 0 0 Q = W p l e R s m args below meth c H locs 0 0 Q by rw [hH, hlo]]
  have hM : zq_hm X (zk, zn) I H := by rw [hH]; exact hM
  have hS : va_S (zq_A X) s.heap H locs := by rw [hH, hlo]; exact hS
  clear hH hlo
  refine lv_aload_n hx hb dX12_tested_0 rfl (lv_at hl 0 rfl) ?_
  refine lv_iconst (v := 0) hx hb dX12_tested_1 (by decide +kernel) ?_
  refine zq_pn E hM hS k_h0 (zGX12_151 E hZ) ⟨by decide, by decide, by decide, rfl⟩ (show 0 ≤ (0 : Int32).toInt ∧ (0 : Int32).toInt ≤ 400 by decide +kernel) dX12_tested_2 (fun I101 H locs eI101 hM hS => ?_)
  have hR := zq_fr.putE hR eI101 (zf_i k_h0 rfl rfl)
  refine lv_aload_n hx hb dX12_tested_5 rfl (lv_at hl 0 rfl) ?_
  refine lv_iconst (v := 0) hx hb dX12_tested_6 (by decide +kernel) ?_
  refine zq_pn E hM hS k_h0 (zGX12_148 E hZ) ⟨by decide, by decide, by decide, rfl⟩ (zq_any _) dX12_tested_7 (fun I102 H locs eI102 hM hS => ?_)
  have hR := zq_fr.putE hR eI102 (zf_i k_h0 rfl rfl)
  have eO : ∀ i, i ≠ 13 → i ≠ 16 → I102 h0 i = I h0 i := fun i h1 h2 => (zpu_o k_h0 eI102 k_h0 (Or.inr h1)).trans (zpu_o k_h0 eI101 k_h0 (Or.inr h2))
  have eL : ∀ j, I102 (zq_r X h0 4) j = I (zq_r X h0 4) j := fun j => (zpu_l L k_h0 eI102 k_h0 (by decide) j).trans (zpu_l L k_h0 eI101 k_h0 (by decide) j)
  have eS : ∀ j, I102 (zq_r X h0 3) j = I (zq_r X h0 3) j := fun j => (zpu_s L k_h0 eI102 k_h0 (by decide) j).trans (zpu_s L k_h0 eI101 k_h0 (by decide) j)
  have e16 : (I102 h0 16).toInt = 0 := by rw [(zpu_o (i := 16) k_h0 eI102 k_h0 (Or.inr (by decide))).trans (zq_kv eI101)]; decide +kernel
  have hG1 : zGo X h0 true 0 I102 I102 := zGo.rf (by rw [eO 8 (by decide) (by decide), eO 1 (by decide) (by decide)]; exact q_1)
  have h11 : (I102 h0 11).toInt ≤ 5 := by rw [eO 11 (by decide) (by decide)]; exact q_2
  have hmu1 : zMu X h0 true I102 ≤ (I102 h0 8).toInt := by unfold zMu; rw [zLn.eq (eO 11 (by decide) (by decide)) eL, eO 8 (by decide) (by decide)]; simp only [cond]; omega
  have z16 : (I102 h0 16).toNatClampNeg = 0 := by have := zq_cl (i := I102 h0 16) (by omega); omega
  have hQc1 : zQc X h0 0 I102 I102 := ⟨by unfold zC; rw [z16]; exact zQ.rf, fun k hk => by rw [z16] at hk; omega⟩
  refine lv_iconst (v := 1) hx hb dX12_tested_10 (by decide +kernel) ?_
  refine lv_istore_n (lv' := [(1, .int (1 : Int32)), (0, .ref h0)]) hx hb dX12_tested_11 rfl hl (by decide) rfl (fun ls hl => ?_)
  have J12 : ∀ (n354 : Nat) (I352 : zq_M) (H : Heap) (locs : List Loc) (ls : Array Slot) (j351 : Int32), 2 * (401 - (I352 h0 8).toInt) + j351.toInt ≤ ((n354 : Nat) : Int) → (zq_hm X (zk, zn) I352 H) → (va_S (zq_A X) s.heap H locs) → (zq_fr (zf X zw_X12_tested (fun _ => False)) I I352) → (0 ≤ j351.toInt ∧ j351.toInt ≤ 1) → (zGo X h0 true 0 I102 I352) → ((j351.toInt = 1 ∧ zQc X h0 0 I102 I352) ∨ (j351.toInt = 0 ∧ zQc X h0 1 I102 I352)) → (lv_has ls 3 [(1, .int j351), (0, .ref h0)]) → W p l e R s m args below meth c H locs 0 0 Q (F0 m 12 ls []) := by
    intro n354
    induction n354 with
    | zero => intro I352 H locs ls j351 mu355 hM hS hR gj351 F353 htz hl; exfalso; have q9 : _ ≤ (400 : Int) := (zq_rng hM k_h0 8).2; omega
    | succ n354 ih12 =>
      intro I352 H locs ls j351 mu355 hM hS hR gj351 F353 htz hl
      have hNx0 : (I352 h0 8).toInt + 0 ≤ (I352 h0 8).toInt := by omega
      refine lv_iload_n hx hb dX12_tested_12 rfl (lv_at hl 0 rfl) ?_
      refine lv_if_eq (tgt := 112) hx hb dX12_tested_13 (by decide) (fun b356 => ?_) (fun b356 => ?_)
      · have b356 := zi_eq b356 (rfl : j351.toInt = j351.toInt) (zl_0 : (0 : Int32).toInt = 0)
        have hQc112 : zQc X h0 1 I102 I352 := (htz.resolve_left (by omega)).2
        refine lv_aload_n hx hb dX12_tested_112 rfl (lv_at hl 1 rfl) ?_
        refine zq_pcalli (zq_rV (As := []) (rest := []) E hZ hM k_h0 (c_X12_isInside l X zk (zn) I352 L h0 k_h0 (by omega)) zmX12_193 zM_X12_isInside (hro (0) 2 (by first | decide | omega) (by decide)) ⟨by decide, by decide⟩ rfl hl.1 rfl rfl (Nat.le_of_ble_eq_true rfl) dX12_tested_113) hS (fun x358 H locs h357 hM hS => ?_)
        obtain ⟨p359, p360, p361⟩ := h357
        refine lv_if_eq (tgt := 134) hx hb dX12_tested_116 (by decide) (fun b362 => ?_) (fun b362 => ?_)
        · have b362 := zi_eq b362 (rfl : x358.toInt = x358.toInt) (zl_0 : (0 : Int32).toInt = 0)
          refine lv_aload_n hx hb dX12_tested_134 rfl (lv_at hl 1 rfl) ?_
          refine lv_iconst (v := 1) hx hb dX12_tested_135 (by decide +kernel) ?_
          refine zq_callv (zq_rV (As := [.int (1 : Int32)]) (rest := []) E hZ hM k_h0 (c_X12_settles l X zk (zn) I352 L h0 k_h0 (1 : Int32) (by rw [zl_1]; decide) (by have := zl_1; omega) (F353.2.2.2.1) (by rw [F353.1]; exact h11) (zGo.mu F353 (by decide) hmu1) (hQc112.2)) zmX12_190 zM_X12_settles (hro (1) 2 (by first | decide | omega) (by decide)) ⟨by decide, by decide⟩ rfl hl.1 rfl rfl (Nat.le_of_ble_eq_true rfl) dX12_tested_136) hS (fun I365 H locs h363 hM hS => ?_)
          obtain ⟨fr366, p367, p368, p369⟩ := h363
          have := zl_1
          have hR := zq_fr.call hR fr366 (zf_sub (by decide +kernel) (fun _ _ q => q.elim))
          have hG370 : zGo X h0 true 0 I102 I365 := (zGo.wk (zGo.tr F353 p367) (by decide))
          have hNx371 : (I352 h0 8).toInt + 0 ≤ (I365 h0 8).toInt := Int.le_trans hNx0 (p367).2.2.1
          have h60 : (I352 h0 12).toInt ≤ 60 := by have q9 := p367.2.2.2.2.2.2.1; have q8 : (I365 h0 12).toInt ≤ 60 := (zq_rng hM k_h0 12).2; omega
          have hQc372 : zQc X h0 1 I102 I365 := zQc.ze hQc112 F353 p367 p368.1 h60
          refine lv_iconst (v := 1) hx hb dX12_tested_139 (by decide +kernel) ?_
          subst hQ
          exact zq_zret E hr hZ hM hS (show 0 ≤ (1 : Int32).toInt ∧ (1 : Int32).toInt ≤ 1 by decide +kernel) ⟨hR, (zGo.out hG370 (fun i hi => eO i (by omega) (by omega)) eL eS e16 ((zq_rng hM k_h0 16).1)), (Or.inr (by
      have h16 : (I365 h0 16).toInt = 0 := by
        have hz0 : (0 : Int) ≤ (I365 h0 16).toInt := (zq_rng hM k_h0 16).1
        by_cases q : (I365 h0 16).toInt = 0
        · exact q
        · exfalso
          have t9 := p369 zl_1 ((I365 h0 16).toInt - 1).toNat (by omega)
          rw [p368.2.1] at t9
          have hle := p368.2.2.1
          exact p360.resolve_left (by omega) _ (by omega) t9
      have z9 : zC X I365 h0 = 0 := by unfold zC; rw [show (I365 h0 16).toNatClampNeg = 0 by have := zq_cl (i := I365 h0 16) (by omega); omega]; rfl
      have q9 := hQc372.1
      rw [z9] at q9
      exact zQ.base q9 (eO 11 (by decide) (by decide)).symm (eO 12 (by decide) (by decide)).symm (fun j => (eL j).symm))), (by have := zl_1; omega)⟩ hlocks dX12_tested_140
        · have b362 := zi_ne b362 (rfl : x358.toInt = x358.toInt) (zl_0 : (0 : Int32).toInt = 0)
          refine lv_aload_n hx hb dX12_tested_119 rfl (lv_at hl 1 rfl) ?_
          refine zq_calli (zq_rV (As := []) (rest := []) E hZ hM k_h0 (c_X12_see l X zk (zn) I352 L h0 k_h0 (by omega) (F353.2.2.2.1)) zmX12_87 zM_X12_see (hro (0) 1 (by first | decide | omega) (by decide)) ⟨by decide, by decide⟩ rfl hl.1 rfl rfl (Nat.le_of_ble_eq_true rfl) dX12_tested_120) hS (fun x374 I375 H locs h373 hM hS => ?_)
          obtain ⟨fr376, p377, p378, p379, p380⟩ := h373
          have hR := zq_fr.call hR fr376 (zf_sub (by decide +kernel) (fun _ _ q => q.elim))
          have hG381 : zGo X h0 true 0 I102 I375 := (zGo.wk (zGo.tr F353 (p377 true)) (by decide))
          have hNx382 : (I352 h0 8).toInt + 0 ≤ (I375 h0 8).toInt := Int.le_trans hNx0 (p377 true).2.2.1
          have hQc383 : zQc X h0 1 I102 I375 := zQc.st hQc112 (zfr_s L k_h0 fr376 rfl (by decide) rfl) (zLn.eq (zfr_o k_h0 fr376 rfl) (zfr_s L k_h0 fr376 rfl (by decide) rfl)) (by rw [zfr_o (i := 12) k_h0 fr376 rfl]; exact Int.le_refl _) (zfr_o k_h0 fr376 rfl) (zfr_s L k_h0 fr376 rfl (by decide) rfl)
          refine lv_pop hx hb dX12_tested_123 rfl ?_
          refine lv_aload_n hx hb dX12_tested_124 rfl (lv_at hl 1 rfl) ?_
          refine lv_iconst (v := 0) hx hb dX12_tested_125 (by decide +kernel) ?_
          refine lv_aload_n hx hb dX12_tested_126 rfl (lv_at hl 1 rfl) ?_
          refine zq_gn E hM k_h0 (zFX12_84 E hZ) (Or.inl ⟨by decide, by decide, by decide, rfl⟩) dX12_tested_127 (fun x384 ex384 gx384 => ?_)
          replace gx384 : 0 ≤ x384.toInt ∧ x384.toInt ≤ 400 := gx384
          have := congrArg Int32.toInt ex384
          refine zq_calli (zq_rV (As := [.int (0 : Int32), .int x384]) (rest := []) E hZ hM k_h0 (c_X12_fails l X zk (zn) I375 L h0 k_h0 (0 : Int32) x384 (by have := zl_0; omega)) zmX12_105 zM_X12_fails (hro (0) 3 (by first | decide | omega) (by decide)) ⟨by decide, by decide⟩ rfl hl.1 rfl rfl (Nat.le_of_ble_eq_true rfl) dX12_tested_130) hS (fun x386 I387 H locs h385 hM hS => ?_)
          obtain ⟨fr388, p389, p390⟩ := h385
          have := zl_0
          have hR := zq_fr.call hR fr388 (zf_sub (by decide +kernel) (fun _ _ q => q.elim))
          have hG391 : zGo X h0 true 0 I102 I387 := (zGo.wk (zGo.fr hG381 L k_h0 fr388 rfl rfl rfl) (by decide))
          have hNx392 : (I352 h0 8).toInt + 0 ≤ (I387 h0 8).toInt := by rw [zfr_o (i := 8) k_h0 fr388 rfl]; exact hNx382
          have hQc393 : zQc X h0 1 I102 I387 := zQc.st hQc383 (zfr_s L k_h0 fr388 rfl (by decide) rfl) (zLn.eq (zfr_o k_h0 fr388 rfl) (zfr_s L k_h0 fr388 rfl (by decide) rfl)) (by rw [zfr_o (i := 12) k_h0 fr388 rfl]; exact Int.le_refl _) (zfr_o k_h0 fr388 rfl) (zfr_s L k_h0 fr388 rfl (by decide) rfl)
          have hE394 : x374.toInt = -1 ∨ zAt X I387 h0 := p379.imp id (fun q9 => zAt.sm q9 (fun _ => ⟨zfr_o k_h0 fr388 rfl, zfr_o k_h0 fr388 rfl, zfr_s L k_h0 fr388 rfl (by decide) rfl⟩))
          subst hQ
          exact zq_zret E hr hZ hM hS (show 0 ≤ x386.toInt ∧ x386.toInt ≤ 1 from ⟨by omega, by omega⟩) ⟨hR, (zGo.out hG391 (fun i hi => eO i (by omega) (by omega)) eL eS e16 ((zq_rng hM k_h0 16).1)), (Or.inl (by omega)), (by omega)⟩ hlocks dX12_tested_133
      · have b356 := zi_ne b356 (rfl : j351.toInt = j351.toInt) (zl_0 : (0 : Int32).toInt = 0)
        have hQc16 : zQc X h0 0 I102 I352 := (htz.resolve_right (by omega)).2
        refine lv_aload_n hx hb dX12_tested_16 rfl (lv_at hl 1 rfl) ?_
        refine zq_calli (zq_rV (As := []) (rest := []) E hZ hM k_h0 (c_X12_fact l X zk (zn) I352 L h0 k_h0 (by omega) (F353.2.2.2.1) (by rw [F353.1]; exact h11) (zGo.mu F353 (by decide) hmu1) (hQc16.2)) zmX12_196 zM_X12_fact (hro (7) 3 (by first | decide | omega) (by decide)) ⟨by decide, by decide⟩ rfl hl.1 rfl rfl (Nat.le_of_ble_eq_true rfl) dX12_tested_17) hS (fun x397 I398 H locs h396 hM hS => ?_)
        obtain ⟨fr399, p400, p401, p402, p403⟩ := h396
        have hR := zq_fr.call hR fr399 (zf_sub (by decide +kernel) (fun _ _ q => q.elim))
        have hG404 : zGo X h0 true 0 I102 I398 := (zGo.wk (zGo.tr F353 p400) (by decide))
        have hNx405 : (I352 h0 8).toInt + 0 ≤ (I398 h0 8).toInt := Int.le_trans hNx0 (p400).2.2.1
        refine lv_if_ne (tgt := 25) hx hb dX12_tested_20 (by decide) (fun b407 => ?_) (fun b407 => ?_)
        · have b407 := zi_ne b407 (rfl : x397.toInt = x397.toInt) (zl_0 : (0 : Int32).toInt = 0)
          have hQc408 : zQc X h0 1 I102 I398 := zQc.fact hQc16 F353 p400 (p402.resolve_left (by omega)) p401.1 p401.2
          refine lv_aload_n hx hb dX12_tested_25 rfl (lv_at hl 1 rfl) ?_
          refine zq_callv (zq_rV (As := []) (rest := []) E hZ hM k_h0 (c_X12_closes l X zk (zn) I398 L h0 k_h0 (by omega) (hG404.2.2.2.1) (by rw [hG404.1]; exact h11) (zGo.mu hG404 (by decide) hmu1) (hQc408.2)) zmX12_199 zM_X12_closes (hro (2) 1 (by first | decide | omega) (by decide)) ⟨by decide, by decide⟩ rfl hl.1 rfl rfl (Nat.le_of_ble_eq_true rfl) dX12_tested_26) hS (fun I411 H locs h409 hM hS => ?_)
          obtain ⟨fr412, p413, p414⟩ := h409
          have hR := zq_fr.call hR fr412 (zf_sub (by decide +kernel) (fun _ _ q => q.elim))
          have hG415 : zGo X h0 true 0 I102 I411 := (zGo.wk (zGo.tr hG404 p413) (by decide))
          have hNx416 : (I352 h0 8).toInt + 0 ≤ (I411 h0 8).toInt := Int.le_trans hNx405 (p413).2.2.1
          have h60 : (I398 h0 12).toInt ≤ 60 := by have q9 := p413.2.2.2.2.2.2.1; have q8 : (I411 h0 12).toInt ≤ 60 := (zq_rng hM k_h0 12).2; omega
          have hQc417 : zQc X h0 1 I102 I411 := zQc.ze hQc408 hG404 p413 p414 h60
          refine lv_aload_n hx hb dX12_tested_29 rfl (lv_at hl 1 rfl) ?_
          refine W.ldc2 (v := 6385252) hx hb hown (hts _ (List.mem_cons_of_mem _ zCX12_202)) rfl dX12_tested_30 ?_
          refine W.eq (g2 := F0 m 33 ls [.long (6385252 : Int64), .ref h0]) rfl ?_
          refine zq_calli (zq_rV (As := [.long (6385252 : Int64)]) (rest := []) E hZ hM k_h0 (c_X12_isWord l X zk (zn) I411 L h0 k_h0 (6385252 : Int64) (by have : (6385252 : Int64).toInt = 6385252 := (by decide +kernel); omega) (hG415.2.2.2.1)) zmX12_95 zM_X12_isWord (hro (1) 6 (by first | decide | omega) (by decide)) ⟨by decide, by decide⟩ rfl hl.1 rfl rfl (Nat.le_of_ble_eq_true rfl) dX12_tested_33) hS (fun x419 I420 H locs h418 hM hS => ?_)
          obtain ⟨fr421, p422, p423, p424, p425⟩ := h418
          have : (6385252 : Int64).toInt = 6385252 := by decide +kernel
          have hR := zq_fr.call hR fr421 (zf_sub (by decide +kernel) (fun _ _ q => q.elim))
          have hG426 : zGo X h0 true 0 I102 I420 := (zGo.wk (zGo.tr hG415 (p422 true)) (by decide))
          have hNx427 : (I352 h0 8).toInt + 0 ≤ (I420 h0 8).toInt := Int.le_trans hNx416 (p422 true).2.2.1
          have hQc428 : zQc X h0 1 I102 I420 := zQc.st hQc417 (zfr_s L k_h0 fr421 rfl (by decide) rfl) (zLn.eq (zfr_o k_h0 fr421 rfl) (zfr_s L k_h0 fr421 rfl (by decide) rfl)) (by rw [zfr_o (i := 12) k_h0 fr421 rfl]; exact Int.le_refl _) (zfr_o k_h0 fr421 rfl) (zfr_s L k_h0 fr421 rfl (by decide) rfl)
          have J54 : ∀ (I450 : zq_M) (H : Heap) (locs : List Loc) (ls : Array Slot) (j449 : Int32), (zq_hm X (zk, zn) I450 H) → (va_S (zq_A X) s.heap H locs) → (zq_fr (zf X zw_X12_tested (fun _ => False)) I I450) → (0 ≤ j449.toInt ∧ j449.toInt ≤ 1) → (zGo X h0 true 0 I102 I450) → ((I352 h0 8).toInt + 0 ≤ (I450 h0 8).toInt) → (zQc X h0 1 I102 I450) → (j449.toInt = 0 ∨ zLt X I450 h0) → (lv_has ls 3 [(1, .int j351), (0, .ref h0)]) → W p l e R s m args below meth c H locs 0 0 Q (F0 m 54 ls [.int j449]) := by
            intro I450 H locs ls j449 hM hS hR gj449 F451 F452 F453 h54 hl
            refine lv_istore_n (lv' := [(1, .int j449), (0, .ref h0)]) hx hb dX12_tested_54 rfl hl (by decide) rfl (fun ls hl => ?_)
            refine lv_iload_n hx hb dX12_tested_55 rfl (lv_at hl 0 rfl) ?_
            refine lv_if_eq (tgt := 12) hx hb dX12_tested_56 (by decide) (fun b512 => ?_) (fun b512 => ?_)
            · have b512 := zi_eq b512 (rfl : j449.toInt = j449.toInt) (zl_0 : (0 : Int32).toInt = 0)
              exact ih12 I450 H locs ls j449 (by have q9 := F452; omega) hM hS hR (⟨by omega, by omega⟩) F451 (Or.inr ⟨(by omega), F453⟩) (lv_sub hl [0, 1] rfl)
            · have b512 := zi_ne b512 (rfl : j449.toInt = j449.toInt) (zl_0 : (0 : Int32).toInt = 0)
              have hLt59 : zLt X I450 h0 := h54.resolve_left (by omega)
              refine lv_aload_n hx hb dX12_tested_59 rfl (lv_at hl 1 rfl) ?_
              refine W.ldc2 (v := 6385252) hx hb hown (hts _ (List.mem_cons_of_mem _ zCX12_202)) rfl dX12_tested_60 ?_
              refine W.eq (g2 := F0 m 63 ls [.long (6385252 : Int64), .ref h0]) rfl ?_
              refine zq_calli (zq_rV (As := [.long (6385252 : Int64)]) (rest := []) E hZ hM k_h0 (c_X12_isWord l X zk (zn) I450 L h0 k_h0 (6385252 : Int64) (by have : (6385252 : Int64).toInt = 6385252 := (by decide +kernel); omega) (F451.2.2.2.1)) zmX12_95 zM_X12_isWord (hro (1) 6 (by first | decide | omega) (by decide)) ⟨by decide, by decide⟩ rfl hl.1 rfl rfl (Nat.le_of_ble_eq_true rfl) dX12_tested_63) hS (fun x514 I515 H locs h513 hM hS => ?_)
              obtain ⟨fr516, p517, p518, p519, p520⟩ := h513
              have : (6385252 : Int64).toInt = 6385252 := by decide +kernel
              have hR := zq_fr.call hR fr516 (zf_sub (by decide +kernel) (fun _ _ q => q.elim))
              have hG521 : zGo X h0 true 0 I102 I515 := (zGo.wk (zGo.tr F451 (p517 true)) (by decide))
              have hNx522 : (I352 h0 8).toInt + 0 ≤ (I515 h0 8).toInt := Int.le_trans F452 (p517 true).2.2.1
              have hQc523 : zQc X h0 1 I102 I515 := zQc.st F453 (zfr_s L k_h0 fr516 rfl (by decide) rfl) (zLn.eq (zfr_o k_h0 fr516 rfl) (zfr_s L k_h0 fr516 rfl (by decide) rfl)) (by rw [zfr_o (i := 12) k_h0 fr516 rfl]; exact Int.le_refl _) (zfr_o k_h0 fr516 rfl) (zfr_s L k_h0 fr516 rfl (by decide) rfl)
              have hH524 : zLt X I515 h0 := zLt.sm hLt59 p518
              have J76 : ∀ (ls : Array Slot) (j526 : Int32), (12 ≤ j526.toInt ∧ j526.toInt ≤ 13) → (zLt X I515 h0) → (lv_has ls 3 [(1, .int j449), (0, .ref h0)]) → W p l e R s m args below meth c H locs 0 0 Q (F0 m 76 ls [.int j526]) := by
                intro ls j526 gj526 F527 hl
                refine lv_istore_n (lv' := [(2, .int j526), (1, .int j449), (0, .ref h0)]) hx hb dX12_tested_76 rfl hl (by decide) rfl (fun ls hl => ?_)
                refine lv_aload_n hx hb dX12_tested_77 rfl (lv_at hl 2 rfl) ?_
                refine zq_callv (zq_rV (As := []) (rest := []) E hZ hM k_h0 (c_X12_passWord l X zk (zn) I515 L h0 k_h0 (by omega) (hG521.2.2.2.1)) zmX12_99 zM_X12_passWord (hro (1) 1 (by first | decide | omega) (by decide)) ⟨by decide, by decide⟩ rfl hl.1 rfl rfl (Nat.le_of_ble_eq_true rfl) dX12_tested_78) hS (fun I573 H locs h571 hM hS => ?_)
                obtain ⟨fr574, p575, p576, p577⟩ := h571
                have hR := zq_fr.call hR fr574 (zf_sub (by decide +kernel) (fun _ _ q => q.elim))
                have hG578 : zGo X h0 true 0 I102 I573 := (zGo.wk (zGo.tr hG521 (p575 true)) (by decide))
                have hNx579 : (I352 h0 8).toInt + 0 ≤ (I573 h0 8).toInt := Int.le_trans hNx522 (p575 true).2.2.1
                have hQc580 : zQc X h0 1 I102 I573 := zQc.st hQc523 (zfr_s L k_h0 fr574 rfl (by decide) rfl) (zLn.eq (zfr_o k_h0 fr574 rfl) (zfr_s L k_h0 fr574 rfl (by decide) rfl)) (by rw [zfr_o (i := 12) k_h0 fr574 rfl]; exact Int.le_refl _) (zfr_o k_h0 fr574 rfl) (zfr_s L k_h0 fr574 rfl (by decide) rfl)
                have hG584 : zGo X h0 true 1 I102 I573 := (zGo.wk (zGo.tr hG521 (p576 F527 true)) (by decide))
                have hNx585 : (I352 h0 8).toInt + 1 ≤ (I573 h0 8).toInt := by have q9 := hNx522; have q8 := p577 F527; omega
                refine lv_aload_n hx hb dX12_tested_81 rfl (lv_at hl 2 rfl) ?_
                refine lv_iload_n hx hb dX12_tested_82 rfl (lv_at hl 0 rfl) ?_
                refine zq_pcalli (zq_rS (As := [.int j526]) (rest := [.ref h0]) E hZ hM (c_X12_strength l X zk (zn) I573 L j526) zmX12_154 zM_X12_strength (hro (0) 1 (by first | decide | omega) (by decide)) hl.1 rfl rfl (Nat.le_of_ble_eq_true rfl) dX12_tested_83) hS (fun x587 H locs h586 hM hS => ?_)
                obtain ⟨p588, p589, p590⟩ := h586
                refine zq_callv (zq_rV (As := [.int x587]) (rest := []) E hZ hM k_h0 (c_X12_settles l X zk (zn) I573 L h0 k_h0 x587 ⟨by omega, by omega⟩ (by omega) (hG584.2.2.2.1) (by rw [hG584.1]; exact h11) (zGo.mu hG584 (by decide) hmu1) (hQc580.2)) zmX12_190 zM_X12_settles (hro (1) 2 (by first | decide | omega) (by decide)) ⟨by decide, by decide⟩ rfl hl.1 rfl rfl (Nat.le_of_ble_eq_true rfl) dX12_tested_86) hS (fun I593 H locs h591 hM hS => ?_)
                obtain ⟨fr594, p595, p596, p597⟩ := h591
                have hR := zq_fr.call hR fr594 (zf_sub (by decide +kernel) (fun _ _ q => q.elim))
                have hG598 : zGo X h0 true 1 I102 I593 := (zGo.wk (zGo.tr hG584 p595) (by decide))
                have hNx599 : (I352 h0 8).toInt + 1 ≤ (I593 h0 8).toInt := Int.le_trans hNx585 (p595).2.2.1
                have h60 : (I573 h0 12).toInt ≤ 60 := by have q9 := p595.2.2.2.2.2.2.1; have q8 : (I593 h0 12).toInt ≤ 60 := (zq_rng hM k_h0 12).2; omega
                have hQc600 : zQc X h0 1 I102 I593 := zQc.ze hQc580 hG584 p595 p596.1 h60
                have q7 : (I593 h0 1).toInt ≤ 400 := (zq_rng hM k_h0 1).2
                have q8 := zGo.op hG598 hmu1
                have q9 := hG598.2.2.2.1
                have hN16601 : 0 ≤ (I593 h0 16).toInt ∧ (I593 h0 16).toInt ≤ 399 := ⟨(zq_rng hM k_h0 16).1, by omega⟩
                refine lv_aload_n hx hb dX12_tested_89 rfl (lv_at hl 2 rfl) ?_
                refine zq_getr E hM k_h0 (zFX12_29 E hZ) ⟨by decide, by decide, by decide, rfl⟩ dX12_tested_90 ?_
                have k602 : zq_k X (zq_r X h0 15) = 56 := zq_lk L.1 k_h0 rfl (by decide)
                refine W.eq (g2 := F0 m 93 ls [.ref (zq_r X h0 15)]) rfl ?_
                refine lv_aload_n hx hb dX12_tested_93 rfl (lv_at hl 2 rfl) ?_
                refine zq_gn E hM k_h0 (zFX12_151 E hZ) (Or.inl ⟨by decide, by decide, by decide, rfl⟩) dX12_tested_94 (fun x603 ex603 gx603 => ?_)
                replace gx603 : 0 ≤ x603.toInt ∧ x603.toInt ≤ 400 := gx603
                have fx603 : 0 ≤ x603.toInt ∧ x603.toInt ≤ 399 := by rw [← ex603]; exact hN16601
                have := congrArg Int32.toInt ex603
                refine lv_iload_n hx hb dX12_tested_97 rfl (lv_at hl 0 rfl) ?_
                refine zq_isn (n := 400) (j := (x603.toNatClampNeg)) E hZ hM hS k602 ⟨by decide, rfl⟩ ⟨by omega, by omega⟩ rfl (zq_any _) dX12_tested_98 (fun I604 H locs eI604 hM hS => ?_)
                have hR := zq_fr.putE hR eI604 (zf_ia k602 (by decide) rfl)
                have hG605 : zGo X h0 true 1 I102 I604 := (zGo.wk (zGo.pt hG598 L k_h0 eI604 k602 rfl) (by decide))
                have hNx606 : (I352 h0 8).toInt + 1 ≤ (I604 h0 8).toInt := by rw [zpu_o (i := 8) k_h0 eI604 k602 (Or.inl (by decide))]; exact hNx599
                have hK608 : 0 ≤ (I604 h0 16).toInt ∧ (I604 h0 16).toInt ≤ 399 := by rw [show I604 h0 16 = _ from (zq_kp eI604 (Or.inl (zq_kne k_h0 k602 (by decide))) rfl)]; exact hN16601
                refine lv_aload_n hx hb dX12_tested_99 rfl (lv_at hl 2 rfl) ?_
                refine lv_dup hx hb dX12_tested_100 rfl ?_
                refine zq_gk (v := x603) E hM k_h0 (zFX12_151 E hZ) (Or.inl ⟨by decide, by decide, by decide, rfl⟩) (zq_kp eI604 (Or.inl (zq_kne k_h0 k602 (by decide))) ex603) dX12_tested_101 ?_
                refine lv_iconst (v := 1) hx hb dX12_tested_104 (by decide +kernel) ?_
                refine lv_iadd hx hb dX12_tested_105 ?_
                refine lv_topi (fun x609 ex609 => ?_)
                have tx609 := zi_add ex609 (rfl : x603.toInt = x603.toInt) (zl_1 : (1 : Int32).toInt = 1) ⟨by omega, by omega⟩
                refine zq_pn E hM hS k_h0 (zGX12_151 E hZ) ⟨by decide, by decide, by decide, rfl⟩ (show 0 ≤ x609.toInt ∧ x609.toInt ≤ 400 from ⟨by omega, by omega⟩) dX12_tested_106 (fun I610 H locs eI610 hM hS => ?_)
                have hR := zq_fr.putE hR eI610 (zf_i k_h0 rfl rfl)
                have hG611 : zGo X h0 true 0 I102 I610 := (zGo.wk (zGo.p16 hG605 L k_h0 eI610 (-1) (by rw [(zq_kp eI604 (Or.inl (zq_kne k_h0 k602 (by decide))) ex603)]; omega)) (by decide))
                have hNx612 : (I352 h0 8).toInt + 1 ≤ (I610 h0 8).toInt := by rw [zpu_o (i := 8) k_h0 eI610 k_h0 (Or.inr (by decide))]; exact hNx606
                refine W.eq (g2 := F0 m 109 ls []) rfl ?_
                have hQc613 : zQc X h0 0 I102 I610 := zQc.op hQc600 L k_h0 ex603 eI604 eI610 (by have := zq_cl (i := x609) (by omega); have := zq_cl (i := x603) (by omega); omega) (by omega)
                refine lv_goto (tgt := 12) hx hb dX12_tested_109 (by decide) ?_
                exact ih12 I610 H locs ls j449 (by have q9 := hNx612; omega) hM hS hR (⟨by omega, by omega⟩) hG611 (Or.inl ⟨(by omega), hQc613⟩) (lv_sub hl [1, 2] rfl)
              refine lv_if_eq (tgt := 74) hx hb dX12_tested_66 (by decide) (fun b614 => ?_) (fun b614 => ?_)
              · have b614 := zi_eq b614 (rfl : x514.toInt = x514.toInt) (zl_0 : (0 : Int32).toInt = 0)
                refine lv_bipush (v := 13) hx hb dX12_tested_74 (by decide +kernel) ?_
                exact J76 ls (13 : Int32) (by rw [zl_13]; decide) hH524 (lv_sub hl [0, 1] rfl)
              · have b614 := zi_ne b614 (rfl : x514.toInt = x514.toInt) (zl_0 : (0 : Int32).toInt = 0)
                have hLt615 : zLt X I515 h0 := p519.resolve_left (by omega)
                refine lv_bipush (v := 12) hx hb dX12_tested_69 (by decide +kernel) ?_
                refine lv_goto (tgt := 76) hx hb dX12_tested_71 (by decide) ?_
                exact J76 ls (12 : Int32) (by rw [zl_12]; decide) hLt615 (lv_sub hl [0, 1] rfl)
          have J49 : ∀ (I444 : zq_M) (H : Heap) (locs : List Loc) (ls : Array Slot), (zq_hm X (zk, zn) I444 H) → (va_S (zq_A X) s.heap H locs) → (zq_fr (zf X zw_X12_tested (fun _ => False)) I I444) → (zGo X h0 true 0 I102 I444) → ((I352 h0 8).toInt + 0 ≤ (I444 h0 8).toInt) → (zQc X h0 1 I102 I444) → (zLt X I444 h0) → (lv_has ls 3 [(1, .int j351), (0, .ref h0)]) → W p l e R s m args below meth c H locs 0 0 Q (F0 m 49 ls []) := by
            intro I444 H locs ls hM hS hR F445 F446 F447 F448 hl
            refine lv_iconst (v := 1) hx hb dX12_tested_49 (by decide +kernel) ?_
            refine lv_goto (tgt := 54) hx hb dX12_tested_50 (by decide) ?_
            exact J54 I444 H locs ls (1 : Int32) hM hS hR (by rw [zl_1]; decide) F445 F446 F447 (Or.inr F448) (lv_sub hl [0, 1] rfl)
          refine lv_if_ne (tgt := 49) hx hb dX12_tested_36 (by decide) (fun b616 => ?_) (fun b616 => ?_)
          · have b616 := zi_ne b616 (rfl : x419.toInt = x419.toInt) (zl_0 : (0 : Int32).toInt = 0)
            have hLt617 : zLt X I420 h0 := p424.resolve_left (by omega)
            exact J49 I420 H locs ls hM hS hR hG426 hNx427 hQc428 hLt617 (lv_sub hl [0, 1] rfl)
          · have b616 := zi_eq b616 (rfl : x419.toInt = x419.toInt) (zl_0 : (0 : Int32).toInt = 0)
            refine lv_aload_n hx hb dX12_tested_39 rfl (lv_at hl 1 rfl) ?_
            refine W.ldc2 (v := 28530) hx hb hown (hts _ (List.mem_cons_of_mem _ zCX12_204)) rfl dX12_tested_40 ?_
            refine W.eq (g2 := F0 m 43 ls [.long (28530 : Int64), .ref h0]) rfl ?_
            refine zq_calli (zq_rV (As := [.long (28530 : Int64)]) (rest := []) E hZ hM k_h0 (c_X12_isWord l X zk (zn) I420 L h0 k_h0 (28530 : Int64) (by have : (28530 : Int64).toInt = 28530 := (by decide +kernel); omega) (hG426.2.2.2.1)) zmX12_95 zM_X12_isWord (hro (1) 6 (by first | decide | omega) (by decide)) ⟨by decide, by decide⟩ rfl hl.1 rfl rfl (Nat.le_of_ble_eq_true rfl) dX12_tested_43) hS (fun x619 I620 H locs h618 hM hS => ?_)
            obtain ⟨fr621, p622, p623, p624, p625⟩ := h618
            have : (28530 : Int64).toInt = 28530 := by decide +kernel
            have hR := zq_fr.call hR fr621 (zf_sub (by decide +kernel) (fun _ _ q => q.elim))
            have hG626 : zGo X h0 true 0 I102 I620 := (zGo.wk (zGo.tr hG426 (p622 true)) (by decide))
            have hNx627 : (I352 h0 8).toInt + 0 ≤ (I620 h0 8).toInt := Int.le_trans hNx427 (p622 true).2.2.1
            have hQc628 : zQc X h0 1 I102 I620 := zQc.st hQc428 (zfr_s L k_h0 fr621 rfl (by decide) rfl) (zLn.eq (zfr_o k_h0 fr621 rfl) (zfr_s L k_h0 fr621 rfl (by decide) rfl)) (by rw [zfr_o (i := 12) k_h0 fr621 rfl]; exact Int.le_refl _) (zfr_o k_h0 fr621 rfl) (zfr_s L k_h0 fr621 rfl (by decide) rfl)
            have hW629 : x419.toInt = 0 ∨ zLt X I620 h0 := p424.imp id (fun q9 => zLt.sm q9 p623)
            refine lv_if_eq (tgt := 53) hx hb dX12_tested_46 (by decide) (fun b631 => ?_) (fun b631 => ?_)
            · have b631 := zi_eq b631 (rfl : x619.toInt = x619.toInt) (zl_0 : (0 : Int32).toInt = 0)
              refine lv_iconst (v := 0) hx hb dX12_tested_53 (by decide +kernel) ?_
              exact J54 I620 H locs ls (0 : Int32) hM hS hR (by rw [zl_0]; decide) hG626 hNx627 hQc628 (Or.inl zl_0) (lv_sub hl [0, 1] rfl)
            · have b631 := zi_ne b631 (rfl : x619.toInt = x619.toInt) (zl_0 : (0 : Int32).toInt = 0)
              have hLt632 : zLt X I620 h0 := p624.resolve_left (by omega)
              exact J49 I620 H locs ls hM hS hR hG626 hNx627 hQc628 hLt632 (lv_sub hl [0, 1] rfl)
        · have b407 := zi_eq b407 (rfl : x397.toInt = x397.toInt) (zl_0 : (0 : Int32).toInt = 0)
          refine lv_iconst (v := 0) hx hb dX12_tested_23 (by decide +kernel) ?_
          subst hQ
          exact zq_zret E hr hZ hM hS (show 0 ≤ (0 : Int32).toInt ∧ (0 : Int32).toInt ≤ 1 by decide +kernel) ⟨hR, (zGo.out hG404 (fun i hi => eO i (by omega) (by omega)) eL eS e16 ((zq_rng hM k_h0 16).1)), (Or.inl (by decide +kernel)), (by have := zl_0; omega)⟩ hlocks dX12_tested_24
  exact J12 (2 * (401 - (I102 h0 8).toInt) + (1 : Int32).toInt).toNat I102 H locs ls (1 : Int32) (by omega) hM hS hR (by rw [zl_1]; decide) hG1 (Or.inl ⟨(by have := zl_1; omega), hQc1⟩) (lv_sub hl [0, 1] rfl)
