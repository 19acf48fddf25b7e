/-! a TRADE that is being read: its towns' ice is none -/
def zS0 (X : zq_X) (I : zq_M) (w : Nat) : Prop := ∀ j, j < 4 → (I (zq_r X (zq_r X w 9) j) 4).toInt = 0
section ZS
variable {X : zq_X} {I I2 : zq_M} {b : Int} {w : Nat}
theorem zS0.put (h : zS0 X I w) (L : zq_L X) (hk : zq_k X w = 8) {a k j : Nat} {v : Int32} (e : I2 = zq_up I a j v) (ha : zq_k X a = k) (hn : k ≠ 7 ∨ j ≠ 4) : zS0 X I2 w := by
  intro i h1
  rw [e]
  rcases hn with hn | hn
  · rw [zq_up_a (zq_kne (zW.kt L hk h1) ha (Ne.symm hn))]; exact h i h1
  · rw [zq_up_j (Ne.symm hn)]; exact h i h1
theorem zS0.fr {Lw : List (Nat × Nat)} {P : Nat → Prop} (h : zS0 X I w) (L : zq_L X) (hk : zq_k X w = 8) (f : zq_fr (zf X Lw P) I I2) (hn : zf_in Lw 7 4 = false) : zS0 X I2 w := by
  intro i h1
  rw [f _ _ (zf_n (zW.kt L hk h1) hn)]
  exact h i h1
theorem zW.none (h : (I w 6).toInt = 0) : zW X I b w := fun j _ h2 => by
  rw [h] at h2
  exact absurd h2 (by omega)
theorem zW.addT (h : zW X I b w) {n n2 : Int32} (e : I w 6 = n) (e2 : I2 w 6 = n2) (h0 : 0 ≤ n.toInt ∧ n.toInt < 4) (hn : n2.toInt = n.toInt + 1) (L : zq_L X) (hk : zq_k X w = 8) (hO : ∀ a, zq_k X a = 7 → a ≠ zq_r X (zq_r X w 9) n.toNatClampNeg → ∀ i, I2 a i = I a i) (ht : zT I2 b (zq_r X (zq_r X w 9) n.toNatClampNeg)) : zW X I2 b w := by
  have hc := zq_cl h0.1
  intro j h1 h2
  rw [e2] at h2
  by_cases e3 : j = n.toNatClampNeg
  · rw [e3]; exact ht
  · refine (h j h1 (by rw [e]; omega)).eq fun i _ _ => hO _ (zW.kt L hk h1) (fun q => e3 (L.2.2.2.2.2.2.1 _ _ _ (zq_lk L.1 hk rfl (by decide)) h1 (by omega) q)) i
end ZS
def zw_X8_opens : List (Nat × Nat) := [(6, 9)]
set_option maxHeartbeats 8000000 in
set_option maxRecDepth 100000 in
theorem c_X8_opens (l : Launch) (X : zq_X) (zk zn : Nat) (I : zq_M) (L : zq_L X)  (p1 : Nat) (k_p1 : zq_k X p1 = 6) (p2 : Nat) (k_p2 : zq_k X p2 = 8) (p3 : Int32)  : Met l yX8_opens (zt_w yX8_opens cX8_opens 4 (some .boolean)) (zq_rm (1)) (va_Pc [.ref p1, .ref p2, .int p3] (zq_W X (zk, zn) I)) (va_Qi (fun (r : Int32) I2 => zq_fr (zf X zw_X8_opens (fun b => zq_o X b = zq_o X p2)) I I2 ∧ (0 ≤ r.toInt ∧ r.toInt ≤ 1)) (zq_E X (zk, zn)) (zq_A X)) 0 0 (zq_A X) := by
  refine Met.ofW (cc := cX8_opens) (maxL := 4) (ret := (some .boolean)) (by decide) rfl ?_
  intro p e s m args below meth c s₁ B hml hv
  obtain ⟨hargs, hM, hZ⟩ := hv
  have hown : s.vm.findClass RX8 = some m.cls := findClass_of_methodNamed B.named
  have hts := atoms_spec (ws := zt_w yX8_opens cX8_opens 4 (some .boolean)) B.pre
  have E : CallFix p m c cX8_opens 4 s args (Cond.code yX8_opens cX8_opens 4 (some .boolean) :: zt) RX8 := ⟨B.exec, B.bytes, hml, hown, hts⟩
  have hx := B.exec
  have hb := B.bytes
  have hr := B.returns
  have hlocks := B.notSynchronized
  clear B
  have hS : va_S (zq_A X) s.heap s.heap [] := va_S.rf
  have hR : zq_fr (zf X zw_X8_opens (fun b => zq_o X b = zq_o X p2)) I I := zq_fr.rf
  have hl := lv_entry ([.ref p1, .ref p2, .int p3]) (n := 4) (by exact Nat.le_of_ble_eq_true rfl)
  have hg : entryFrame m args 4 = F0 m 0 ((lg_sl ([.ref p1, .ref p2, .int p3]) ++ List.replicate (4 - (lg_sl ([.ref p1, .ref p2, .int p3])).length) Slot.unset).toArray) [] := by rw [hargs]; exact lg_entry_eq m ([.ref p1, .ref p2, .int p3]) 4
  rw [hg]
  clear hg hargs
  generalize (lg_sl ([.ref p1, .ref p2, .int p3]) ++ List.replicate (4 - (lg_sl ([.ref p1, .ref p2, .int p3])).length) Slot.unset).toArray = ls at hl ⊢
  have hl : lv_has ls 4 [(0, .ref p1), (1, .ref p2), (2, .int p3)] := by exact hl
  obtain ⟨R, hRm⟩ : ∃ R : Room, R = (headSpec (zt_w yX8_opens cX8_opens 4 (some .boolean)) (zq_rm (1))).room := ⟨_, rfl⟩
  rw [← hRm]
  have hro : ∀ d q : Nat, d + 1 ≤ 1 → q ≤ 45 → zq_rok d q R := fun d q h1 h2 => by rw [hRm]; exact zq_rokI h1 h2
  generalize hQ : MQ below _ args s 0 0 (zq_A X) = Q
  obtain ⟨H, hH⟩ : ∃ H, H = s.heap := ⟨_, rfl⟩
  obtain ⟨locs, hlo⟩ : ∃ x : List Loc, x = [] := ⟨_, rfl⟩
  rw [show W p l e R s m args below meth c s.heap [] 0 0 Q = W p l e R s m args below meth c H locs 0 0 Q by rw [hH, hlo]]
  have hM : zq_hm X (zk, zn) I H := by rw [hH]; exact hM
  have hS : va_S (zq_A X) s.heap H locs := by rw [hH, hlo]; exact hS
  clear hH hlo
  refine lv_aload_n hx hb dX8_opens_0 rfl (lv_at hl 0 rfl) ?_
  refine zq_callr (zq_rV (As := []) (rest := []) E hZ hM k_p1 (c_X6_word l X zk (zn) I L p1 k_p1) zmX8_38 zM_X6_word (hro (0) 1 (by first | decide | omega) (by decide)) ⟨by decide, by decide⟩ rfl hl.1 rfl rfl (Nat.le_of_ble_eq_true rfl) dX8_opens_1) hS (fun y102 I103 H locs h101 ky102 hM hS => ?_)
  obtain ⟨fr104, p105⟩ := h101
  rw [fr104] at hM
  refine lv_astore_n (lv' := [(3, .ref y102), (0, .ref p1), (1, .ref p2), (2, .int p3)]) hx hb dX8_opens_4 rfl hl (by decide) rfl (fun ls hl => ?_)
  refine lv_aload_n hx hb dX8_opens_5 rfl (lv_at hl 0 rfl) ?_
  refine zq_getw (nm := "TRADE") E hZ hM (by decide) (List.mem_cons_of_mem _ zLX8_42) dX8_opens_6 (fun w106 kw106 => ?_)
  have J46 : ∀ (ls : Array Slot), (lv_has ls 4 [(3, .ref y102), (0, .ref p1), (1, .ref p2), (2, .int p3)]) → W p l e R s m args below meth c H locs 0 0 Q (F0 m 46 ls []) := by
    intro ls hl
    refine lv_iload_n hx hb dX8_opens_46 rfl (lv_at hl 3 rfl) ?_
    refine lv_bipush (v := 40) hx hb dX8_opens_47 (by decide +kernel) ?_
    have J104 : ∀ (H : Heap) (locs : List Loc) (ls : Array Slot), (zq_hm X (zk, zn) I H) → (va_S (zq_A X) s.heap H locs) → (lv_has ls 4 [(3, .ref y102), (0, .ref p1), (1, .ref p2), (2, .int p3)]) → W p l e R s m args below meth c H locs 0 0 Q (F0 m 104 ls []) := by
      intro H locs ls hM hS hl
      refine lv_aload_n hx hb dX8_opens_104 rfl (lv_at hl 1 rfl) ?_
      refine lv_iconst (v := 4) hx hb dX8_opens_105 (by decide +kernel) ?_
      refine zq_calli (zq_rV (As := [.int (4 : Int32)]) (rest := []) E hZ hM k_p1 (c_X6_fail l X zk (zn) I L p1 k_p1 (4 : Int32) (by rw [zl_4]; decide)) zmX8_35 zM_X6_fail (hro (0) 2 (by first | decide | omega) (by decide)) ⟨by decide, by decide⟩ rfl hl.1 rfl rfl (Nat.le_of_ble_eq_true rfl) dX8_opens_106) hS (fun x165 I166 H locs h164 hM hS => ?_)
      obtain ⟨fr167, p168, p169, p170⟩ := h164
      have := zl_4
      have hR := zq_fr.call hR fr167 (zf_sub (by decide +kernel) (fun _ _ q => q.elim))
      subst hQ
      exact zq_zret E hr hZ hM hS (show 0 ≤ x165.toInt ∧ x165.toInt ≤ 1 from ⟨by omega, by omega⟩) ⟨hR, (by omega)⟩ hlocks dX8_opens_109
    refine lv_icmp_ge (tgt := 104) hx hb dX8_opens_49 (by decide) (fun b171 => ?_) (fun b171 => ?_)
    · have b171 := zi_le b171 (zl_40 : (40 : Int32).toInt = 40) (rfl : p3.toInt = p3.toInt)
      exact J104 H locs ls hM hS (lv_sub hl [0, 1, 2, 3] rfl)
    · have b171 := zi_nle b171 (zl_40 : (40 : Int32).toInt = 40) (rfl : p3.toInt = p3.toInt)
      refine lv_aload_n hx hb dX8_opens_52 rfl (lv_at hl 0 rfl) ?_
      refine zq_getw (nm := "TRADE") E hZ hM (by decide) (List.mem_cons_of_mem _ zLX8_42) dX8_opens_53 (fun w172 kw172 => ?_)
      have J64 : ∀ (ls : Array Slot) (j173 : Int32), (0 ≤ j173.toInt ∧ j173.toInt ≤ 1) → (lv_has ls 4 [(3, .ref y102), (0, .ref p1), (1, .ref p2), (2, .int p3)]) → W p l e R s m args below meth c H locs 0 0 Q (F0 m 64 ls [.int j173]) := by
        intro ls j173 gj173 hl
        refine lv_iload_n hx hb dX8_opens_64 rfl (lv_at hl 3 rfl) ?_
        have J73 : ∀ (ls : Array Slot) (j186 : Int32), (0 ≤ j186.toInt ∧ j186.toInt ≤ 1) → (lv_has ls 4 [(3, .ref y102), (0, .ref p1), (1, .ref p2), (2, .int p3)]) → W p l e R s m args below meth c H locs 0 0 Q (F0 m 73 ls [.int j186, .int j173]) := by
          intro ls j186 gj186 hl
          refine lv_icmp_ne (tgt := 104) hx hb dX8_opens_73 (by decide) (fun b198 => ?_) (fun b198 => ?_)
          · have b198 := zi_ne b198 (rfl : j173.toInt = j173.toInt) (rfl : j186.toInt = j186.toInt)
            exact J104 H locs ls hM hS (lv_sub hl [0, 1, 2, 3] rfl)
          · have b198 := zi_eq b198 (rfl : j173.toInt = j173.toInt) (rfl : j186.toInt = j186.toInt)
            refine lv_aload_n hx hb dX8_opens_76 rfl (lv_at hl 0 rfl) ?_
            refine zq_getw (nm := "SHIP") E hZ hM (by decide) (List.mem_cons_of_mem _ zLX8_51) dX8_opens_77 (fun w199 kw199 => ?_)
            have J90 : ∀ (H : Heap) (locs : List Loc) (ls : Array Slot), (zq_hm X (zk, zn) I H) → (va_S (zq_A X) s.heap H locs) → (lv_has ls 4 [(3, .ref y102), (0, .ref p1), (1, .ref p2), (2, .int p3)]) → W p l e R s m args below meth c H locs 0 0 Q (F0 m 90 ls []) := by
              intro H locs ls hM hS hl
              refine lv_aload_n hx hb dX8_opens_90 rfl (lv_at hl 0 rfl) ?_
              refine zq_getw (nm := "TOWN") E hZ hM (by decide) (List.mem_cons_of_mem _ zLX8_54) dX8_opens_91 (fun w210 kw210 => ?_)
              refine lv_acmp_ne (rx := some y102) (ry := some w210) (tgt := 110) hx hb dX8_opens_94 (by decide) (fun b211 => ?_) (fun b211 => ?_)
              · clear b211
                refine lv_iconst (v := 1) hx hb dX8_opens_110 (by decide +kernel) ?_
                subst hQ
                exact zq_zret E hr hZ hM hS (show 0 ≤ (1 : Int32).toInt ∧ (1 : Int32).toInt ≤ 1 by decide +kernel) ⟨hR, (by have := zl_1; omega)⟩ hlocks dX8_opens_111
              · clear b211
                refine lv_aload_n hx hb dX8_opens_97 rfl (lv_at hl 2 rfl) ?_
                refine zq_pcalli (zq_rV (As := []) (rest := []) E hZ hM k_p2 (c_X10_hasRoomForTown l X zk (zn) I L p2 k_p2) zmX8_64 zM_X10_hasRoomForTown (hro (0) 1 (by first | decide | omega) (by decide)) ⟨by decide, by decide⟩ rfl hl.1 rfl rfl (Nat.le_of_ble_eq_true rfl) dX8_opens_98) hS (fun x213 H locs h212 hM hS => ?_)
                obtain ⟨p214, p215⟩ := h212
                refine lv_if_ne (tgt := 110) hx hb dX8_opens_101 (by decide) (fun b216 => ?_) (fun b216 => ?_)
                · have b216 := zi_ne b216 (rfl : x213.toInt = x213.toInt) (zl_0 : (0 : Int32).toInt = 0)
                  refine lv_iconst (v := 1) hx hb dX8_opens_110 (by decide +kernel) ?_
                  subst hQ
                  exact zq_zret E hr hZ hM hS (show 0 ≤ (1 : Int32).toInt ∧ (1 : Int32).toInt ≤ 1 by decide +kernel) ⟨hR, (by have := zl_1; omega)⟩ hlocks dX8_opens_111
                · have b216 := zi_eq b216 (rfl : x213.toInt = x213.toInt) (zl_0 : (0 : Int32).toInt = 0)
                  exact J104 H locs ls hM hS (lv_sub hl [0, 1, 2, 3] rfl)
            refine lv_acmp_ne (rx := some y102) (ry := some w199) (tgt := 90) hx hb dX8_opens_80 (by decide) (fun b217 => ?_) (fun b217 => ?_)
            · clear b217
              exact J90 H locs ls hM hS (lv_sub hl [0, 1, 2, 3] rfl)
            · clear b217
              refine lv_aload_n hx hb dX8_opens_83 rfl (lv_at hl 2 rfl) ?_
              refine zq_pcalli (zq_rV (As := []) (rest := []) E hZ hM k_p2 (c_X10_hasRoomForShip l X zk (zn) I L p2 k_p2) zmX8_60 zM_X10_hasRoomForShip (hro (0) 1 (by first | decide | omega) (by decide)) ⟨by decide, by decide⟩ rfl hl.1 rfl rfl (Nat.le_of_ble_eq_true rfl) dX8_opens_84) hS (fun x219 H locs h218 hM hS => ?_)
              obtain ⟨p220, p221⟩ := h218
              refine lv_if_eq (tgt := 104) hx hb dX8_opens_87 (by decide) (fun b222 => ?_) (fun b222 => ?_)
              · have b222 := zi_eq b222 (rfl : x219.toInt = x219.toInt) (zl_0 : (0 : Int32).toInt = 0)
                exact J104 H locs ls hM hS (lv_sub hl [0, 1, 2, 3] rfl)
              · have b222 := zi_ne b222 (rfl : x219.toInt = x219.toInt) (zl_0 : (0 : Int32).toInt = 0)
                exact J90 H locs ls hM hS (lv_sub hl [0, 1, 2, 3] rfl)
        refine lv_if_ne (tgt := 72) hx hb dX8_opens_65 (by decide) (fun b223 => ?_) (fun b223 => ?_)
        · have b223 := zi_ne b223 (rfl : p3.toInt = p3.toInt) (zl_0 : (0 : Int32).toInt = 0)
          refine lv_iconst (v := 0) hx hb dX8_opens_72 (by decide +kernel) ?_
          exact J73 ls (0 : Int32) (by rw [zl_0]; decide) (lv_sub hl [0, 1, 2, 3] rfl)
        · have b223 := zi_eq b223 (rfl : p3.toInt = p3.toInt) (zl_0 : (0 : Int32).toInt = 0)
          refine lv_iconst (v := 1) hx hb dX8_opens_68 (by decide +kernel) ?_
          refine lv_goto (tgt := 73) hx hb dX8_opens_69 (by decide) ?_
          exact J73 ls (1 : Int32) (by rw [zl_1]; decide) (lv_sub hl [0, 1, 2, 3] rfl)
      refine lv_acmp_ne (rx := some y102) (ry := some w172) (tgt := 63) hx hb dX8_opens_56 (by decide) (fun b224 => ?_) (fun b224 => ?_)
      · clear b224
        refine lv_iconst (v := 0) hx hb dX8_opens_63 (by decide +kernel) ?_
        exact J64 ls (0 : Int32) (by rw [zl_0]; decide) (lv_sub hl [0, 1, 2, 3] rfl)
      · clear b224
        refine lv_iconst (v := 1) hx hb dX8_opens_59 (by decide +kernel) ?_
        refine lv_goto (tgt := 64) hx hb dX8_opens_60 (by decide) ?_
        exact J64 ls (1 : Int32) (by rw [zl_1]; decide) (lv_sub hl [0, 1, 2, 3] rfl)
  refine lv_acmp_eq (rx := some y102) (ry := some w106) (tgt := 46) hx hb dX8_opens_9 (by decide) (fun b225 => ?_) (fun b225 => ?_)
  · clear b225
    exact J46 ls (lv_sub hl [0, 1, 2, 3] rfl)
  · clear b225
    refine lv_aload_n hx hb dX8_opens_12 rfl (lv_at hl 0 rfl) ?_
    refine zq_getw (nm := "FROST") E hZ hM (by decide) (List.mem_cons_of_mem _ zLX8_48) dX8_opens_13 (fun w226 kw226 => ?_)
    refine lv_acmp_eq (rx := some y102) (ry := some w226) (tgt := 46) hx hb dX8_opens_16 (by decide) (fun b227 => ?_) (fun b227 => ?_)
    · clear b227
      exact J46 ls (lv_sub hl [0, 1, 2, 3] rfl)
    · clear b227
      refine lv_aload_n hx hb dX8_opens_19 rfl (lv_at hl 0 rfl) ?_
      refine zq_getw (nm := "SHIP") E hZ hM (by decide) (List.mem_cons_of_mem _ zLX8_51) dX8_opens_20 (fun w228 kw228 => ?_)
      refine lv_acmp_eq (rx := some y102) (ry := some w228) (tgt := 46) hx hb dX8_opens_23 (by decide) (fun b229 => ?_) (fun b229 => ?_)
      · clear b229
        exact J46 ls (lv_sub hl [0, 1, 2, 3] rfl)
      · clear b229
        refine lv_aload_n hx hb dX8_opens_26 rfl (lv_at hl 0 rfl) ?_
        refine zq_getw (nm := "TOWN") E hZ hM (by decide) (List.mem_cons_of_mem _ zLX8_54) dX8_opens_27 (fun w230 kw230 => ?_)
        refine lv_acmp_eq (rx := some y102) (ry := some w230) (tgt := 46) hx hb dX8_opens_30 (by decide) (fun b231 => ?_) (fun b231 => ?_)
        · clear b231
          exact J46 ls (lv_sub hl [0, 1, 2, 3] rfl)
        · clear b231
          refine lv_aload_n hx hb dX8_opens_33 rfl (lv_at hl 0 rfl) ?_
          refine zq_getw (nm := "HOUSE") E hZ hM (by decide) (List.mem_cons_of_mem _ zLX8_57) dX8_opens_34 (fun w232 kw232 => ?_)
          refine lv_acmp_eq (rx := some y102) (ry := some w232) (tgt := 46) hx hb dX8_opens_37 (by decide) (fun b233 => ?_) (fun b233 => ?_)
          · clear b233
            exact J46 ls (lv_sub hl [0, 1, 2, 3] rfl)
          · clear b233
            refine lv_aload_n hx hb dX8_opens_40 rfl (lv_at hl 1 rfl) ?_
            refine lv_iconst (v := 0) hx hb dX8_opens_41 (by decide +kernel) ?_
            refine zq_calli (zq_rV (As := [.int (0 : Int32)]) (rest := []) E hZ hM k_p1 (c_X6_fail l X zk (zn) I L p1 k_p1 (0 : Int32) (by rw [zl_0]; decide)) zmX8_35 zM_X6_fail (hro (0) 2 (by first | decide | omega) (by decide)) ⟨by decide, by decide⟩ rfl hl.1 rfl rfl (Nat.le_of_ble_eq_true rfl) dX8_opens_42) hS (fun x235 I236 H locs h234 hM hS => ?_)
            obtain ⟨fr237, p238, p239, p240⟩ := h234
            have := zl_0
            have hR := zq_fr.call hR fr237 (zf_sub (by decide +kernel) (fun _ _ q => q.elim))
            subst hQ
            exact zq_zret E hr hZ hM hS (show 0 ≤ x235.toInt ∧ x235.toInt ≤ 1 from ⟨by omega, by omega⟩) ⟨hR, (by omega)⟩ hlocks dX8_opens_45
def zw_X8_readStart : List (Nat × Nat) := [(6, 8), (6, 9), (8, 1), (8, 2), (8, 3)]
set_option maxHeartbeats 8000000 in
set_option maxRecDepth 100000 in
theorem c_X8_readStart (l : Launch) (X : zq_X) (zk zn : Nat) (I : zq_M) (L : zq_L X)  (p1 : Nat) (k_p1 : zq_k X p1 = 6) (p2 : Nat) (k_p2 : zq_k X p2 = 8) (q_0 : zW X I 0 p2) (q_1 : zS0 X I p2) : Met l yX8_readStart (zt_w yX8_readStart cX8_readStart 2 none) (zq_rm (2)) (va_Pc [.ref p1, .ref p2] (zq_W X (zk, zn) I)) (va_Qv (fun I2 => zq_fr (zf X zw_X8_readStart (fun b => zq_o X b = zq_o X p2)) I I2 ∧ (zS0 X I2 p2) ∧ (zW X I2 0 p2)) (zq_E X (zk, zn)) (zq_A X)) 0 0 (zq_A X) := by
  refine Met.ofW (cc := cX8_readStart) (maxL := 2) (ret := none) (by decide) rfl ?_
  intro p e s m args below meth c s₁ B hml hv
  obtain ⟨hargs, hM, hZ⟩ := hv
  have hown : s.vm.findClass RX8 = some m.cls := findClass_of_methodNamed B.named
  have hts := atoms_spec (ws := zt_w yX8_readStart cX8_readStart 2 none) B.pre
  have E : CallFix p m c cX8_readStart 2 s args (Cond.code yX8_readStart cX8_readStart 2 none :: zt) RX8 := ⟨B.exec, B.bytes, hml, hown, hts⟩
  have hx := B.exec
  have hb := B.bytes
  have hr := B.returns
  have hlocks := B.notSynchronized
  clear B
  have hS : va_S (zq_A X) s.heap s.heap [] := va_S.rf
  have hR : zq_fr (zf X zw_X8_readStart (fun b => zq_o X b = zq_o X p2)) I I := zq_fr.rf
  have hl := lv_entry ([.ref p1, .ref p2]) (n := 2) (by exact Nat.le_of_ble_eq_true rfl)
  have hg : entryFrame m args 2 = F0 m 0 ((lg_sl ([.ref p1, .ref p2]) ++ List.replicate (2 - (lg_sl ([.ref p1, .ref p2])).length) Slot.unset).toArray) [] := by rw [hargs]; exact lg_entry_eq m ([.ref p1, .ref p2]) 2
  rw [hg]
  clear hg hargs
  generalize (lg_sl ([.ref p1, .ref p2]) ++ List.replicate (2 - (lg_sl ([.ref p1, .ref p2])).length) Slot.unset).toArray = ls at hl ⊢
  have hl : lv_has ls 2 [(0, .ref p1), (1, .ref p2)] := by exact hl
  obtain ⟨R, hRm⟩ : ∃ R : Room, R = (headSpec (zt_w yX8_readStart cX8_readStart 2 none) (zq_rm (2))).room := ⟨_, rfl⟩
  rw [← hRm]
  have hro : ∀ d q : Nat, d + 1 ≤ 2 → q ≤ 45 → zq_rok d q R := fun d q h1 h2 => by rw [hRm]; exact zq_rokI h1 h2
  generalize hQ : MQ below _ args s 0 0 (zq_A X) = Q
  obtain ⟨H, hH⟩ : ∃ H, H = s.heap := ⟨_, rfl⟩
  obtain ⟨locs, hlo⟩ : ∃ x : List Loc, x = [] := ⟨_, rfl⟩
  rw [show W p l e R s m args below meth c s.heap [] 0 0 Q = W p l e R s m args below meth c H locs 0 0 Q by rw [hH, hlo]]
  have hM : zq_hm X (zk, zn) I H := by rw [hH]; exact hM
  have hS : va_S (zq_A X) s.heap H locs := by rw [hH, hlo]; exact hS
  clear hH hlo
  refine lv_aload_n hx hb dX8_readStart_0 rfl (lv_at hl 1 rfl) ?_
  refine lv_aload_n hx hb dX8_readStart_1 rfl (lv_at hl 0 rfl) ?_
  refine lv_iconst (v := 0) hx hb dX8_readStart_2 (by decide +kernel) ?_
  refine lv_sipush (v := 9999) hx hb dX8_readStart_3 (by decide +kernel) ?_
  refine zq_calli (zq_rV (As := [.int (0 : Int32), .int (9999 : Int32)]) (rest := [.ref p2]) E hZ hM k_p1 (c_X6_takeNumber l X zk (zn) I L p1 k_p1 (0 : Int32) (9999 : Int32)) zmX8_90 zM_X6_takeNumber (hro (1) 4 (by first | decide | omega) (by decide)) ⟨by decide, by decide⟩ rfl hl.1 rfl rfl (Nat.le_of_ble_eq_true rfl) dX8_readStart_6) hS (fun x102 I103 H locs h101 hM hS => ?_)
  obtain ⟨fr104, p105, p106⟩ := h101
  have := zl_0
  have := zl_9999
  have hR := zq_fr.call hR fr104 (zf_sub (by decide +kernel) (fun _ _ q => q.elim))
  have hW107 := zW.frL q_0 L k_p2 fr104 rfl rfl
  have hS0108 := zS0.fr q_1 L k_p2 fr104 rfl
  refine zq_pn E hM hS k_p2 (zGX8_94 E hZ) ⟨by decide, by decide, by decide, rfl⟩ (zq_any _) dX8_readStart_9 (fun I109 H locs eI109 hM hS => ?_)
  have hR := zq_fr.putE hR eI109 (zf_iw k_p2 rfl ((rfl : zq_o X p2 = zq_o X p2)))
  have hW110 := zW.put hW107 L k_p2 eI109 k_p2 (Or.inr (Or.inr ⟨rfl, by decide⟩))
  have hS0111 := zS0.put hS0108 L k_p2 eI109 k_p2 (Or.inl (by decide))
  refine lv_aload_n hx hb dX8_readStart_12 rfl (lv_at hl 1 rfl) ?_
  refine lv_aload_n hx hb dX8_readStart_13 rfl (lv_at hl 0 rfl) ?_
  refine lv_iconst (v := 0) hx hb dX8_readStart_14 (by decide +kernel) ?_
  refine W.eq (g2 := F0 m 15 ls [.int (0 : Int32), .ref p1, .ref p2]) rfl ?_
  refine lv_bipush (v := 20) hx hb dX8_readStart_15 (by decide +kernel) ?_
  refine zq_calli (zq_rV (As := [.int (0 : Int32), .int (20 : Int32)]) (rest := [.ref p2]) E hZ hM k_p1 (c_X6_takeNumber l X zk (zn) I109 L p1 k_p1 (0 : Int32) (20 : Int32)) zmX8_90 zM_X6_takeNumber (hro (1) 4 (by first | decide | omega) (by decide)) ⟨by decide, by decide⟩ rfl hl.1 rfl rfl (Nat.le_of_ble_eq_true rfl) dX8_readStart_17) hS (fun x113 I114 H locs h112 hM hS => ?_)
  obtain ⟨fr115, p116, p117⟩ := h112
  have := zl_0
  have := zl_20
  have hR := zq_fr.call hR fr115 (zf_sub (by decide +kernel) (fun _ _ q => q.elim))
  have hW118 := zW.frL hW110 L k_p2 fr115 rfl rfl
  have hS0119 := zS0.fr hS0111 L k_p2 fr115 rfl
  refine zq_pn E hM hS k_p2 (zGX8_97 E hZ) ⟨by decide, by decide, by decide, rfl⟩ (zq_any _) dX8_readStart_20 (fun I120 H locs eI120 hM hS => ?_)
  have hR := zq_fr.putE hR eI120 (zf_iw k_p2 rfl ((rfl : zq_o X p2 = zq_o X p2)))
  have hW121 := zW.put hW118 L k_p2 eI120 k_p2 (Or.inr (Or.inr ⟨rfl, by decide⟩))
  have hS0122 := zS0.put hS0119 L k_p2 eI120 k_p2 (Or.inl (by decide))
  refine lv_aload_n hx hb dX8_readStart_23 rfl (lv_at hl 1 rfl) ?_
  refine lv_aload_n hx hb dX8_readStart_24 rfl (lv_at hl 0 rfl) ?_
  refine lv_iconst (v := 0) hx hb dX8_readStart_25 (by decide +kernel) ?_
  refine lv_sipush (v := 999) hx hb dX8_readStart_26 (by decide +kernel) ?_
  refine zq_calli (zq_rV (As := [.int (0 : Int32), .int (999 : Int32)]) (rest := [.ref p2]) E hZ hM k_p1 (c_X6_takeNumber l X zk (zn) I120 L p1 k_p1 (0 : Int32) (999 : Int32)) zmX8_90 zM_X6_takeNumber (hro (1) 4 (by first | decide | omega) (by decide)) ⟨by decide, by decide⟩ rfl hl.1 rfl rfl (Nat.le_of_ble_eq_true rfl) dX8_readStart_29) hS (fun x124 I125 H locs h123 hM hS => ?_)
  obtain ⟨fr126, p127, p128⟩ := h123
  have := zl_0
  have := zl_999
  have hR := zq_fr.call hR fr126 (zf_sub (by decide +kernel) (fun _ _ q => q.elim))
  have hW129 := zW.frL hW121 L k_p2 fr126 rfl rfl
  have hS0130 := zS0.fr hS0122 L k_p2 fr126 rfl
  refine zq_pn E hM hS k_p2 (zGX8_100 E hZ) ⟨by decide, by decide, by decide, rfl⟩ (zq_any _) dX8_readStart_32 (fun I131 H locs eI131 hM hS => ?_)
  have hR := zq_fr.putE hR eI131 (zf_iw k_p2 rfl ((rfl : zq_o X p2 = zq_o X p2)))
  have hW132 := zW.put hW129 L k_p2 eI131 k_p2 (Or.inr (Or.inr ⟨rfl, by decide⟩))
  have hS0133 := zS0.put hS0130 L k_p2 eI131 k_p2 (Or.inl (by decide))
  subst hQ
  exact zq_vret E hr hZ hM hS ⟨hR, (hS0133), (hW132)⟩ hlocks dX8_readStart_35
def zw_X8_readFrost : List (Nat × Nat) := [(6, 8), (6, 9), (30, 999)]
set_option maxHeartbeats 8000000 in
set_option maxRecDepth 100000 in
theorem c_X8_readFrost (l : Launch) (X : zq_X) (zk zn : Nat) (I : zq_M) (L : zq_L X)  (p1 : Nat) (k_p1 : zq_k X p1 = 6) (p2 : Nat) (k_p2 : zq_k X p2 = 8) (q_0 : zW X I 0 p2) (q_1 : zS0 X I p2) : Met l yX8_readFrost (zt_w yX8_readFrost cX8_readFrost 4 none) (zq_rm (2)) (va_Pc [.ref p1, .ref p2] (zq_W X (zk, zn) I)) (va_Qv (fun I2 => zq_fr (zf X zw_X8_readFrost (fun b => zq_o X b = zq_o X p2)) I I2 ∧ (zS0 X I2 p2) ∧ (zW X I2 0 p2)) (zq_E X (zk, zn)) (zq_A X)) 0 0 (zq_A X) := by
  refine Met.ofW (cc := cX8_readFrost) (maxL := 4) (ret := none) (by decide) rfl ?_
  intro p e s m args below meth c s₁ B hml hv
  obtain ⟨hargs, hM, hZ⟩ := hv
  have hown : s.vm.findClass RX8 = some m.cls := findClass_of_methodNamed B.named
  have hts := atoms_spec (ws := zt_w yX8_readFrost cX8_readFrost 4 none) B.pre
  have E : CallFix p m c cX8_readFrost 4 s args (Cond.code yX8_readFrost cX8_readFrost 4 none :: zt) RX8 := ⟨B.exec, B.bytes, hml, hown, hts⟩
  have hx := B.exec
  have hb := B.bytes
  have hr := B.returns
  have hlocks := B.notSynchronized
  clear B
  have hS : va_S (zq_A X) s.heap s.heap [] := va_S.rf
  have hR : zq_fr (zf X zw_X8_readFrost (fun b => zq_o X b = zq_o X p2)) I I := zq_fr.rf
  have hl := lv_entry ([.ref p1, .ref p2]) (n := 4) (by exact Nat.le_of_ble_eq_true rfl)
  have hg : entryFrame m args 4 = F0 m 0 ((lg_sl ([.ref p1, .ref p2]) ++ List.replicate (4 - (lg_sl ([.ref p1, .ref p2])).length) Slot.unset).toArray) [] := by rw [hargs]; exact lg_entry_eq m ([.ref p1, .ref p2]) 4
  rw [hg]
  clear hg hargs
  generalize (lg_sl ([.ref p1, .ref p2]) ++ List.replicate (4 - (lg_sl ([.ref p1, .ref p2])).length) Slot.unset).toArray = ls at hl ⊢
  have hl : lv_has ls 4 [(0, .ref p1), (1, .ref p2)] := by exact hl
  obtain ⟨R, hRm⟩ : ∃ R : Room, R = (headSpec (zt_w yX8_readFrost cX8_readFrost 4 none) (zq_rm (2))).room := ⟨_, rfl⟩
  rw [← hRm]
  have hro : ∀ d q : Nat, d + 1 ≤ 2 → q ≤ 45 → zq_rok d q R := fun d q h1 h2 => by rw [hRm]; exact zq_rokI h1 h2
  generalize hQ : MQ below _ args s 0 0 (zq_A X) = Q
  obtain ⟨H, hH⟩ : ∃ H, H = s.heap := ⟨_, rfl⟩
  obtain ⟨locs, hlo⟩ : ∃ x : List Loc, x = [] := ⟨_, rfl⟩
  rw [show W p l e R s m args below meth c s.heap [] 0 0 Q = W p l e R s m args below meth c H locs 0 0 Q by rw [hH, hlo]]
  have hM : zq_hm X (zk, zn) I H := by rw [hH]; exact hM
  have hS : va_S (zq_A X) s.heap H locs := by rw [hH, hlo]; exact hS
  clear hH hlo
  refine lv_aload_n hx hb dX8_readFrost_0 rfl (lv_at hl 0 rfl) ?_
  refine lv_iconst (v := 0) hx hb dX8_readFrost_1 (by decide +kernel) ?_
  refine lv_bipush (v := 11) hx hb dX8_readFrost_2 (by decide +kernel) ?_
  refine zq_calli (zq_rV (As := [.int (0 : Int32), .int (11 : Int32)]) (rest := []) E hZ hM k_p1 (c_X6_takeNumber l X zk (zn) I L p1 k_p1 (0 : Int32) (11 : Int32)) zmX8_90 zM_X6_takeNumber (hro (1) 4 (by first | decide | omega) (by decide)) ⟨by decide, by decide⟩ rfl hl.1 rfl rfl (Nat.le_of_ble_eq_true rfl) dX8_readFrost_4) hS (fun x102 I103 H locs h101 hM hS => ?_)
  obtain ⟨fr104, p105, p106⟩ := h101
  have := zl_0
  have := zl_11
  have hR := zq_fr.call hR fr104 (zf_sub (by decide +kernel) (fun _ _ q => q.elim))
  have hW107 := zW.frL q_0 L k_p2 fr104 rfl rfl
  have hS0108 := zS0.fr q_1 L k_p2 fr104 rfl
  refine lv_istore_n (lv' := [(2, .int x102), (0, .ref p1), (1, .ref p2)]) hx hb dX8_readFrost_7 rfl hl (by decide) rfl (fun ls hl => ?_)
  refine lv_aload_n hx hb dX8_readFrost_8 rfl (lv_at hl 1 rfl) ?_
  refine lv_iconst (v := 1) hx hb dX8_readFrost_9 (by decide +kernel) ?_
  refine lv_bipush (v := 99) hx hb dX8_readFrost_10 (by decide +kernel) ?_
  refine zq_calli (zq_rV (As := [.int (1 : Int32), .int (99 : Int32)]) (rest := []) E hZ hM k_p1 (c_X6_takeNumber l X zk (zn) I103 L p1 k_p1 (1 : Int32) (99 : Int32)) zmX8_90 zM_X6_takeNumber (hro (1) 4 (by first | decide | omega) (by decide)) ⟨by decide, by decide⟩ rfl hl.1 rfl rfl (Nat.le_of_ble_eq_true rfl) dX8_readFrost_12) hS (fun x110 I111 H locs h109 hM hS => ?_)
  obtain ⟨fr112, p113, p114⟩ := h109
  have := zl_1
  have := zl_99
  have hR := zq_fr.call hR fr112 (zf_sub (by decide +kernel) (fun _ _ q => q.elim))
  have hW115 := zW.frL hW107 L k_p2 fr112 rfl rfl
  have hS0116 := zS0.fr hS0108 L k_p2 fr112 rfl
  refine W.eq (g2 := F0 m 15 ls [.int x110]) rfl ?_
  refine lv_istore_n (lv' := [(3, .int x110), (2, .int x102), (0, .ref p1), (1, .ref p2)]) hx hb dX8_readFrost_15 rfl hl (by decide) rfl (fun ls hl => ?_)
  refine lv_iload_n hx hb dX8_readFrost_16 rfl (lv_at hl 1 rfl) ?_
  refine lv_iconst (v := 0) hx hb dX8_readFrost_17 (by decide +kernel) ?_
  refine lv_bipush (v := 11) hx hb dX8_readFrost_18 (by decide +kernel) ?_
  refine zq_pcalli (zq_rN (As := [.int x102, .int (0 : Int32), .int (11 : Int32)]) (rest := []) E hZ hM (c_X11_isWithin l X zk (zn) I111 L x102 (0 : Int32) (11 : Int32)) hZ.2.2.2.1 zM_X11_isWithin (hro (0) 3 (by first | decide | omega) (by decide)) hl.1 rfl rfl (Nat.le_of_ble_eq_true rfl) dX8_readFrost_20) hS (fun x118 H locs h117 hM hS => ?_)
  obtain ⟨p119, p120⟩ := h117
  have := zl_0
  have := zl_11
  refine lv_if_eq (tgt := 33) hx hb dX8_readFrost_23 (by decide) (fun b121 => ?_) (fun b121 => ?_)
  · have b121 := zi_eq b121 (rfl : x118.toInt = x118.toInt) (zl_0 : (0 : Int32).toInt = 0)
    subst hQ
    exact zq_vret E hr hZ hM hS ⟨hR, (hS0116), (hW115)⟩ hlocks dX8_readFrost_33
  · have b121 := zi_ne b121 (rfl : x118.toInt = x118.toInt) (zl_0 : (0 : Int32).toInt = 0)
    refine lv_aload_n hx hb dX8_readFrost_26 rfl (lv_at hl 3 rfl) ?_
    refine zq_getr E hM k_p2 (zFX8_109 E hZ) ⟨by decide, by decide, by decide, rfl⟩ dX8_readFrost_27 ?_
    have k122 : zq_k X (zq_r X p2 7) = 30 := zq_lk L.1 k_p2 rfl (by decide)
    refine lv_iload_n hx hb dX8_readFrost_30 rfl (lv_at hl 1 rfl) ?_
    refine lv_iload_n hx hb dX8_readFrost_31 rfl (lv_at hl 0 rfl) ?_
    refine zq_isn (n := 12) (j := (x102.toNatClampNeg)) E hZ hM hS k122 ⟨by decide, rfl⟩ ⟨by omega, by omega⟩ rfl (zq_any _) dX8_readFrost_32 (fun I123 H locs eI123 hM hS => ?_)
    have hR := zq_fr.putE hR eI123 (zf_iaw k122 (by decide) (((L.2.1 _ _ _ k_p2 (by decide) rfl).trans ((rfl : zq_o X p2 = zq_o X p2)))))
    have hW124 := zW.put hW115 L k_p2 eI123 k122 (Or.inl ⟨by decide, by decide⟩)
    have hS0125 := zS0.put hS0116 L k_p2 eI123 k122 (Or.inl (by decide))
    subst hQ
    exact zq_vret E hr hZ hM hS ⟨hR, (hS0125), (hW124)⟩ hlocks dX8_readFrost_33
def zw_X8_readShip : List (Nat × Nat) := [(5, 0), (5, 1), (6, 8), (6, 9), (8, 5)]
set_option maxHeartbeats 8000000 in
set_option maxRecDepth 100000 in
theorem c_X8_readShip (l : Launch) (X : zq_X) (zk zn : Nat) (I : zq_M) (L : zq_L X)  (p1 : Nat) (k_p1 : zq_k X p1 = 6) (p2 : Nat) (k_p2 : zq_k X p2 = 8) (q_0 : zW X I 0 p2) (q_1 : zS0 X I p2) : Met l yX8_readShip (zt_w yX8_readShip cX8_readShip 3 none) (zq_rm (2)) (va_Pc [.ref p1, .ref p2] (zq_W X (zk, zn) I)) (va_Qv (fun I2 => zq_fr (zf X zw_X8_readShip (fun b => zq_o X b = zq_o X p2)) I I2 ∧ (zS0 X I2 p2) ∧ (zW X I2 0 p2)) (zq_E X (zk, zn)) (zq_A X)) 0 0 (zq_A X) := by
  refine Met.ofW (cc := cX8_readShip) (maxL := 3) (ret := none) (by decide) rfl ?_
  intro p e s m args below meth c s₁ B hml hv
  obtain ⟨hargs, hM, hZ⟩ := hv
  have hown : s.vm.findClass RX8 = some m.cls := findClass_of_methodNamed B.named
  have hts := atoms_spec (ws := zt_w yX8_readShip cX8_readShip 3 none) B.pre
  have E : CallFix p m c cX8_readShip 3 s args (Cond.code yX8_readShip cX8_readShip 3 none :: zt) RX8 := ⟨B.exec, B.bytes, hml, hown, hts⟩
  have hx := B.exec
  have hb := B.bytes
  have hr := B.returns
  have hlocks := B.notSynchronized
  clear B
  have hS : va_S (zq_A X) s.heap s.heap [] := va_S.rf
  have hR : zq_fr (zf X zw_X8_readShip (fun b => zq_o X b = zq_o X p2)) I I := zq_fr.rf
  have hl := lv_entry ([.ref p1, .ref p2]) (n := 3) (by exact Nat.le_of_ble_eq_true rfl)
  have hg : entryFrame m args 3 = F0 m 0 ((lg_sl ([.ref p1, .ref p2]) ++ List.replicate (3 - (lg_sl ([.ref p1, .ref p2])).length) Slot.unset).toArray) [] := by rw [hargs]; exact lg_entry_eq m ([.ref p1, .ref p2]) 3
  rw [hg]
  clear hg hargs
  generalize (lg_sl ([.ref p1, .ref p2]) ++ List.replicate (3 - (lg_sl ([.ref p1, .ref p2])).length) Slot.unset).toArray = ls at hl ⊢
  have hl : lv_has ls 3 [(0, .ref p1), (1, .ref p2)] := by exact hl
  obtain ⟨R, hRm⟩ : ∃ R : Room, R = (headSpec (zt_w yX8_readShip cX8_readShip 3 none) (zq_rm (2))).room := ⟨_, rfl⟩
  rw [← hRm]
  have hro : ∀ d q : Nat, d + 1 ≤ 2 → q ≤ 45 → zq_rok d q R := fun d q h1 h2 => by rw [hRm]; exact zq_rokI h1 h2
  generalize hQ : MQ below _ args s 0 0 (zq_A X) = Q
  obtain ⟨H, hH⟩ : ∃ H, H = s.heap := ⟨_, rfl⟩
  obtain ⟨locs, hlo⟩ : ∃ x : List Loc, x = [] := ⟨_, rfl⟩
  rw [show W p l e R s m args below meth c s.heap [] 0 0 Q = W p l e R s m args below meth c H locs 0 0 Q by rw [hH, hlo]]
  have hM : zq_hm X (zk, zn) I H := by rw [hH]; exact hM
  have hS : va_S (zq_A X) s.heap H locs := by rw [hH, hlo]; exact hS
  clear hH hlo
  refine lv_aload_n hx hb dX8_readShip_0 rfl (lv_at hl 1 rfl) ?_
  refine zq_pcalli (zq_rV (As := []) (rest := []) E hZ hM k_p2 (c_X10_hasRoomForShip l X zk (zn) I L p2 k_p2) zmX8_60 zM_X10_hasRoomForShip (hro (0) 1 (by first | decide | omega) (by decide)) ⟨by decide, by decide⟩ rfl hl.1 rfl rfl (Nat.le_of_ble_eq_true rfl) dX8_readShip_1) hS (fun x102 H locs h101 hM hS => ?_)
  obtain ⟨p103, p104⟩ := h101
  refine lv_if_eq (tgt := 49) hx hb dX8_readShip_4 (by decide) (fun b105 => ?_) (fun b105 => ?_)
  · have b105 := zi_eq b105 (rfl : x102.toInt = x102.toInt) (zl_0 : (0 : Int32).toInt = 0)
    subst hQ
    exact zq_vret E hr hZ hM hS ⟨hR, (q_1), (q_0)⟩ hlocks dX8_readShip_49
  · have b105 := zi_ne b105 (rfl : x102.toInt = x102.toInt) (zl_0 : (0 : Int32).toInt = 0)
    refine lv_aload_n hx hb dX8_readShip_7 rfl (lv_at hl 1 rfl) ?_
    refine zq_getr E hM k_p2 (zFX8_113 E hZ) ⟨by decide, by decide, by decide, rfl⟩ dX8_readShip_8 ?_
    have k106 : zq_k X (zq_r X p2 8) = 31 := zq_lk L.1 k_p2 rfl (by decide)
    refine lv_aload_n hx hb dX8_readShip_11 rfl (lv_at hl 1 rfl) ?_
    refine zq_gn E hM k_p2 (zFX8_117 E hZ) (Or.inl ⟨by decide, by decide, by decide, rfl⟩) dX8_readShip_12 (fun x107 ex107 gx107 => ?_)
    replace gx107 : 0 ≤ x107.toInt ∧ x107.toInt ≤ 3 := gx107
    have := congrArg Int32.toInt ex107
    refine zq_rald (n := 3) (t := 7) (j := (x107.toNatClampNeg)) E hZ hM k106 ⟨by decide, rfl⟩ ⟨rfl, by decide, by decide⟩ ⟨by omega, by omega⟩ rfl dX8_readShip_15 ?_
    have k108 : zq_k X (zq_r X (zq_r X p2 8) (x107.toNatClampNeg)) = 5 := zq_lay_a L.1 k106 (n := 3) (zq_inn (i := x107) (n := 3) ⟨by omega, by omega⟩) (by decide) (by decide)
    refine lv_astore_n (lv' := [(2, .ref (zq_r X (zq_r X p2 8) (x107.toNatClampNeg))), (0, .ref p1), (1, .ref p2)]) hx hb dX8_readShip_16 rfl hl (by decide) rfl (fun ls hl => ?_)
    refine lv_aload_n hx hb dX8_readShip_17 rfl (lv_at hl 0 rfl) ?_
    refine lv_aload_n hx hb dX8_readShip_18 rfl (lv_at hl 1 rfl) ?_
    refine lv_iconst (v := 1) hx hb dX8_readShip_19 (by decide +kernel) ?_
    refine W.eq (g2 := F0 m 20 ls [.int (1 : Int32), .ref p1, .ref (zq_r X (zq_r X p2 8) (x107.toNatClampNeg))]) rfl ?_
    refine lv_bipush (v := 99) hx hb dX8_readShip_20 (by decide +kernel) ?_
    refine zq_calli (zq_rV (As := [.int (1 : Int32), .int (99 : Int32)]) (rest := [.ref (zq_r X (zq_r X p2 8) (x107.toNatClampNeg))]) E hZ hM k_p1 (c_X6_takeNumber l X zk (zn) I L p1 k_p1 (1 : Int32) (99 : Int32)) zmX8_90 zM_X6_takeNumber (hro (1) 4 (by first | decide | omega) (by decide)) ⟨by decide, by decide⟩ rfl hl.1 rfl rfl (Nat.le_of_ble_eq_true rfl) dX8_readShip_22) hS (fun x110 I111 H locs h109 hM hS => ?_)
    obtain ⟨fr112, p113, p114⟩ := h109
    have := zl_1
    have := zl_99
    have hR := zq_fr.call hR fr112 (zf_sub (by decide +kernel) (fun _ _ q => q.elim))
    have hW115 := zW.frL q_0 L k_p2 fr112 rfl rfl
    have hS0116 := zS0.fr q_1 L k_p2 fr112 rfl
    refine zq_pn E hM hS k108 (zGX8_120 E hZ) ⟨by decide, by decide, by decide, rfl⟩ (show (-1) ≤ x110.toInt ∧ x110.toInt ≤ 99 from ⟨by omega, by omega⟩) dX8_readShip_25 (fun I117 H locs eI117 hM hS => ?_)
    have hR := zq_fr.putE hR eI117 (zf_iw k108 rfl (((zq_own_a L.2.1 k106 (n := 3) (zq_inn (i := x107) (n := 3) ⟨by omega, by omega⟩) (by decide)).trans (((L.2.1 _ _ _ k_p2 (by decide) rfl).trans ((rfl : zq_o X p2 = zq_o X p2)))))))
    have hW118 := zW.put hW115 L k_p2 eI117 k108 (Or.inl ⟨by decide, by decide⟩)
    have hS0119 := zS0.put hS0116 L k_p2 eI117 k108 (Or.inl (by decide))
    refine lv_aload_n hx hb dX8_readShip_28 rfl (lv_at hl 0 rfl) ?_
    refine lv_aload_n hx hb dX8_readShip_29 rfl (lv_at hl 1 rfl) ?_
    refine lv_iconst (v := 0) hx hb dX8_readShip_30 (by decide +kernel) ?_
    refine lv_bipush (v := 99) hx hb dX8_readShip_31 (by decide +kernel) ?_
    refine zq_calli (zq_rV (As := [.int (0 : Int32), .int (99 : Int32)]) (rest := [.ref (zq_r X (zq_r X p2 8) (x107.toNatClampNeg))]) E hZ hM k_p1 (c_X6_takeNumber l X zk (zn) I117 L p1 k_p1 (0 : Int32) (99 : Int32)) zmX8_90 zM_X6_takeNumber (hro (1) 4 (by first | decide | omega) (by decide)) ⟨by decide, by decide⟩ rfl hl.1 rfl rfl (Nat.le_of_ble_eq_true rfl) dX8_readShip_33) hS (fun x121 I122 H locs h120 hM hS => ?_)
    obtain ⟨fr123, p124, p125⟩ := h120
    have := zl_0
    have := zl_99
    have hR := zq_fr.call hR fr123 (zf_sub (by decide +kernel) (fun _ _ q => q.elim))
    have hW126 := zW.frL hW118 L k_p2 fr123 rfl rfl
    have hS0127 := zS0.fr hS0119 L k_p2 fr123 rfl
    refine zq_pn E hM hS k108 (zGX8_125 E hZ) ⟨by decide, by decide, by decide, rfl⟩ (show (-1) ≤ x121.toInt ∧ x121.toInt ≤ 99 from ⟨by omega, by omega⟩) dX8_readShip_36 (fun I128 H locs eI128 hM hS => ?_)
    have hR := zq_fr.putE hR eI128 (zf_iw k108 rfl (((zq_own_a L.2.1 k106 (n := 3) (zq_inn (i := x107) (n := 3) ⟨by omega, by omega⟩) (by decide)).trans (((L.2.1 _ _ _ k_p2 (by decide) rfl).trans ((rfl : zq_o X p2 = zq_o X p2)))))))
    have hW129 := zW.put hW126 L k_p2 eI128 k108 (Or.inl ⟨by decide, by decide⟩)
    have hS0130 := zS0.put hS0127 L k_p2 eI128 k108 (Or.inl (by decide))
    refine lv_aload_n hx hb dX8_readShip_39 rfl (lv_at hl 2 rfl) ?_
    refine W.eq (g2 := F0 m 40 ls [.ref p2]) rfl ?_
    refine lv_dup hx hb dX8_readShip_40 rfl ?_
    refine zq_gk (v := x107) E hM k_p2 (zFX8_117 E hZ) (Or.inl ⟨by decide, by decide, by decide, rfl⟩) (zq_kp eI128 (Or.inl (zq_kne k_p2 k108 (by decide))) (zq_fr.kp fr123 (zf_n k_p2 rfl) (zq_kp eI117 (Or.inl (zq_kne k_p2 k108 (by decide))) (zq_fr.kp fr112 (zf_n k_p2 rfl) ex107)))) dX8_readShip_41 ?_
    refine lv_iconst (v := 1) hx hb dX8_readShip_44 (by decide +kernel) ?_
    refine lv_iadd hx hb dX8_readShip_45 ?_
    refine lv_topi (fun x131 ex131 => ?_)
    have tx131 := zi_add ex131 (rfl : x107.toInt = x107.toInt) (zl_1 : (1 : Int32).toInt = 1) ⟨by omega, by omega⟩
    refine zq_pn E hM hS k_p2 (zGX8_117 E hZ) ⟨by decide, by decide, by decide, rfl⟩ (show 0 ≤ x131.toInt ∧ x131.toInt ≤ 3 from ⟨by omega, by omega⟩) dX8_readShip_46 (fun I132 H locs eI132 hM hS => ?_)
    have hR := zq_fr.putE hR eI132 (zf_iw k_p2 rfl ((rfl : zq_o X p2 = zq_o X p2)))
    have hW133 := zW.put hW129 L k_p2 eI132 k_p2 (Or.inr (Or.inr ⟨rfl, by decide⟩))
    have hS0134 := zS0.put hS0130 L k_p2 eI132 k_p2 (Or.inl (by decide))
    subst hQ
    exact zq_vret E hr hZ hM hS ⟨hR, (hS0134), (hW133)⟩ hlocks dX8_readShip_49
def zw_X8_readTown : List (Nat × Nat) := [(6, 8), (6, 9), (7, 0), (7, 1), (7, 2), (7, 3), (8, 6)]
set_option maxHeartbeats 8000000 in
set_option maxRecDepth 100000 in
theorem c_X8_readTown (l : Launch) (X : zq_X) (zk zn : Nat) (I : zq_M) (L : zq_L X)  (p1 : Nat) (k_p1 : zq_k X p1 = 6) (p2 : Nat) (k_p2 : zq_k X p2 = 8) (q_0 : zW X I 0 p2) (q_1 : zS0 X I p2) : Met l yX8_readTown (zt_w yX8_readTown cX8_readTown 3 none) (zq_rm (2)) (va_Pc [.ref p1, .ref p2] (zq_W X (zk, zn) I)) (va_Qv (fun I2 => zq_fr (zf X zw_X8_readTown (fun b => zq_o X b = zq_o X p2)) I I2 ∧ (zS0 X I2 p2) ∧ ((I2 p1 9).toInt = 0 → zW X I2 0 p2)) (zq_E X (zk, zn)) (zq_A X)) 0 0 (zq_A X) := by
  refine Met.ofW (cc := cX8_readTown) (maxL := 3) (ret := none) (by decide) rfl ?_
  intro p e s m args below meth c s₁ B hml hv
  obtain ⟨hargs, hM, hZ⟩ := hv
  have hown : s.vm.findClass RX8 = some m.cls := findClass_of_methodNamed B.named
  have hts := atoms_spec (ws := zt_w yX8_readTown cX8_readTown 3 none) B.pre
  have E : CallFix p m c cX8_readTown 3 s args (Cond.code yX8_readTown cX8_readTown 3 none :: zt) RX8 := ⟨B.exec, B.bytes, hml, hown, hts⟩
  have hx := B.exec
  have hb := B.bytes
  have hr := B.returns
  have hlocks := B.notSynchronized
  clear B
  have hS : va_S (zq_A X) s.heap s.heap [] := va_S.rf
  have hR : zq_fr (zf X zw_X8_readTown (fun b => zq_o X b = zq_o X p2)) I I := zq_fr.rf
  have hl := lv_entry ([.ref p1, .ref p2]) (n := 3) (by exact Nat.le_of_ble_eq_true rfl)
  have hg : entryFrame m args 3 = F0 m 0 ((lg_sl ([.ref p1, .ref p2]) ++ List.replicate (3 - (lg_sl ([.ref p1, .ref p2])).length) Slot.unset).toArray) [] := by rw [hargs]; exact lg_entry_eq m ([.ref p1, .ref p2]) 3
  rw [hg]
  clear hg hargs
  generalize (lg_sl ([.ref p1, .ref p2]) ++ List.replicate (3 - (lg_sl ([.ref p1, .ref p2])).length) Slot.unset).toArray = ls at hl ⊢
  have hl : lv_has ls 3 [(0, .ref p1), (1, .ref p2)] := by exact hl
  obtain ⟨R, hRm⟩ : ∃ R : Room, R = (headSpec (zt_w yX8_readTown cX8_readTown 3 none) (zq_rm (2))).room := ⟨_, rfl⟩
  rw [← hRm]
  have hro : ∀ d q : Nat, d + 1 ≤ 2 → q ≤ 45 → zq_rok d q R := fun d q h1 h2 => by rw [hRm]; exact zq_rokI h1 h2
  generalize hQ : MQ below _ args s 0 0 (zq_A X) = Q
  obtain ⟨H, hH⟩ : ∃ H, H = s.heap := ⟨_, rfl⟩
  obtain ⟨locs, hlo⟩ : ∃ x : List Loc, x = [] := ⟨_, rfl⟩
  rw [show W p l e R s m args below meth c s.heap [] 0 0 Q = W p l e R s m args below meth c H locs 0 0 Q by rw [hH, hlo]]
  have hM : zq_hm X (zk, zn) I H := by rw [hH]; exact hM
  have hS : va_S (zq_A X) s.heap H locs := by rw [hH, hlo]; exact hS
  clear hH hlo
  refine lv_aload_n hx hb dX8_readTown_0 rfl (lv_at hl 1 rfl) ?_
  refine zq_pcalli (zq_rV (As := []) (rest := []) E hZ hM k_p2 (c_X10_hasRoomForTown l X zk (zn) I L p2 k_p2) zmX8_64 zM_X10_hasRoomForTown (hro (0) 1 (by first | decide | omega) (by decide)) ⟨by decide, by decide⟩ rfl hl.1 rfl rfl (Nat.le_of_ble_eq_true rfl) dX8_readTown_1) hS (fun x102 H locs h101 hM hS => ?_)
  obtain ⟨p103, p104⟩ := h101
  refine lv_if_eq (tgt := 71) hx hb dX8_readTown_4 (by decide) (fun b105 => ?_) (fun b105 => ?_)
  · have b105 := zi_eq b105 (rfl : x102.toInt = x102.toInt) (zl_0 : (0 : Int32).toInt = 0)
    subst hQ
    exact zq_vret E hr hZ hM hS ⟨hR, (q_1), (fun _ => q_0)⟩ hlocks dX8_readTown_71
  · have b105 := zi_ne b105 (rfl : x102.toInt = x102.toInt) (zl_0 : (0 : Int32).toInt = 0)
    refine lv_aload_n hx hb dX8_readTown_7 rfl (lv_at hl 1 rfl) ?_
    refine zq_getr E hM k_p2 (zFX8_128 E hZ) ⟨by decide, by decide, by decide, rfl⟩ dX8_readTown_8 ?_
    have k106 : zq_k X (zq_r X p2 9) = 32 := zq_lk L.1 k_p2 rfl (by decide)
    refine lv_aload_n hx hb dX8_readTown_11 rfl (lv_at hl 1 rfl) ?_
    refine zq_gn E hM k_p2 (zFX8_132 E hZ) (Or.inl ⟨by decide, by decide, by decide, rfl⟩) dX8_readTown_12 (fun x107 ex107 gx107 => ?_)
    replace gx107 : 0 ≤ x107.toInt ∧ x107.toInt ≤ 4 := gx107
    have := congrArg Int32.toInt ex107
    refine zq_rald (n := 4) (t := 8) (j := (x107.toNatClampNeg)) E hZ hM k106 ⟨by decide, rfl⟩ ⟨rfl, by decide, by decide⟩ ⟨by omega, by omega⟩ rfl dX8_readTown_15 ?_
    have k108 : zq_k X (zq_r X (zq_r X p2 9) (x107.toNatClampNeg)) = 7 := zq_lay_a L.1 k106 (n := 4) (zq_inn (i := x107) (n := 4) ⟨by omega, by omega⟩) (by decide) (by decide)
    refine lv_astore_n (lv' := [(2, .ref (zq_r X (zq_r X p2 9) (x107.toNatClampNeg))), (0, .ref p1), (1, .ref p2)]) hx hb dX8_readTown_16 rfl hl (by decide) rfl (fun ls hl => ?_)
    have hO9 : ∀ a, zq_k X a = 7 → a ≠ (zq_r X (zq_r X p2 9) (x107.toNatClampNeg)) → ∀ i, I a i = I a i := fun _ _ _ _ => rfl
    refine lv_aload_n hx hb dX8_readTown_17 rfl (lv_at hl 0 rfl) ?_
    refine lv_aload_n hx hb dX8_readTown_18 rfl (lv_at hl 1 rfl) ?_
    refine lv_iconst (v := 1) hx hb dX8_readTown_19 (by decide +kernel) ?_
    refine W.eq (g2 := F0 m 20 ls [.int (1 : Int32), .ref p1, .ref (zq_r X (zq_r X p2 9) (x107.toNatClampNeg))]) rfl ?_
    refine lv_bipush (v := 6) hx hb dX8_readTown_20 (by decide +kernel) ?_
    refine zq_calli (zq_rV (As := [.int (1 : Int32), .int (6 : Int32)]) (rest := [.ref (zq_r X (zq_r X p2 9) (x107.toNatClampNeg))]) E hZ hM k_p1 (c_X6_takeNumber l X zk (zn) I L p1 k_p1 (1 : Int32) (6 : Int32)) zmX8_90 zM_X6_takeNumber (hro (1) 4 (by first | decide | omega) (by decide)) ⟨by decide, by decide⟩ rfl hl.1 rfl rfl (Nat.le_of_ble_eq_true rfl) dX8_readTown_22) hS (fun x110 I111 H locs h109 hM hS => ?_)
    obtain ⟨fr112, p113, p114⟩ := h109
    have := zl_1
    have := zl_6
    have hR := zq_fr.call hR fr112 (zf_sub (by decide +kernel) (fun _ _ q => q.elim))
    have hW115 := zW.frL q_0 L k_p2 fr112 rfl rfl
    have hS0116 := zS0.fr q_1 L k_p2 fr112 rfl
    have hO117 := fun a (hk : zq_k X a = 7) ha i => zq_fr.kp fr112 (zf_n hk rfl) (hO9 a hk ha i)
    refine zq_pn E hM hS k108 (zGX8_135 E hZ) ⟨by decide, by decide, by decide, rfl⟩ (show (-1) ≤ x110.toInt ∧ x110.toInt ≤ 6 from ⟨by omega, by omega⟩) dX8_readTown_25 (fun I118 H locs eI118 hM hS => ?_)
    have hR := zq_fr.putE hR eI118 (zf_iw k108 rfl (((zq_own_a L.2.1 k106 (n := 4) (zq_inn (i := x107) (n := 4) ⟨by omega, by omega⟩) (by decide)).trans (((L.2.1 _ _ _ k_p2 (by decide) rfl).trans ((rfl : zq_o X p2 = zq_o X p2)))))))
    have hW119 := zW.put hW115 L k_p2 eI118 k108 (Or.inr (Or.inl ⟨rfl, by decide⟩))
    have hS0120 := zS0.put hS0116 L k_p2 eI118 k108 (Or.inr (by decide))
    have hO121 := fun a hk ha i => zq_kp eI118 (Or.inl ha) (hO117 a hk ha i)
    have : (I118 p1 9).toInt = (I111 p1 9).toInt := congrArg Int32.toInt (by rw [eI118]; exact zq_up_a (zq_kne k_p1 k108 (by decide)))
    refine lv_aload_n hx hb dX8_readTown_28 rfl (lv_at hl 0 rfl) ?_
    refine lv_aload_n hx hb dX8_readTown_29 rfl (lv_at hl 1 rfl) ?_
    refine lv_iconst (v := 0) hx hb dX8_readTown_30 (by decide +kernel) ?_
    refine lv_bipush (v := 60) hx hb dX8_readTown_31 (by decide +kernel) ?_
    refine zq_calli (zq_rV (As := [.int (0 : Int32), .int (60 : Int32)]) (rest := [.ref (zq_r X (zq_r X p2 9) (x107.toNatClampNeg))]) E hZ hM k_p1 (c_X6_takeNumber l X zk (zn) I118 L p1 k_p1 (0 : Int32) (60 : Int32)) zmX8_90 zM_X6_takeNumber (hro (1) 4 (by first | decide | omega) (by decide)) ⟨by decide, by decide⟩ rfl hl.1 rfl rfl (Nat.le_of_ble_eq_true rfl) dX8_readTown_33) hS (fun x123 I124 H locs h122 hM hS => ?_)
    obtain ⟨fr125, p126, p127⟩ := h122
    have := zl_0
    have := zl_60
    have hR := zq_fr.call hR fr125 (zf_sub (by decide +kernel) (fun _ _ q => q.elim))
    have hW128 := zW.frL hW119 L k_p2 fr125 rfl rfl
    have hS0129 := zS0.fr hS0120 L k_p2 fr125 rfl
    have hO130 := fun a (hk : zq_k X a = 7) ha i => zq_fr.kp fr125 (zf_n hk rfl) (hO121 a hk ha i)
    refine zq_pn E hM hS k108 (zGX8_140 E hZ) ⟨by decide, by decide, by decide, rfl⟩ (show (-1) ≤ x123.toInt ∧ x123.toInt ≤ 60 from ⟨by omega, by omega⟩) dX8_readTown_36 (fun I131 H locs eI131 hM hS => ?_)
    have hR := zq_fr.putE hR eI131 (zf_iw k108 rfl (((zq_own_a L.2.1 k106 (n := 4) (zq_inn (i := x107) (n := 4) ⟨by omega, by omega⟩) (by decide)).trans (((L.2.1 _ _ _ k_p2 (by decide) rfl).trans ((rfl : zq_o X p2 = zq_o X p2)))))))
    have hS0133 := zS0.put hS0129 L k_p2 eI131 k108 (Or.inr (by decide))
    have hO134 := fun a hk ha i => zq_kp eI131 (Or.inl ha) (hO130 a hk ha i)
    have : (I131 p1 9).toInt = (I124 p1 9).toInt := congrArg Int32.toInt (by rw [eI131]; exact zq_up_a (zq_kne k_p1 k108 (by decide)))
    refine lv_aload_n hx hb dX8_readTown_39 rfl (lv_at hl 0 rfl) ?_
    refine W.eq (g2 := F0 m 40 ls [.ref (zq_r X (zq_r X p2 9) (x107.toNatClampNeg))]) rfl ?_
    refine lv_aload_n hx hb dX8_readTown_40 rfl (lv_at hl 1 rfl) ?_
    refine lv_iconst (v := 0) hx hb dX8_readTown_41 (by decide +kernel) ?_
    refine lv_bipush (v := 99) hx hb dX8_readTown_42 (by decide +kernel) ?_
    refine zq_calli (zq_rV (As := [.int (0 : Int32), .int (99 : Int32)]) (rest := [.ref (zq_r X (zq_r X p2 9) (x107.toNatClampNeg))]) E hZ hM k_p1 (c_X6_takeNumber l X zk (zn) I131 L p1 k_p1 (0 : Int32) (99 : Int32)) zmX8_90 zM_X6_takeNumber (hro (1) 4 (by first | decide | omega) (by decide)) ⟨by decide, by decide⟩ rfl hl.1 rfl rfl (Nat.le_of_ble_eq_true rfl) dX8_readTown_44) hS (fun x136 I137 H locs h135 hM hS => ?_)
    obtain ⟨fr138, p139, p140⟩ := h135
    have := zl_0
    have := zl_99
    have hR := zq_fr.call hR fr138 (zf_sub (by decide +kernel) (fun _ _ q => q.elim))
    have hS0141 := zS0.fr hS0133 L k_p2 fr138 rfl
    have hO142 := fun a (hk : zq_k X a = 7) ha i => zq_fr.kp fr138 (zf_n hk rfl) (hO134 a hk ha i)
    refine zq_pn E hM hS k108 (zGX8_143 E hZ) ⟨by decide, by decide, by decide, rfl⟩ (show (-1) ≤ x136.toInt ∧ x136.toInt ≤ 99 from ⟨by omega, by omega⟩) dX8_readTown_47 (fun I143 H locs eI143 hM hS => ?_)
    have hR := zq_fr.putE hR eI143 (zf_iw k108 rfl (((zq_own_a L.2.1 k106 (n := 4) (zq_inn (i := x107) (n := 4) ⟨by omega, by omega⟩) (by decide)).trans (((L.2.1 _ _ _ k_p2 (by decide) rfl).trans ((rfl : zq_o X p2 = zq_o X p2)))))))
    have hS0144 := zS0.put hS0141 L k_p2 eI143 k108 (Or.inr (by decide))
    have hO145 := fun a hk ha i => zq_kp eI143 (Or.inl ha) (hO142 a hk ha i)
    have : (I143 p1 9).toInt = (I137 p1 9).toInt := congrArg Int32.toInt (by rw [eI143]; exact zq_up_a (zq_kne k_p1 k108 (by decide)))
    refine lv_aload_n hx hb dX8_readTown_50 rfl (lv_at hl 0 rfl) ?_
    refine lv_aload_n hx hb dX8_readTown_51 rfl (lv_at hl 1 rfl) ?_
    refine lv_iconst (v := 1) hx hb dX8_readTown_52 (by decide +kernel) ?_
    refine lv_bipush (v := 99) hx hb dX8_readTown_53 (by decide +kernel) ?_
    refine zq_calli (zq_rV (As := [.int (1 : Int32), .int (99 : Int32)]) (rest := [.ref (zq_r X (zq_r X p2 9) (x107.toNatClampNeg))]) E hZ hM k_p1 (c_X6_takeNumber l X zk (zn) I143 L p1 k_p1 (1 : Int32) (99 : Int32)) zmX8_90 zM_X6_takeNumber (hro (1) 4 (by first | decide | omega) (by decide)) ⟨by decide, by decide⟩ rfl hl.1 rfl rfl (Nat.le_of_ble_eq_true rfl) dX8_readTown_55) hS (fun x147 I148 H locs h146 hM hS => ?_)
    obtain ⟨fr149, p150, p151⟩ := h146
    have := zl_1
    have := zl_99
    have hR := zq_fr.call hR fr149 (zf_sub (by decide +kernel) (fun _ _ q => q.elim))
    have hS0152 := zS0.fr hS0144 L k_p2 fr149 rfl
    have hO153 := fun a (hk : zq_k X a = 7) ha i => zq_fr.kp fr149 (zf_n hk rfl) (hO145 a hk ha i)
    refine W.eq (g2 := F0 m 58 ls [.int x147, .ref (zq_r X (zq_r X p2 9) (x107.toNatClampNeg))]) rfl ?_
    refine zq_pn E hM hS k108 (zGX8_146 E hZ) ⟨by decide, by decide, by decide, rfl⟩ (show (-1) ≤ x147.toInt ∧ x147.toInt ≤ 99 from ⟨by omega, by omega⟩) dX8_readTown_58 (fun I154 H locs eI154 hM hS => ?_)
    have hR := zq_fr.putE hR eI154 (zf_iw k108 rfl (((zq_own_a L.2.1 k106 (n := 4) (zq_inn (i := x107) (n := 4) ⟨by omega, by omega⟩) (by decide)).trans (((L.2.1 _ _ _ k_p2 (by decide) rfl).trans ((rfl : zq_o X p2 = zq_o X p2)))))))
    have hS0155 := zS0.put hS0152 L k_p2 eI154 k108 (Or.inr (by decide))
    have hO156 := fun a hk ha i => zq_kp eI154 (Or.inl ha) (hO153 a hk ha i)
    have : (I154 p1 9).toInt = (I148 p1 9).toInt := congrArg Int32.toInt (by rw [eI154]; exact zq_up_a (zq_kne k_p1 k108 (by decide)))
    refine lv_aload_n hx hb dX8_readTown_61 rfl (lv_at hl 2 rfl) ?_
    refine lv_dup hx hb dX8_readTown_62 rfl ?_
    refine zq_gk (v := x107) E hM k_p2 (zFX8_132 E hZ) (Or.inl ⟨by decide, by decide, by decide, rfl⟩) (zq_kp eI154 (Or.inl (zq_kne k_p2 k108 (by decide))) (zq_fr.kp fr149 (zf_n k_p2 rfl) (zq_kp eI143 (Or.inl (zq_kne k_p2 k108 (by decide))) (zq_fr.kp fr138 (zf_n k_p2 rfl) (zq_kp eI131 (Or.inl (zq_kne k_p2 k108 (by decide))) (zq_fr.kp fr125 (zf_n k_p2 rfl) (zq_kp eI118 (Or.inl (zq_kne k_p2 k108 (by decide))) (zq_fr.kp fr112 (zf_n k_p2 rfl) ex107)))))))) dX8_readTown_63 ?_
    refine lv_iconst (v := 1) hx hb dX8_readTown_66 (by decide +kernel) ?_
    refine lv_iadd hx hb dX8_readTown_67 ?_
    refine lv_topi (fun x157 ex157 => ?_)
    have tx157 := zi_add ex157 (rfl : x107.toInt = x107.toInt) (zl_1 : (1 : Int32).toInt = 1) ⟨by omega, by omega⟩
    refine zq_pn E hM hS k_p2 (zGX8_132 E hZ) ⟨by decide, by decide, by decide, rfl⟩ (show 0 ≤ x157.toInt ∧ x157.toInt ≤ 4 from ⟨by omega, by omega⟩) dX8_readTown_68 (fun I158 H locs eI158 hM hS => ?_)
    have hR := zq_fr.putE hR eI158 (zf_iw k_p2 rfl ((rfl : zq_o X p2 = zq_o X p2)))
    have hS0159 := zS0.put hS0155 L k_p2 eI158 k_p2 (Or.inl (by decide))
    have hO160 := fun a hk ha i => zq_kp eI158 (Or.inl (zq_kne hk k_p2 (by decide))) (hO156 a hk ha i)
    have : (I158 p1 9).toInt = (I154 p1 9).toInt := congrArg Int32.toInt (by rw [eI158]; exact zq_up_a (zq_kne k_p1 k_p2 (by decide)))
    subst hQ
    exact zq_vret E hr hZ hM hS ⟨hR, (hS0159), (fun hh => zW.addT q_0 ex107 (zq_kv eI158) ⟨by omega, by omega⟩ (by omega) L k_p2 hO160 ⟨by rw [(zq_kp eI158 (Or.inl (zq_kne k108 k_p2 (by decide))) (zq_kp eI154 (Or.inr (by decide)) (zq_fr.kp fr149 (zf_n k108 rfl) (zq_kp eI143 (Or.inr (by decide)) (zq_fr.kp fr138 (zf_n k108 rfl) (zq_kv eI131))))))]; omega, by rw [(zq_kp eI158 (Or.inl (zq_kne k108 k_p2 (by decide))) (zq_kp eI154 (Or.inr (by decide)) (zq_fr.kp fr149 (zf_n k108 rfl) (zq_kv eI143))))]; omega, by rw [(zq_kp eI158 (Or.inl (zq_kne k108 k_p2 (by decide))) (zq_kv eI154))]; omega, by have := hS0159 _ (zq_inn (i := x107) (n := 4) ⟨by omega, by omega⟩); omega⟩)⟩ hlocks dX8_readTown_71
def zw_X8_readHouse : List (Nat × Nat) := [(6, 8), (6, 9), (7, 5)]
set_option maxHeartbeats 8000000 in
set_option maxRecDepth 100000 in
theorem c_X8_readHouse (l : Launch) (X : zq_X) (zk zn : Nat) (I : zq_M) (L : zq_L X)  (p1 : Nat) (k_p1 : zq_k X p1 = 6) (p2 : Nat) (k_p2 : zq_k X p2 = 8) (q_0 : zW X I 0 p2) (q_1 : zS0 X I p2) : Met l yX8_readHouse (zt_w yX8_readHouse cX8_readHouse 3 none) (zq_rm (2)) (va_Pc [.ref p1, .ref p2] (zq_W X (zk, zn) I)) (va_Qv (fun I2 => zq_fr (zf X zw_X8_readHouse (fun b => zq_o X b = zq_o X p2)) I I2 ∧ (zS0 X I2 p2) ∧ (zW X I2 0 p2)) (zq_E X (zk, zn)) (zq_A X)) 0 0 (zq_A X) := by
  refine Met.ofW (cc := cX8_readHouse) (maxL := 3) (ret := none) (by decide) rfl ?_
  intro p e s m args below meth c s₁ B hml hv
  obtain ⟨hargs, hM, hZ⟩ := hv
  have hown : s.vm.findClass RX8 = some m.cls := findClass_of_methodNamed B.named
  have hts := atoms_spec (ws := zt_w yX8_readHouse cX8_readHouse 3 none) B.pre
  have E : CallFix p m c cX8_readHouse 3 s args (Cond.code yX8_readHouse cX8_readHouse 3 none :: zt) RX8 := ⟨B.exec, B.bytes, hml, hown, hts⟩
  have hx := B.exec
  have hb := B.bytes
  have hr := B.returns
  have hlocks := B.notSynchronized
  clear B
  have hS : va_S (zq_A X) s.heap s.heap [] := va_S.rf
  have hR : zq_fr (zf X zw_X8_readHouse (fun b => zq_o X b = zq_o X p2)) I I := zq_fr.rf
  have hl := lv_entry ([.ref p1, .ref p2]) (n := 3) (by exact Nat.le_of_ble_eq_true rfl)
  have hg : entryFrame m args 3 = F0 m 0 ((lg_sl ([.ref p1, .ref p2]) ++ List.replicate (3 - (lg_sl ([.ref p1, .ref p2])).length) Slot.unset).toArray) [] := by rw [hargs]; exact lg_entry_eq m ([.ref p1, .ref p2]) 3
  rw [hg]
  clear hg hargs
  generalize (lg_sl ([.ref p1, .ref p2]) ++ List.replicate (3 - (lg_sl ([.ref p1, .ref p2])).length) Slot.unset).toArray = ls at hl ⊢
  have hl : lv_has ls 3 [(0, .ref p1), (1, .ref p2)] := by exact hl
  obtain ⟨R, hRm⟩ : ∃ R : Room, R = (headSpec (zt_w yX8_readHouse cX8_readHouse 3 none) (zq_rm (2))).room := ⟨_, rfl⟩
  rw [← hRm]
  have hro : ∀ d q : Nat, d + 1 ≤ 2 → q ≤ 45 → zq_rok d q R := fun d q h1 h2 => by rw [hRm]; exact zq_rokI h1 h2
  generalize hQ : MQ below _ args s 0 0 (zq_A X) = Q
  obtain ⟨H, hH⟩ : ∃ H, H = s.heap := ⟨_, rfl⟩
  obtain ⟨locs, hlo⟩ : ∃ x : List Loc, x = [] := ⟨_, rfl⟩
  rw [show W p l e R s m args below meth c s.heap [] 0 0 Q = W p l e R s m args below meth c H locs 0 0 Q by rw [hH, hlo]]
  have hM : zq_hm X (zk, zn) I H := by rw [hH]; exact hM
  have hS : va_S (zq_A X) s.heap H locs := by rw [hH, hlo]; exact hS
  clear hH hlo
  refine lv_aload_n hx hb dX8_readHouse_0 rfl (lv_at hl 0 rfl) ?_
  refine lv_iconst (v := 0) hx hb dX8_readHouse_1 (by decide +kernel) ?_
  refine lv_aload_n hx hb dX8_readHouse_2 rfl (lv_at hl 1 rfl) ?_
  refine zq_gn E hM k_p2 (zFX8_132 E hZ) (Or.inl ⟨by decide, by decide, by decide, rfl⟩) dX8_readHouse_3 (fun x101 ex101 gx101 => ?_)
  replace gx101 : 0 ≤ x101.toInt ∧ x101.toInt ≤ 4 := gx101
  refine lv_iconst (v := 1) hx hb dX8_readHouse_6 (by decide +kernel) ?_
  refine lv_isub hx hb dX8_readHouse_7 ?_
  refine lv_topi (fun x102 ex102 => ?_)
  have tx102 := zi_sub ex102 (rfl : x101.toInt = x101.toInt) (zl_1 : (1 : Int32).toInt = 1) ⟨by omega, by omega⟩
  refine zq_calli (zq_rV (As := [.int (0 : Int32), .int x102]) (rest := []) E hZ hM k_p1 (c_X6_takeNumber l X zk (zn) I L p1 k_p1 (0 : Int32) x102) zmX8_90 zM_X6_takeNumber (hro (1) 4 (by first | decide | omega) (by decide)) ⟨by decide, by decide⟩ rfl hl.1 rfl rfl (Nat.le_of_ble_eq_true rfl) dX8_readHouse_8) hS (fun x104 I105 H locs h103 hM hS => ?_)
  obtain ⟨fr106, p107, p108⟩ := h103
  have := zl_0
  have hR := zq_fr.call hR fr106 (zf_sub (by decide +kernel) (fun _ _ q => q.elim))
  have hW109 := zW.frL q_0 L k_p2 fr106 rfl rfl
  have hS0110 := zS0.fr q_1 L k_p2 fr106 rfl
  refine lv_istore_n (lv' := [(2, .int x104), (0, .ref p1), (1, .ref p2)]) hx hb dX8_readHouse_11 rfl hl (by decide) rfl (fun ls hl => ?_)
  refine lv_aload_n hx hb dX8_readHouse_12 rfl (lv_at hl 2 rfl) ?_
  refine W.eq (g2 := F0 m 13 ls [.ref p2]) rfl ?_
  refine lv_iload_n hx hb dX8_readHouse_13 rfl (lv_at hl 0 rfl) ?_
  refine zq_pcalli (zq_rV (As := [.int x104]) (rest := []) E hZ hM k_p2 (c_X10_hasTown l X zk (zn) I105 L p2 k_p2 x104) zmX8_149 zM_X10_hasTown (hro (0) 2 (by first | decide | omega) (by decide)) ⟨by decide, by decide⟩ rfl hl.1 rfl rfl (Nat.le_of_ble_eq_true rfl) dX8_readHouse_14) hS (fun x112 H locs h111 hM hS => ?_)
  obtain ⟨p113, p114, p115⟩ := h111
  refine lv_if_eq (tgt := 30) hx hb dX8_readHouse_17 (by decide) (fun b116 => ?_) (fun b116 => ?_)
  · have b116 := zi_eq b116 (rfl : x112.toInt = x112.toInt) (zl_0 : (0 : Int32).toInt = 0)
    subst hQ
    exact zq_vret E hr hZ hM hS ⟨hR, (hS0110), (hW109)⟩ hlocks dX8_readHouse_30
  · have b116 := zi_ne b116 (rfl : x112.toInt = x112.toInt) (zl_0 : (0 : Int32).toInt = 0)
    refine lv_aload_n hx hb dX8_readHouse_20 rfl (lv_at hl 2 rfl) ?_
    refine zq_getr E hM k_p2 (zFX8_128 E hZ) ⟨by decide, by decide, by decide, rfl⟩ dX8_readHouse_21 ?_
    have k117 : zq_k X (zq_r X p2 9) = 32 := zq_lk L.1 k_p2 rfl (by decide)
    refine lv_iload_n hx hb dX8_readHouse_24 rfl (lv_at hl 0 rfl) ?_
    refine zq_rald (n := 4) (t := 8) (j := (x104.toNatClampNeg)) E hZ hM k117 ⟨by decide, rfl⟩ ⟨rfl, by decide, by decide⟩ ⟨by omega, by omega⟩ rfl dX8_readHouse_25 ?_
    have k118 : zq_k X (zq_r X (zq_r X p2 9) (x104.toNatClampNeg)) = 7 := zq_lay_a L.1 k117 (n := 4) (zq_inn (i := x104) (n := 4) ⟨by omega, by omega⟩) (by decide) (by decide)
    refine lv_iconst (v := 1) hx hb dX8_readHouse_26 (by decide +kernel) ?_
    refine zq_pz E hM hS k118 (zGX8_152 E hZ) ⟨by decide, by decide, by decide, rfl⟩ (show 0 ≤ (1 : Int32).toInt ∧ (1 : Int32).toInt ≤ 1 by decide +kernel) rfl dX8_readHouse_27 (fun I119 H locs eI119 hM hS => ?_)
    have hR := zq_fr.putE hR eI119 (zf_iw k118 rfl (((zq_own_a L.2.1 k117 (n := 4) (zq_inn (i := x104) (n := 4) ⟨by omega, by omega⟩) (by decide)).trans (((L.2.1 _ _ _ k_p2 (by decide) rfl).trans ((rfl : zq_o X p2 = zq_o X p2)))))))
    have hW120 := zW.put hW109 L k_p2 eI119 k118 (Or.inr (Or.inl ⟨rfl, by decide⟩))
    have hS0121 := zS0.put hS0110 L k_p2 eI119 k118 (Or.inr (by decide))
    subst hQ
    exact zq_vret E hr hZ hM hS ⟨hR, (hS0121), (hW120)⟩ hlocks dX8_readHouse_30
def zw_X8_readClause : List (Nat × Nat) := [(5, 0), (5, 1), (6, 8), (6, 9), (7, 0), (7, 1), (7, 2), (7, 3), (7, 5), (8, 1), (8, 2), (8, 3), (8, 5), (8, 6), (30, 999)]
set_option maxHeartbeats 8000000 in
set_option maxRecDepth 100000 in
theorem c_X8_readClause (l : Launch) (X : zq_X) (zk zn : Nat) (I : zq_M) (L : zq_L X)  (p1 : Nat) (k_p1 : zq_k X p1 = 6) (p2 : Nat) (k_p2 : zq_k X p2 = 8) (q_0 : zW X I 0 p2) (q_1 : zS0 X I p2) : Met l yX8_readClause (zt_w yX8_readClause cX8_readClause 3 (some .boolean)) (zq_rm (3)) (va_Pc [.ref p1, .ref p2] (zq_W X (zk, zn) I)) (va_Qi (fun (r : Int32) I2 => zq_fr (zf X zw_X8_readClause (fun b => zq_o X b = zq_o X p2)) I I2 ∧ (zS0 X I2 p2) ∧ (r.toInt = 0 ∨ zW X I2 0 p2) ∧ (0 ≤ r.toInt ∧ r.toInt ≤ 1)) (zq_E X (zk, zn)) (zq_A X)) 0 0 (zq_A X) := by
  refine Met.ofW (cc := cX8_readClause) (maxL := 3) (ret := (some .boolean)) (by decide) rfl ?_
  intro p e s m args below meth c s₁ B hml hv
  obtain ⟨hargs, hM, hZ⟩ := hv
  have hown : s.vm.findClass RX8 = some m.cls := findClass_of_methodNamed B.named
  have hts := atoms_spec (ws := zt_w yX8_readClause cX8_readClause 3 (some .boolean)) B.pre
  have E : CallFix p m c cX8_readClause 3 s args (Cond.code yX8_readClause cX8_readClause 3 (some .boolean) :: zt) RX8 := ⟨B.exec, B.bytes, hml, hown, hts⟩
  have hx := B.exec
  have hb := B.bytes
  have hr := B.returns
  have hlocks := B.notSynchronized
  clear B
  have hS : va_S (zq_A X) s.heap s.heap [] := va_S.rf
  have hR : zq_fr (zf X zw_X8_readClause (fun b => zq_o X b = zq_o X p2)) I I := zq_fr.rf
  have hl := lv_entry ([.ref p1, .ref p2]) (n := 3) (by exact Nat.le_of_ble_eq_true rfl)
  have hg : entryFrame m args 3 = F0 m 0 ((lg_sl ([.ref p1, .ref p2]) ++ List.replicate (3 - (lg_sl ([.ref p1, .ref p2])).length) Slot.unset).toArray) [] := by rw [hargs]; exact lg_entry_eq m ([.ref p1, .ref p2]) 3
  rw [hg]
  clear hg hargs
  generalize (lg_sl ([.ref p1, .ref p2]) ++ List.replicate (3 - (lg_sl ([.ref p1, .ref p2])).length) Slot.unset).toArray = ls at hl ⊢
  have hl : lv_has ls 3 [(0, .ref p1), (1, .ref p2)] := by exact hl
  obtain ⟨R, hRm⟩ : ∃ R : Room, R = (headSpec (zt_w yX8_readClause cX8_readClause 3 (some .boolean)) (zq_rm (3))).room := ⟨_, rfl⟩
  rw [← hRm]
  have hro : ∀ d q : Nat, d + 1 ≤ 3 → q ≤ 45 → zq_rok d q R := fun d q h1 h2 => by rw [hRm]; exact zq_rokI h1 h2
  generalize hQ : MQ below _ args s 0 0 (zq_A X) = Q
  obtain ⟨H, hH⟩ : ∃ H, H = s.heap := ⟨_, rfl⟩
  obtain ⟨locs, hlo⟩ : ∃ x : List Loc, x = [] := ⟨_, rfl⟩
  rw [show W p l e R s m args below meth c s.heap [] 0 0 Q = W p l e R s m args below meth c H locs 0 0 Q by rw [hH, hlo]]
  have hM : zq_hm X (zk, zn) I H := by rw [hH]; exact hM
  have hS : va_S (zq_A X) s.heap H locs := by rw [hH, hlo]; exact hS
  clear hH hlo
  refine lv_aload_n hx hb dX8_readClause_0 rfl (lv_at hl 0 rfl) ?_
  refine zq_callr (zq_rV (As := []) (rest := []) E hZ hM k_p1 (c_X6_word l X zk (zn) I L p1 k_p1) zmX8_38 zM_X6_word (hro (0) 1 (by first | decide | omega) (by decide)) ⟨by decide, by decide⟩ rfl hl.1 rfl rfl (Nat.le_of_ble_eq_true rfl) dX8_readClause_1) hS (fun y102 I103 H locs h101 ky102 hM hS => ?_)
  obtain ⟨fr104, p105⟩ := h101
  rw [fr104] at hM
  refine lv_astore_n (lv' := [(2, .ref y102), (0, .ref p1), (1, .ref p2)]) hx hb dX8_readClause_4 rfl hl (by decide) rfl (fun ls hl => ?_)
  refine lv_aload_n hx hb dX8_readClause_5 rfl (lv_at hl 1 rfl) ?_
  refine zq_callv (zq_rV (As := []) (rest := []) E hZ hM k_p1 (c_X6_advance l X zk (zn) I L p1 k_p1) zmX8_67 zM_X6_advance (hro (0) 1 (by first | decide | omega) (by decide)) ⟨by decide, by decide⟩ rfl hl.1 rfl rfl (Nat.le_of_ble_eq_true rfl) dX8_readClause_6) hS (fun I108 H locs h106 hM hS => ?_)
  have fr109 := h106
  have hR := zq_fr.call hR fr109 (zf_sub (by decide +kernel) (fun _ _ q => q.elim))
  have hW110 := zW.frL q_0 L k_p2 fr109 rfl rfl
  have hS0111 := zS0.fr q_1 L k_p2 fr109 rfl
  refine lv_aload_n hx hb dX8_readClause_9 rfl (lv_at hl 0 rfl) ?_
  refine zq_getw (nm := "TRADE") E hZ hM (by decide) (List.mem_cons_of_mem _ zLX8_42) dX8_readClause_10 (fun w112 kw112 => ?_)
  have J74 : ∀ (I159 : zq_M) (H : Heap) (locs : List Loc) (ls : Array Slot), (zq_hm X (zk, zn) I159 H) → (va_S (zq_A X) s.heap H locs) → (zq_fr (zf X zw_X8_readClause (fun b => zq_o X b = zq_o X p2)) I I159) → (zS0 X I159 p2) → ((I159 p1 9).toInt = 0 → zW X I159 0 p2) → (lv_has ls 3 [(2, .ref y102), (0, .ref p1), (1, .ref p2)]) → W p l e R s m args below meth c H locs 0 0 Q (F0 m 74 ls []) := by
    intro I159 H locs ls hM hS hR F160 F161 hl
    refine lv_aload_n hx hb dX8_readClause_74 rfl (lv_at hl 1 rfl) ?_
    refine zq_gn E hM k_p1 (zFX8_86 E hZ) (Or.inl ⟨by decide, by decide, by decide, rfl⟩) dX8_readClause_75 (fun x163 ex163 gx163 => ?_)
    clear gx163
    refine lv_if_ne (tgt := 85) hx hb dX8_readClause_78 (by decide) (fun b164 => ?_) (fun b164 => ?_)
    · have b164 := zi_ne b164 (rfl : x163.toInt = x163.toInt) (zl_0 : (0 : Int32).toInt = 0)
      refine lv_iconst (v := 0) hx hb dX8_readClause_85 (by decide +kernel) ?_
      subst hQ
      exact zq_zret E hr hZ hM hS (show 0 ≤ (0 : Int32).toInt ∧ (0 : Int32).toInt ≤ 1 by decide +kernel) ⟨hR, (F160), (Or.inl (by have := zl_0; omega)), (by have := zl_0; omega)⟩ hlocks dX8_readClause_86
    · have b164 := zi_eq b164 (rfl : x163.toInt = x163.toInt) (zl_0 : (0 : Int32).toInt = 0)
      refine lv_iconst (v := 1) hx hb dX8_readClause_81 (by decide +kernel) ?_
      refine lv_goto (tgt := 86) hx hb dX8_readClause_82 (by decide) ?_
      subst hQ
      exact zq_zret E hr hZ hM hS (show 0 ≤ (1 : Int32).toInt ∧ (1 : Int32).toInt ≤ 1 by decide +kernel) ⟨hR, (F160), (Or.inr (F161 (by rw [ex163]; omega))), (by have := zl_1; omega)⟩ hlocks dX8_readClause_86
  refine lv_acmp_ne (rx := some y102) (ry := some w112) (tgt := 24) hx hb dX8_readClause_13 (by decide) (fun b165 => ?_) (fun b165 => ?_)
  · clear b165
    refine lv_aload_n hx hb dX8_readClause_24 rfl (lv_at hl 0 rfl) ?_
    refine zq_getw (nm := "FROST") E hZ hM (by decide) (List.mem_cons_of_mem _ zLX8_48) dX8_readClause_25 (fun w166 kw166 => ?_)
    refine lv_acmp_ne (rx := some y102) (ry := some w166) (tgt := 39) hx hb dX8_readClause_28 (by decide) (fun b167 => ?_) (fun b167 => ?_)
    · clear b167
      refine lv_aload_n hx hb dX8_readClause_39 rfl (lv_at hl 0 rfl) ?_
      refine zq_getw (nm := "SHIP") E hZ hM (by decide) (List.mem_cons_of_mem _ zLX8_51) dX8_readClause_40 (fun w168 kw168 => ?_)
      refine lv_acmp_ne (rx := some y102) (ry := some w168) (tgt := 54) hx hb dX8_readClause_43 (by decide) (fun b169 => ?_) (fun b169 => ?_)
      · clear b169
        refine lv_aload_n hx hb dX8_readClause_54 rfl (lv_at hl 0 rfl) ?_
        refine zq_getw (nm := "TOWN") E hZ hM (by decide) (List.mem_cons_of_mem _ zLX8_54) dX8_readClause_55 (fun w170 kw170 => ?_)
        refine lv_acmp_ne (rx := some y102) (ry := some w170) (tgt := 69) hx hb dX8_readClause_58 (by decide) (fun b171 => ?_) (fun b171 => ?_)
        · clear b171
          refine lv_aload_n hx hb dX8_readClause_69 rfl (lv_at hl 1 rfl) ?_
          refine lv_aload_n hx hb dX8_readClause_70 rfl (lv_at hl 2 rfl) ?_
          refine zq_callv (zq_rS (As := [.ref p1, .ref p2]) (rest := []) E hZ hM (c_X8_readHouse l X zk (zn) I108 L p1 k_p1 p2 k_p2 (hW110) (hS0111)) zmX8_83 zM_X8_readHouse (hro (2) 3 (by first | decide | omega) (by decide)) hl.1 rfl rfl (Nat.le_of_ble_eq_true rfl) dX8_readClause_71) hS (fun I174 H locs h172 hM hS => ?_)
          obtain ⟨fr175, p176, p177⟩ := h172
          have hR := zq_fr.call hR fr175 (zf_sub (by decide +kernel) (fun b _ q => q))
          have hW178 := zW.frL hW110 L k_p2 fr175 rfl rfl
          have hS0179 := zS0.fr hS0111 L k_p2 fr175 rfl
          have hZ9 : (I174 p1 9).toInt = 0 → zW X I174 0 p2 := fun _ => p177
          exact J74 I174 H locs ls hM hS hR p176 hZ9 (lv_sub hl [0, 1, 2] rfl)
        · clear b171
          refine lv_aload_n hx hb dX8_readClause_61 rfl (lv_at hl 1 rfl) ?_
          refine lv_aload_n hx hb dX8_readClause_62 rfl (lv_at hl 2 rfl) ?_
          refine zq_callv (zq_rS (As := [.ref p1, .ref p2]) (rest := []) E hZ hM (c_X8_readTown l X zk (zn) I108 L p1 k_p1 p2 k_p2 (hW110) (hS0111)) zmX8_80 zM_X8_readTown (hro (2) 3 (by first | decide | omega) (by decide)) hl.1 rfl rfl (Nat.le_of_ble_eq_true rfl) dX8_readClause_63) hS (fun I182 H locs h180 hM hS => ?_)
          obtain ⟨fr183, p184, p185⟩ := h180
          have hR := zq_fr.call hR fr183 (zf_sub (by decide +kernel) (fun b _ q => q))
          have hS0187 := zS0.fr hS0111 L k_p2 fr183 rfl
          refine lv_goto (tgt := 74) hx hb dX8_readClause_66 (by decide) ?_
          exact J74 I182 H locs ls hM hS hR p184 p185 (lv_sub hl [0, 1, 2] rfl)
      · clear b169
        refine lv_aload_n hx hb dX8_readClause_46 rfl (lv_at hl 1 rfl) ?_
        refine lv_aload_n hx hb dX8_readClause_47 rfl (lv_at hl 2 rfl) ?_
        refine zq_callv (zq_rS (As := [.ref p1, .ref p2]) (rest := []) E hZ hM (c_X8_readShip l X zk (zn) I108 L p1 k_p1 p2 k_p2 (hW110) (hS0111)) zmX8_77 zM_X8_readShip (hro (2) 3 (by first | decide | omega) (by decide)) hl.1 rfl rfl (Nat.le_of_ble_eq_true rfl) dX8_readClause_48) hS (fun I190 H locs h188 hM hS => ?_)
        obtain ⟨fr191, p192, p193⟩ := h188
        have hR := zq_fr.call hR fr191 (zf_sub (by decide +kernel) (fun b _ q => q))
        have hW194 := zW.frL hW110 L k_p2 fr191 rfl rfl
        have hS0195 := zS0.fr hS0111 L k_p2 fr191 rfl
        have hZ9 : (I190 p1 9).toInt = 0 → zW X I190 0 p2 := fun _ => p193
        refine lv_goto (tgt := 74) hx hb dX8_readClause_51 (by decide) ?_
        exact J74 I190 H locs ls hM hS hR p192 hZ9 (lv_sub hl [0, 1, 2] rfl)
    · clear b167
      refine lv_aload_n hx hb dX8_readClause_31 rfl (lv_at hl 1 rfl) ?_
      refine lv_aload_n hx hb dX8_readClause_32 rfl (lv_at hl 2 rfl) ?_
      refine zq_callv (zq_rS (As := [.ref p1, .ref p2]) (rest := []) E hZ hM (c_X8_readFrost l X zk (zn) I108 L p1 k_p1 p2 k_p2 (hW110) (hS0111)) zmX8_74 zM_X8_readFrost (hro (2) 4 (by first | decide | omega) (by decide)) hl.1 rfl rfl (Nat.le_of_ble_eq_true rfl) dX8_readClause_33) hS (fun I198 H locs h196 hM hS => ?_)
      obtain ⟨fr199, p200, p201⟩ := h196
      have hR := zq_fr.call hR fr199 (zf_sub (by decide +kernel) (fun b _ q => q))
      have hW202 := zW.frL hW110 L k_p2 fr199 rfl rfl
      have hS0203 := zS0.fr hS0111 L k_p2 fr199 rfl
      have hZ9 : (I198 p1 9).toInt = 0 → zW X I198 0 p2 := fun _ => p201
      refine lv_goto (tgt := 74) hx hb dX8_readClause_36 (by decide) ?_
      exact J74 I198 H locs ls hM hS hR p200 hZ9 (lv_sub hl [0, 1, 2] rfl)
  · clear b165
    refine lv_aload_n hx hb dX8_readClause_16 rfl (lv_at hl 1 rfl) ?_
    refine lv_aload_n hx hb dX8_readClause_17 rfl (lv_at hl 2 rfl) ?_
    refine zq_callv (zq_rS (As := [.ref p1, .ref p2]) (rest := []) E hZ hM (c_X8_readStart l X zk (zn) I108 L p1 k_p1 p2 k_p2 (hW110) (hS0111)) zmX8_70 zM_X8_readStart (hro (2) 2 (by first | decide | omega) (by decide)) hl.1 rfl rfl (Nat.le_of_ble_eq_true rfl) dX8_readClause_18) hS (fun I206 H locs h204 hM hS => ?_)
    obtain ⟨fr207, p208, p209⟩ := h204
    have hR := zq_fr.call hR fr207 (zf_sub (by decide +kernel) (fun b _ q => q))
    have hW210 := zW.frL hW110 L k_p2 fr207 rfl rfl
    have hS0211 := zS0.fr hS0111 L k_p2 fr207 rfl
    have hZ9 : (I206 p1 9).toInt = 0 → zW X I206 0 p2 := fun _ => p209
    refine lv_goto (tgt := 74) hx hb dX8_readClause_21 (by decide) ?_
    exact J74 I206 H locs ls hM hS hR p208 hZ9 (lv_sub hl [0, 1, 2] rfl)
def zw_X8_reads : List (Nat × Nat) := [(5, 0), (5, 1), (6, 7), (6, 8), (6, 9), (7, 0), (7, 1), (7, 2), (7, 3), (7, 5), (8, 0), (8, 1), (8, 2), (8, 3), (8, 5), (8, 6), (22, 999), (30, 999), (43, 999)]
set_option maxHeartbeats 8000000 in
set_option maxRecDepth 100000 in
theorem c_X8_reads (l : Launch) (X : zq_X) (zk zn : Nat) (I : zq_M) (L : zq_L X)  (p1 : Nat) (k_p1 : zq_k X p1 = 6) (p2 : Nat) (k_p2 : zq_k X p2 = 8) (q_0 : zS0 X I p2) : Met l yX8_reads (zt_w yX8_reads cX8_reads 3 (some .boolean)) (zq_rm (7)) (va_Pc [.ref p1, .ref p2] (zq_W X (zk, zn) I)) (va_Qi (fun (r : Int32) I2 => zq_fr (zf X zw_X8_reads (fun b => zq_o X b = zq_o X p2)) I I2 ∧ (zS0 X I2 p2) ∧ (r.toInt = 0 ∨ zW X I2 0 p2) ∧ (0 ≤ r.toInt ∧ r.toInt ≤ 1)) (zq_E X (zk, zn)) (zq_A X)) 0 0 (zq_A X) := by
  refine Met.ofW (cc := cX8_reads) (maxL := 3) (ret := (some .boolean)) (by decide) rfl ?_
  intro p e s m args below meth c s₁ B hml hv
  obtain ⟨hargs, hM, hZ⟩ := hv
  have hown : s.vm.findClass RX8 = some m.cls := findClass_of_methodNamed B.named
  have hts := atoms_spec (ws := zt_w yX8_reads cX8_reads 3 (some .boolean)) B.pre
  have E : CallFix p m c cX8_reads 3 s args (Cond.code yX8_reads cX8_reads 3 (some .boolean) :: zt) RX8 := ⟨B.exec, B.bytes, hml, hown, hts⟩
  have hx := B.exec
  have hb := B.bytes
  have hr := B.returns
  have hlocks := B.notSynchronized
  clear B
  have hS : va_S (zq_A X) s.heap s.heap [] := va_S.rf
  have hR : zq_fr (zf X zw_X8_reads (fun b => zq_o X b = zq_o X p2)) I I := zq_fr.rf
  have hl := lv_entry ([.ref p1, .ref p2]) (n := 3) (by exact Nat.le_of_ble_eq_true rfl)
  have hg : entryFrame m args 3 = F0 m 0 ((lg_sl ([.ref p1, .ref p2]) ++ List.replicate (3 - (lg_sl ([.ref p1, .ref p2])).length) Slot.unset).toArray) [] := by rw [hargs]; exact lg_entry_eq m ([.ref p1, .ref p2]) 3
  rw [hg]
  clear hg hargs
  generalize (lg_sl ([.ref p1, .ref p2]) ++ List.replicate (3 - (lg_sl ([.ref p1, .ref p2])).length) Slot.unset).toArray = ls at hl ⊢
  have hl : lv_has ls 3 [(0, .ref p1), (1, .ref p2)] := by exact hl
  obtain ⟨R, hRm⟩ : ∃ R : Room, R = (headSpec (zt_w yX8_reads cX8_reads 3 (some .boolean)) (zq_rm (7))).room := ⟨_, rfl⟩
  rw [← hRm]
  have hro : ∀ d q : Nat, d + 1 ≤ 7 → q ≤ 45 → zq_rok d q R := fun d q h1 h2 => by rw [hRm]; exact zq_rokI h1 h2
  generalize hQ : MQ below _ args s 0 0 (zq_A X) = Q
  obtain ⟨H, hH⟩ : ∃ H, H = s.heap := ⟨_, rfl⟩
  obtain ⟨locs, hlo⟩ : ∃ x : List Loc, x = [] := ⟨_, rfl⟩
  rw [show W p l e R s m args below meth c s.heap [] 0 0 Q = W p l e R s m args below meth c H locs 0 0 Q by rw [hH, hlo]]
  have hM : zq_hm X (zk, zn) I H := by rw [hH]; exact hM
  have hS : va_S (zq_A X) s.heap H locs := by rw [hH, hlo]; exact hS
  clear hH hlo
  refine lv_aload_n hx hb dX8_reads_0 rfl (lv_at hl 1 rfl) ?_
  refine zq_callv (zq_rV (As := []) (rest := []) E hZ hM k_p2 (c_X10_clear l X zk (zn) I L p2 k_p2) zmX8_7 zM_X10_clear (hro (0) 2 (by first | decide | omega) (by decide)) ⟨by decide, by decide⟩ rfl hl.1 rfl rfl (Nat.le_of_ble_eq_true rfl) dX8_reads_1) hS (fun I103 H locs h101 hM hS => ?_)
  obtain ⟨fr104, p105⟩ := h101
  have hR := zq_fr.call hR fr104 (zf_sub (by decide +kernel) (fun b _ q => q))
  have hS0106 := zS0.fr q_0 L k_p2 fr104 rfl
  have hD9 : zW X I103 0 p2 := zW.none p105
  refine lv_aload_n hx hb dX8_reads_4 rfl (lv_at hl 0 rfl) ?_
  refine zq_callv (zq_rV (As := []) (rest := []) E hZ hM k_p1 (c_X6_split l X zk (zn) I103 L p1 k_p1) zmX8_12 zM_X6_split (hro (6) 4 (by first | decide | omega) (by decide)) ⟨by decide, by decide⟩ rfl hl.1 rfl rfl (Nat.le_of_ble_eq_true rfl) dX8_reads_5) hS (fun I109 H locs h107 hM hS => ?_)
  obtain ⟨fr110, p111⟩ := h107
  have hR := zq_fr.call hR fr110 (zf_sub (by decide +kernel) (fun _ _ q => q.elim))
  have hS0112 := zS0.fr hS0106 L k_p2 fr110 rfl
  have hW113 := zW.frL hD9 L k_p2 fr110 rfl rfl
  refine lv_iconst (v := 0) hx hb dX8_reads_8 (by decide +kernel) ?_
  refine lv_istore_n (lv' := [(2, .int (0 : Int32)), (0, .ref p1), (1, .ref p2)]) hx hb dX8_reads_9 rfl hl (by decide) rfl (fun ls hl => ?_)
  have J10 : ∀ (n264 : Nat) (I261 : zq_M) (H : Heap) (locs : List Loc) (ls : Array Slot) (j260 : Int32), 41 + 1 - j260.toInt ≤ ((n264 : Nat) : Int) → (zq_hm X (zk, zn) I261 H) → (va_S (zq_A X) s.heap H locs) → (zq_fr (zf X zw_X8_reads (fun b => zq_o X b = zq_o X p2)) I I261) → (0 ≤ j260.toInt ∧ j260.toInt ≤ 41) → (zS0 X I261 p2) → (zW X I261 (0) p2) → (lv_has ls 3 [(2, .int j260), (0, .ref p1), (1, .ref p2)]) → W p l e R s m args below meth c H locs 0 0 Q (F0 m 10 ls []) := by
    intro n264
    induction n264 with
    | zero => intro I261 H locs ls j260 mu265 hM hS hR gj260 F262 F263 hl; exfalso; have := zi_rng j260; omega
    | succ n264 ih10 =>
      intro I261 H locs ls j260 mu265 hM hS hR gj260 F262 F263 hl
      refine lv_iload_n hx hb dX8_reads_10 rfl (lv_at hl 0 rfl) ?_
      refine lv_bipush (v := 40) hx hb dX8_reads_11 (by decide +kernel) ?_
      refine lv_icmp_gt (tgt := 62) hx hb dX8_reads_13 (by decide) (fun b266 => ?_) (fun b266 => ?_)
      · have b266 := zi_lt b266 (zl_40 : (40 : Int32).toInt = 40) (rfl : j260.toInt = j260.toInt)
        refine lv_aload_n hx hb dX8_reads_62 rfl (lv_at hl 1 rfl) ?_
        refine lv_iconst (v := 4) hx hb dX8_reads_63 (by decide +kernel) ?_
        refine zq_calli (zq_rV (As := [.int (4 : Int32)]) (rest := []) E hZ hM k_p1 (c_X6_fail l X zk (zn) I261 L p1 k_p1 (4 : Int32) (by rw [zl_4]; decide)) zmX8_35 zM_X6_fail (hro (0) 2 (by first | decide | omega) (by decide)) ⟨by decide, by decide⟩ rfl hl.1 rfl rfl (Nat.le_of_ble_eq_true rfl) dX8_reads_64) hS (fun x268 I269 H locs h267 hM hS => ?_)
        obtain ⟨fr270, p271, p272, p273⟩ := h267
        have := zl_4
        have hR := zq_fr.call hR fr270 (zf_sub (by decide +kernel) (fun _ _ q => q.elim))
        have hS0274 := zS0.fr F262 L k_p2 fr270 rfl
        have hW275 := zW.frL F263 L k_p2 fr270 rfl rfl
        subst hQ
        exact zq_zret E hr hZ hM hS (show 0 ≤ x268.toInt ∧ x268.toInt ≤ 1 from ⟨by omega, by omega⟩) ⟨hR, (hS0274), (Or.inl (by have := zl_0; omega)), (by omega)⟩ hlocks dX8_reads_67
      · have b266 := zi_nlt b266 (zl_40 : (40 : Int32).toInt = 40) (rfl : j260.toInt = j260.toInt)
        refine lv_aload_n hx hb dX8_reads_16 rfl (lv_at hl 1 rfl) ?_
        refine lv_aload_n hx hb dX8_reads_17 rfl (lv_at hl 2 rfl) ?_
        refine lv_iload_n hx hb dX8_reads_18 rfl (lv_at hl 0 rfl) ?_
        refine zq_calli (zq_rS (As := [.ref p1, .ref p2, .int j260]) (rest := []) E hZ hM (c_X8_opens l X zk (zn) I261 L p1 k_p1 p2 k_p2 j260) zmX8_19 zM_X8_opens (hro (1) 4 (by first | decide | omega) (by decide)) hl.1 rfl rfl (Nat.le_of_ble_eq_true rfl) dX8_reads_19) hS (fun x277 I278 H locs h276 hM hS => ?_)
        obtain ⟨fr279, p280⟩ := h276
        have hR := zq_fr.call hR fr279 (zf_sub (by decide +kernel) (fun b _ q => q))
        have hS0281 := zS0.fr F262 L k_p2 fr279 rfl
        have hW282 := zW.frL F263 L k_p2 fr279 rfl rfl
        refine lv_if_eq (tgt := 33) hx hb dX8_reads_22 (by decide) (fun b283 => ?_) (fun b283 => ?_)
        · have b283 := zi_eq b283 (rfl : x277.toInt = x277.toInt) (zl_0 : (0 : Int32).toInt = 0)
          refine lv_iconst (v := 0) hx hb dX8_reads_33 (by decide +kernel) ?_
          subst hQ
          exact zq_zret E hr hZ hM hS (show 0 ≤ (0 : Int32).toInt ∧ (0 : Int32).toInt ≤ 1 by decide +kernel) ⟨hR, (hS0281), (Or.inl (by have := zl_0; omega)), (by have := zl_0; omega)⟩ hlocks dX8_reads_34
        · have b283 := zi_ne b283 (rfl : x277.toInt = x277.toInt) (zl_0 : (0 : Int32).toInt = 0)
          refine lv_aload_n hx hb dX8_reads_25 rfl (lv_at hl 1 rfl) ?_
          refine lv_aload_n hx hb dX8_reads_26 rfl (lv_at hl 2 rfl) ?_
          refine zq_calli (zq_rS (As := [.ref p1, .ref p2]) (rest := []) E hZ hM (c_X8_readClause l X zk (zn) I278 L p1 k_p1 p2 k_p2 (hW282) (hS0281)) zmX8_23 zM_X8_readClause (hro (3) 3 (by first | decide | omega) (by decide)) hl.1 rfl rfl (Nat.le_of_ble_eq_true rfl) dX8_reads_27) hS (fun x285 I286 H locs h284 hM hS => ?_)
          obtain ⟨fr287, p288, p289, p290⟩ := h284
          have hR := zq_fr.call hR fr287 (zf_sub (by decide +kernel) (fun b _ q => q))
          have hS0291 := zS0.fr hS0281 L k_p2 fr287 rfl
          refine lv_if_ne (tgt := 35) hx hb dX8_reads_30 (by decide) (fun b293 => ?_) (fun b293 => ?_)
          · have b293 := zi_ne b293 (rfl : x285.toInt = x285.toInt) (zl_0 : (0 : Int32).toInt = 0)
            have hD294 : zW X I286 0 p2 := p289.resolve_left (by omega)
            refine lv_aload_n hx hb dX8_reads_35 rfl (lv_at hl 1 rfl) ?_
            refine zq_pcalli (zq_rV (As := []) (rest := []) E hZ hM k_p1 (c_X6_kind l X zk (zn) I286 L p1 k_p1) zmX8_27 zM_X6_kind (hro (0) 1 (by first | decide | omega) (by decide)) ⟨by decide, by decide⟩ rfl hl.1 rfl rfl (Nat.le_of_ble_eq_true rfl) dX8_reads_36) hS (fun x296 H locs h295 hM hS => ?_)
            clear h295
            refine lv_iconst (v := (-1)) hx hb dX8_reads_39 (by decide +kernel) ?_
            refine lv_icmp_ne (tgt := 45) hx hb dX8_reads_40 (by decide) (fun b297 => ?_) (fun b297 => ?_)
            · have b297 := zi_ne b297 (rfl : x296.toInt = x296.toInt) (zl_m1 : (-1 : Int32).toInt = (-1))
              refine lv_aload_n hx hb dX8_reads_45 rfl (lv_at hl 1 rfl) ?_
              refine lv_bipush (v := 59) hx hb dX8_reads_46 (by decide +kernel) ?_
              refine zq_calli (zq_rV (As := [.int (59 : Int32)]) (rest := []) E hZ hM k_p1 (c_X6_passes l X zk (zn) I286 L p1 k_p1 (59 : Int32)) zmX8_31 zM_X6_passes (hro (1) 2 (by first | decide | omega) (by decide)) ⟨by decide, by decide⟩ rfl hl.1 rfl rfl (Nat.le_of_ble_eq_true rfl) dX8_reads_48) hS (fun x299 I300 H locs h298 hM hS => ?_)
              obtain ⟨fr301, p302, p303⟩ := h298
              have := zl_59
              have hR := zq_fr.call hR fr301 (zf_sub (by decide +kernel) (fun _ _ q => q.elim))
              have hS0304 := zS0.fr p288 L k_p2 fr301 rfl
              have hW305 := zW.frL hD294 L k_p2 fr301 rfl rfl
              refine lv_if_ne (tgt := 56) hx hb dX8_reads_51 (by decide) (fun b306 => ?_) (fun b306 => ?_)
              · have b306 := zi_ne b306 (rfl : x299.toInt = x299.toInt) (zl_0 : (0 : Int32).toInt = 0)
                obtain ⟨x307, ex307⟩ : ∃ y : Int32, y = j260 + 1 := ⟨_, rfl⟩
                have tx307 := zi_add ex307 (rfl : j260.toInt = j260.toInt) zl_1 ⟨by omega, by omega⟩
                refine lv_iinc (v := x307) (lv' := [(2, .int x307), (0, .ref p1), (1, .ref p2)]) hx hb dX8_reads_56 hl (k := 0) rfl (by rw [ex307]; rfl) (by decide) rfl (fun ls hl => ?_)
                refine lv_goto (tgt := 10) hx hb dX8_reads_59 (by decide) ?_
                exact ih10 I300 H locs ls x307 (by omega) hM hS hR (⟨by omega, by omega⟩) hS0304 hW305 (lv_sub hl [0, 1, 2] rfl)
              · have b306 := zi_eq b306 (rfl : x299.toInt = x299.toInt) (zl_0 : (0 : Int32).toInt = 0)
                refine lv_iconst (v := 0) hx hb dX8_reads_54 (by decide +kernel) ?_
                subst hQ
                exact zq_zret E hr hZ hM hS (show 0 ≤ (0 : Int32).toInt ∧ (0 : Int32).toInt ≤ 1 by decide +kernel) ⟨hR, (hS0304), (Or.inl (by have := zl_0; omega)), (by have := zl_0; omega)⟩ hlocks dX8_reads_55
            · have b297 := zi_eq b297 (rfl : x296.toInt = x296.toInt) (zl_m1 : (-1 : Int32).toInt = (-1))
              refine lv_iconst (v := 1) hx hb dX8_reads_43 (by decide +kernel) ?_
              subst hQ
              exact zq_zret E hr hZ hM hS (show 0 ≤ (1 : Int32).toInt ∧ (1 : Int32).toInt ≤ 1 by decide +kernel) ⟨hR, (p288), (Or.inr hD294), (by have := zl_1; omega)⟩ hlocks dX8_reads_44
          · have b293 := zi_eq b293 (rfl : x285.toInt = x285.toInt) (zl_0 : (0 : Int32).toInt = 0)
            refine lv_iconst (v := 0) hx hb dX8_reads_33 (by decide +kernel) ?_
            subst hQ
            exact zq_zret E hr hZ hM hS (show 0 ≤ (0 : Int32).toInt ∧ (0 : Int32).toInt ≤ 1 by decide +kernel) ⟨hR, (p288), (Or.inl (by have := zl_0; omega)), (by have := zl_0; omega)⟩ hlocks dX8_reads_34
  exact J10 (41 + 1 - (0 : Int32).toInt).toNat I109 H locs ls (0 : Int32) (by omega) hM hS hR (by rw [zl_0]; decide) hS0112 hW113 (lv_sub hl [0, 1, 2] rfl)
