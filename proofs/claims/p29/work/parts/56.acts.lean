def zw_X12_begins : List (Nat × Nat) := [(59, 999)]
set_option maxHeartbeats 8000000 in
set_option maxRecDepth 100000 in
theorem c_X12_begins (l : Launch) (X : zq_X) (zk zn : Nat) (I : zq_M) (L : zq_L X)  (h0 : Nat) (k_h0 : zq_k X h0 = 10) (q_0 : zk ≤ 4400 ∧ zn ≤ 4400) : Met l yX12_begins (zt_w yX12_begins cX12_begins 3 none) (zq_rm (0)) (va_Pc [.ref h0] (zq_W X (zk, zn) I)) (va_Qv (fun I2 => zq_fr (zf X zw_X12_begins (fun _ => False)) I I2) (zq_E X (zk, zn)) (zq_A X)) 0 0 (zq_A X) := by
  refine Met.ofW (cc := cX12_begins) (maxL := 3) (ret := none) (by decide) rfl ?_
  intro p e s m args below meth c s₁ B hml hv
  obtain ⟨hargs, hM, hZ⟩ := hv
  have hown : s.vm.findClass RX12 = some m.cls := findClass_of_methodNamed B.named
  have hts := atoms_spec (ws := zt_w yX12_begins cX12_begins 3 none) B.pre
  have E : CallFix p m c cX12_begins 3 s args (Cond.code yX12_begins cX12_begins 3 none :: zt) RX12 := ⟨B.exec, B.bytes, hml, hown, hts⟩
  have hx := B.exec
  have hb := B.bytes
  have hr := B.returns
  have hlocks := B.notSynchronized
  clear B
  have hS : va_S (zq_A X) s.heap s.heap [] := va_S.rf
  have hR : zq_fr (zf X zw_X12_begins (fun _ => False)) I I := zq_fr.rf
  have hl := lv_entry ([.ref h0]) (n := 3) (by exact Nat.le_of_ble_eq_true rfl)
  have hg : entryFrame m args 3 = F0 m 0 ((lg_sl ([.ref h0]) ++ List.replicate (3 - (lg_sl ([.ref h0])).length) Slot.unset).toArray) [] := by rw [hargs]; exact lg_entry_eq m ([.ref h0]) 3
  rw [hg]
  clear hg hargs
  generalize (lg_sl ([.ref h0]) ++ List.replicate (3 - (lg_sl ([.ref h0])).length) Slot.unset).toArray = ls at hl ⊢
  have hl : lv_has ls 3 [(0, .ref h0)] := by exact hl
  obtain ⟨R, hRm⟩ : ∃ R : Room, R = (headSpec (zt_w yX12_begins cX12_begins 3 none) (zq_rm (0))).room := ⟨_, rfl⟩
  rw [← hRm]
  generalize hQ : MQ below _ args s 0 0 (zq_A X) = Q
  obtain ⟨H, hH⟩ : ∃ H, H = s.heap := ⟨_, rfl⟩
  obtain ⟨locs, hlo⟩ : ∃ x : List Loc, x = [] := ⟨_, rfl⟩
  rw [show W p l e R s m args below meth c s.heap [] 0 0 Q = W p l e R s m args below meth c H locs 0 0 Q by rw [hH, hlo]]
  have hM : zq_hm X (zk, zn) I H := by rw [hH]; exact hM
  have hS : va_S (zq_A X) s.heap H locs := by rw [hH, hlo]; exact hS
  clear hH hlo
  refine lv_aload_n hx hb dX12_begins_0 rfl (lv_at hl 0 rfl) ?_
  refine zq_getr E hM k_h0 (zFX12_39 E hZ) ⟨by decide, by decide, by decide, rfl⟩ dX12_begins_1 ?_
  have k101 : zq_k X (zq_r X h0 20) = 59 := zq_lk L.1 k_h0 rfl (by decide)
  refine lv_bipush (v := 10) hx hb dX12_begins_4 (by decide +kernel) ?_
  refine lv_aload_n hx hb dX12_begins_6 rfl (lv_at hl 0 rfl) ?_
  refine zq_getr E hM k_h0 (zFX12_39 E hZ) ⟨by decide, by decide, by decide, rfl⟩ dX12_begins_7 ?_
  have k102 : zq_k X (zq_r X h0 20) = 59 := zq_lk L.1 k_h0 rfl (by decide)
  refine lv_bipush (v := 71) hx hb dX12_begins_10 (by decide +kernel) ?_
  refine zq_ian (n := 106) (j := 71) E hZ hM k102 ⟨by decide, rfl⟩ (by rw [zl_71]; decide) (by decide +kernel) dX12_begins_12 (fun x103 ex103 gx103 => ?_)
  clear gx103
  refine zq_isn (n := 106) (j := 10) E hZ hM hS k101 ⟨by decide, rfl⟩ (by rw [zl_10]; decide) (by decide +kernel) (zq_any _) dX12_begins_13 (fun I104 H locs eI104 hM hS => ?_)
  have hR := zq_fr.putE hR eI104 (zf_ia k101 (by decide) rfl)
  refine lv_aload_n hx hb dX12_begins_14 rfl (lv_at hl 0 rfl) ?_
  refine W.eq (g2 := F0 m 15 ls [.ref h0]) rfl ?_
  refine zq_getr E hM k_h0 (zFX12_39 E hZ) ⟨by decide, by decide, by decide, rfl⟩ dX12_begins_15 ?_
  have k105 : zq_k X (zq_r X h0 20) = 59 := zq_lk L.1 k_h0 rfl (by decide)
  refine lv_bipush (v := 11) hx hb dX12_begins_18 (by decide +kernel) ?_
  refine lv_aload_n hx hb dX12_begins_20 rfl (lv_at hl 0 rfl) ?_
  refine zq_getr E hM k_h0 (zFX12_39 E hZ) ⟨by decide, by decide, by decide, rfl⟩ dX12_begins_21 ?_
  have k106 : zq_k X (zq_r X h0 20) = 59 := zq_lk L.1 k_h0 rfl (by decide)
  refine lv_bipush (v := 72) hx hb dX12_begins_24 (by decide +kernel) ?_
  refine zq_ian (n := 106) (j := 72) E hZ hM k106 ⟨by decide, rfl⟩ (by rw [zl_72]; decide) (by decide +kernel) dX12_begins_26 (fun x107 ex107 gx107 => ?_)
  clear gx107
  refine zq_isn (n := 106) (j := 11) E hZ hM hS k105 ⟨by decide, rfl⟩ (by rw [zl_11]; decide) (by decide +kernel) (zq_any _) dX12_begins_27 (fun I108 H locs eI108 hM hS => ?_)
  have hR := zq_fr.putE hR eI108 (zf_ia k105 (by decide) rfl)
  refine lv_aload_n hx hb dX12_begins_28 rfl (lv_at hl 0 rfl) ?_
  refine zq_getr E hM k_h0 (zFX12_39 E hZ) ⟨by decide, by decide, by decide, rfl⟩ dX12_begins_29 ?_
  have k109 : zq_k X (zq_r X h0 20) = 59 := zq_lk L.1 k_h0 rfl (by decide)
  refine lv_bipush (v := 12) hx hb dX12_begins_32 (by decide +kernel) ?_
  refine W.eq (g2 := F0 m 34 ls [.int (12 : Int32), .ref (zq_r X h0 20)]) rfl ?_
  refine lv_iconst (v := 0) hx hb dX12_begins_34 (by decide +kernel) ?_
  refine zq_isn (n := 106) (j := 12) E hZ hM hS k109 ⟨by decide, rfl⟩ (by rw [zl_12]; decide) (by decide +kernel) (by exact (show 0 ≤ (0 : Int32).toInt ∧ (0 : Int32).toInt ≤ ((zn : Nat) : Int) from ⟨by decide +kernel, by have := zl_0; omega⟩)) dX12_begins_35 (fun I110 H locs eI110 hM hS => ?_)
  have hR := zq_fr.putE hR eI110 (zf_ia k109 (by decide) rfl)
  refine lv_iconst (v := 0) hx hb dX12_begins_36 (by decide +kernel) ?_
  refine lv_istore_n (lv' := [(1, .int (0 : Int32)), (0, .ref h0)]) hx hb dX12_begins_37 rfl hl (by decide) rfl (fun ls hl => ?_)
  have J38 : ∀ (n839 : Nat) (I838 : zq_M) (H : Heap) (locs : List Loc) (ls : Array Slot) (j837 : Int32), 3 + 1 - j837.toInt ≤ ((n839 : Nat) : Int) → (zq_hm X (zk, zn) I838 H) → (va_S (zq_A X) s.heap H locs) → (zq_fr (zf X zw_X12_begins (fun _ => False)) I I838) → (0 ≤ j837.toInt ∧ j837.toInt ≤ 3) → (lv_has ls 3 [(1, .int j837), (0, .ref h0)]) → W p l e R s m args below meth c H locs 0 0 Q (F0 m 38 ls []) := by
    intro n839
    induction n839 with
    | zero => intro I838 H locs ls j837 mu840 hM hS hR gj837 hl; exfalso; have := zi_rng j837; omega
    | succ n839 ih38 =>
      intro I838 H locs ls j837 mu840 hM hS hR gj837 hl
      refine lv_iload_n hx hb dX12_begins_38 rfl (lv_at hl 0 rfl) ?_
      refine lv_iconst (v := 3) hx hb dX12_begins_39 (by decide +kernel) ?_
      refine lv_icmp_ge (tgt := 84) hx hb dX12_begins_40 (by decide) (fun b841 => ?_) (fun b841 => ?_)
      · have b841 := zi_le b841 (zl_3 : (3 : Int32).toInt = 3) (rfl : j837.toInt = j837.toInt)
        refine lv_iconst (v := 0) hx hb dX12_begins_84 (by decide +kernel) ?_
        refine lv_istore_n (lv' := [(1, .int (0 : Int32)), (0, .ref h0)]) hx hb dX12_begins_85 rfl hl (by decide) rfl (fun ls hl => ?_)
        have J86 : ∀ (n1040 : Nat) (I1039 : zq_M) (H : Heap) (locs : List Loc) (ls : Array Slot) (j1038 : Int32), 4 + 1 - j1038.toInt ≤ ((n1040 : Nat) : Int) → (zq_hm X (zk, zn) I1039 H) → (va_S (zq_A X) s.heap H locs) → (zq_fr (zf X zw_X12_begins (fun _ => False)) I I1039) → (0 ≤ j1038.toInt ∧ j1038.toInt ≤ 4) → (lv_has ls 3 [(1, .int j1038), (0, .ref h0)]) → W p l e R s m args below meth c H locs 0 0 Q (F0 m 86 ls []) := by
          intro n1040
          induction n1040 with
          | zero => intro I1039 H locs ls j1038 mu1041 hM hS hR gj1038 hl; exfalso; have := zi_rng j1038; omega
          | succ n1040 ih86 =>
            intro I1039 H locs ls j1038 mu1041 hM hS hR gj1038 hl
            refine lv_iload_n hx hb dX12_begins_86 rfl (lv_at hl 0 rfl) ?_
            refine lv_iconst (v := 4) hx hb dX12_begins_87 (by decide +kernel) ?_
            refine lv_icmp_ge (tgt := 191) hx hb dX12_begins_88 (by decide) (fun b1042 => ?_) (fun b1042 => ?_)
            · have b1042 := zi_le b1042 (zl_4 : (4 : Int32).toInt = 4) (rfl : j1038.toInt = j1038.toInt)
              subst hQ
              exact zq_vret E hr hZ hM hS hR hlocks dX12_begins_191
            · have b1042 := zi_nle b1042 (zl_4 : (4 : Int32).toInt = 4) (rfl : j1038.toInt = j1038.toInt)
              refine lv_bipush (v := 73) hx hb dX12_begins_91 (by decide +kernel) ?_
              refine lv_iconst (v := 3) hx hb dX12_begins_93 (by decide +kernel) ?_
              refine lv_iload_n hx hb dX12_begins_94 rfl (lv_at hl 0 rfl) ?_
              refine lv_imul hx hb dX12_begins_95 ?_
              refine lv_topi (fun x1043 ex1043 => ?_)
              have tx1043 := zi_mul ex1043 (zl_3 : (3 : Int32).toInt = 3) (rfl : j1038.toInt = j1038.toInt) ⟨by omega, by omega⟩
              refine lv_iadd hx hb dX12_begins_96 ?_
              refine lv_topi (fun x1044 ex1044 => ?_)
              have tx1044 := zi_add ex1044 (zl_73 : (73 : Int32).toInt = 73) (rfl : x1043.toInt = x1043.toInt) ⟨by omega, by omega⟩
              refine lv_istore_n (lv' := [(2, .int x1044), (1, .int j1038), (0, .ref h0)]) hx hb dX12_begins_97 rfl hl (by decide) rfl (fun ls hl => ?_)
              refine lv_aload_n hx hb dX12_begins_98 rfl (lv_at hl 2 rfl) ?_
              refine zq_getr E hM k_h0 (zFX12_39 E hZ) ⟨by decide, by decide, by decide, rfl⟩ dX12_begins_99 ?_
              have k1045 : zq_k X (zq_r X h0 20) = 59 := zq_lk L.1 k_h0 rfl (by decide)
              refine lv_bipush (v := 25) hx hb dX12_begins_102 (by decide +kernel) ?_
              refine W.eq (g2 := F0 m 104 ls [.int (25 : Int32), .ref (zq_r X h0 20)]) rfl ?_
              refine lv_iconst (v := 5) hx hb dX12_begins_104 (by decide +kernel) ?_
              refine lv_iload_n hx hb dX12_begins_105 rfl (lv_at hl 1 rfl) ?_
              refine lv_imul hx hb dX12_begins_106 ?_
              refine lv_topi (fun x1046 ex1046 => ?_)
              have tx1046 := zi_mul ex1046 (zl_5 : (5 : Int32).toInt = 5) (rfl : j1038.toInt = j1038.toInt) ⟨by omega, by omega⟩
              refine lv_iadd hx hb dX12_begins_107 ?_
              refine lv_topi (fun x1047 ex1047 => ?_)
              have tx1047 := zi_add ex1047 (zl_25 : (25 : Int32).toInt = 25) (rfl : x1046.toInt = x1046.toInt) ⟨by omega, by omega⟩
              refine lv_aload_n hx hb dX12_begins_108 rfl (lv_at hl 2 rfl) ?_
              refine zq_getr E hM k_h0 (zFX12_39 E hZ) ⟨by decide, by decide, by decide, rfl⟩ dX12_begins_109 ?_
              have k1048 : zq_k X (zq_r X h0 20) = 59 := zq_lk L.1 k_h0 rfl (by decide)
              refine lv_iload_n hx hb dX12_begins_112 rfl (lv_at hl 0 rfl) ?_
              refine zq_ian (n := 106) (j := (x1044.toNatClampNeg)) E hZ hM k1048 ⟨by decide, rfl⟩ ⟨by omega, by omega⟩ rfl dX12_begins_113 (fun x1049 ex1049 gx1049 => ?_)
              have hclx1044 := zq_cl (i := x1044) (by omega)
              have hc1050 : x1044.toNatClampNeg = 73 ∨ x1044.toNatClampNeg = 76 ∨ x1044.toNatClampNeg = 79 ∨ x1044.toNatClampNeg = 82 := by omega
              replace gx1049 : 0 ≤ x1049.toInt ∧ x1049.toInt ≤ 99 := by
                rcases hc1050 with q9 | q9 | q9 | q9
                · rw [q9] at gx1049; exact gx1049
                · rw [q9] at gx1049; exact gx1049
                · rw [q9] at gx1049; exact gx1049
                · rw [q9] at gx1049; exact gx1049
              have hclx1047 := zq_cl (i := x1047) (by omega)
              have hc1052 : x1047.toNatClampNeg = 25 ∨ x1047.toNatClampNeg = 30 ∨ x1047.toNatClampNeg = 35 ∨ x1047.toNatClampNeg = 40 := by omega
              have hp1053 : (zq_rg (zk, zn) 59 x1047.toNatClampNeg).1 ≤ x1049.toInt ∧ x1049.toInt ≤ (zq_rg (zk, zn) 59 x1047.toNatClampNeg).2 := by
                rcases hc1052 with q9 | q9 | q9 | q9
                · rw [q9]; exact (show 0 ≤ x1049.toInt ∧ x1049.toInt ≤ 99 from ⟨by omega, by omega⟩)
                · rw [q9]; exact (show 0 ≤ x1049.toInt ∧ x1049.toInt ≤ 99 from ⟨by omega, by omega⟩)
                · rw [q9]; exact (show 0 ≤ x1049.toInt ∧ x1049.toInt ≤ 99 from ⟨by omega, by omega⟩)
                · rw [q9]; exact (show 0 ≤ x1049.toInt ∧ x1049.toInt ≤ 99 from ⟨by omega, by omega⟩)
              refine zq_isn (n := 106) (j := (x1047.toNatClampNeg)) E hZ hM hS k1045 ⟨by decide, rfl⟩ ⟨by omega, by omega⟩ rfl hp1053 dX12_begins_114 (fun I1051 H locs eI1051 hM hS => ?_)
              have hR := zq_fr.putE hR eI1051 (zf_ia k1045 (by decide) rfl)
              refine lv_aload_n hx hb dX12_begins_115 rfl (lv_at hl 2 rfl) ?_
              refine W.eq (g2 := F0 m 116 ls [.ref h0]) rfl ?_
              refine zq_getr E hM k_h0 (zFX12_39 E hZ) ⟨by decide, by decide, by decide, rfl⟩ dX12_begins_116 ?_
              have k1054 : zq_k X (zq_r X h0 20) = 59 := zq_lk L.1 k_h0 rfl (by decide)
              refine lv_bipush (v := 25) hx hb dX12_begins_119 (by decide +kernel) ?_
              refine lv_iconst (v := 5) hx hb dX12_begins_121 (by decide +kernel) ?_
              refine lv_iload_n hx hb dX12_begins_122 rfl (lv_at hl 1 rfl) ?_
              refine lv_imul hx hb dX12_begins_123 ?_
              refine lv_topi (fun x1055 ex1055 => ?_)
              have tx1055 := zi_mul ex1055 (zl_5 : (5 : Int32).toInt = 5) (rfl : j1038.toInt = j1038.toInt) ⟨by omega, by omega⟩
              refine lv_iadd hx hb dX12_begins_124 ?_
              refine lv_topi (fun x1056 ex1056 => ?_)
              have tx1056 := zi_add ex1056 (zl_25 : (25 : Int32).toInt = 25) (rfl : x1055.toInt = x1055.toInt) ⟨by omega, by omega⟩
              refine lv_iconst (v := 1) hx hb dX12_begins_125 (by decide +kernel) ?_
              refine lv_iadd hx hb dX12_begins_126 ?_
              refine lv_topi (fun x1057 ex1057 => ?_)
              have tx1057 := zi_add ex1057 (rfl : x1056.toInt = x1056.toInt) (zl_1 : (1 : Int32).toInt = 1) ⟨by omega, by omega⟩
              refine lv_aload_n hx hb dX12_begins_127 rfl (lv_at hl 2 rfl) ?_
              refine zq_getr E hM k_h0 (zFX12_39 E hZ) ⟨by decide, by decide, by decide, rfl⟩ dX12_begins_128 ?_
              have k1058 : zq_k X (zq_r X h0 20) = 59 := zq_lk L.1 k_h0 rfl (by decide)
              refine W.eq (g2 := F0 m 131 ls [.ref (zq_r X h0 20), .int x1057, .ref (zq_r X h0 20)]) rfl ?_
              refine lv_iload_n hx hb dX12_begins_131 rfl (lv_at hl 0 rfl) ?_
              refine lv_iconst (v := 1) hx hb dX12_begins_132 (by decide +kernel) ?_
              refine lv_iadd hx hb dX12_begins_133 ?_
              refine lv_topi (fun x1059 ex1059 => ?_)
              have tx1059 := zi_add ex1059 (rfl : x1044.toInt = x1044.toInt) (zl_1 : (1 : Int32).toInt = 1) ⟨by omega, by omega⟩
              refine zq_ian (n := 106) (j := (x1059.toNatClampNeg)) E hZ hM k1058 ⟨by decide, rfl⟩ ⟨by omega, by omega⟩ rfl dX12_begins_134 (fun x1060 ex1060 gx1060 => ?_)
              have hclx1059 := zq_cl (i := x1059) (by omega)
              have hc1061 : x1059.toNatClampNeg = 74 ∨ x1059.toNatClampNeg = 77 ∨ x1059.toNatClampNeg = 80 ∨ x1059.toNatClampNeg = 83 := by omega
              replace gx1060 : 0 ≤ x1060.toInt ∧ x1060.toInt ≤ 99 := by
                rcases hc1061 with q9 | q9 | q9 | q9
                · rw [q9] at gx1060; exact gx1060
                · rw [q9] at gx1060; exact gx1060
                · rw [q9] at gx1060; exact gx1060
                · rw [q9] at gx1060; exact gx1060
              have hclx1057 := zq_cl (i := x1057) (by omega)
              have hc1063 : x1057.toNatClampNeg = 26 ∨ x1057.toNatClampNeg = 31 ∨ x1057.toNatClampNeg = 36 ∨ x1057.toNatClampNeg = 41 := by omega
              have hp1064 : (zq_rg (zk, zn) 59 x1057.toNatClampNeg).1 ≤ x1060.toInt ∧ x1060.toInt ≤ (zq_rg (zk, zn) 59 x1057.toNatClampNeg).2 := by
                rcases hc1063 with q9 | q9 | q9 | q9
                · rw [q9]; exact (show 0 ≤ x1060.toInt ∧ x1060.toInt ≤ 99 from ⟨by omega, by omega⟩)
                · rw [q9]; exact (show 0 ≤ x1060.toInt ∧ x1060.toInt ≤ 99 from ⟨by omega, by omega⟩)
                · rw [q9]; exact (show 0 ≤ x1060.toInt ∧ x1060.toInt ≤ 99 from ⟨by omega, by omega⟩)
                · rw [q9]; exact (show 0 ≤ x1060.toInt ∧ x1060.toInt ≤ 99 from ⟨by omega, by omega⟩)
              refine zq_isn (n := 106) (j := (x1057.toNatClampNeg)) E hZ hM hS k1054 ⟨by decide, rfl⟩ ⟨by omega, by omega⟩ rfl hp1064 dX12_begins_135 (fun I1062 H locs eI1062 hM hS => ?_)
              have hR := zq_fr.putE hR eI1062 (zf_ia k1054 (by decide) rfl)
              refine lv_aload_n hx hb dX12_begins_136 rfl (lv_at hl 2 rfl) ?_
              refine zq_getr E hM k_h0 (zFX12_39 E hZ) ⟨by decide, by decide, by decide, rfl⟩ dX12_begins_137 ?_
              have k1065 : zq_k X (zq_r X h0 20) = 59 := zq_lk L.1 k_h0 rfl (by decide)
              refine lv_bipush (v := 25) hx hb dX12_begins_140 (by decide +kernel) ?_
              refine lv_iconst (v := 5) hx hb dX12_begins_142 (by decide +kernel) ?_
              refine lv_iload_n hx hb dX12_begins_143 rfl (lv_at hl 1 rfl) ?_
              refine W.eq (g2 := F0 m 144 ls [.int j1038, .int (5 : Int32), .int (25 : Int32), .ref (zq_r X h0 20)]) rfl ?_
              refine lv_imul hx hb dX12_begins_144 ?_
              refine lv_topi (fun x1066 ex1066 => ?_)
              have tx1066 := zi_mul ex1066 (zl_5 : (5 : Int32).toInt = 5) (rfl : j1038.toInt = j1038.toInt) ⟨by omega, by omega⟩
              refine lv_iadd hx hb dX12_begins_145 ?_
              refine lv_topi (fun x1067 ex1067 => ?_)
              have tx1067 := zi_add ex1067 (zl_25 : (25 : Int32).toInt = 25) (rfl : x1066.toInt = x1066.toInt) ⟨by omega, by omega⟩
              refine lv_iconst (v := 2) hx hb dX12_begins_146 (by decide +kernel) ?_
              refine lv_iadd hx hb dX12_begins_147 ?_
              refine lv_topi (fun x1068 ex1068 => ?_)
              have tx1068 := zi_add ex1068 (rfl : x1067.toInt = x1067.toInt) (zl_2 : (2 : Int32).toInt = 2) ⟨by omega, by omega⟩
              refine lv_iconst (v := 0) hx hb dX12_begins_148 (by decide +kernel) ?_
              have hclx1068 := zq_cl (i := x1068) (by omega)
              have hc1070 : x1068.toNatClampNeg = 27 ∨ x1068.toNatClampNeg = 32 ∨ x1068.toNatClampNeg = 37 ∨ x1068.toNatClampNeg = 42 := by omega
              have hp1071 : (zq_rg (zk, zn) 59 x1068.toNatClampNeg).1 ≤ (0 : Int32).toInt ∧ (0 : Int32).toInt ≤ (zq_rg (zk, zn) 59 x1068.toNatClampNeg).2 := by
                rcases hc1070 with q9 | q9 | q9 | q9
                · rw [q9]; exact (show 0 ≤ (0 : Int32).toInt ∧ (0 : Int32).toInt ≤ 99 * ((zn : Nat) : Int) from ⟨by decide +kernel, by have := zl_0; omega⟩)
                · rw [q9]; exact (show 0 ≤ (0 : Int32).toInt ∧ (0 : Int32).toInt ≤ 99 * ((zn : Nat) : Int) from ⟨by decide +kernel, by have := zl_0; omega⟩)
                · rw [q9]; exact (show 0 ≤ (0 : Int32).toInt ∧ (0 : Int32).toInt ≤ 99 * ((zn : Nat) : Int) from ⟨by decide +kernel, by have := zl_0; omega⟩)
                · rw [q9]; exact (show 0 ≤ (0 : Int32).toInt ∧ (0 : Int32).toInt ≤ 99 * ((zn : Nat) : Int) from ⟨by decide +kernel, by have := zl_0; omega⟩)
              refine zq_isn (n := 106) (j := (x1068.toNatClampNeg)) E hZ hM hS k1065 ⟨by decide, rfl⟩ ⟨by omega, by omega⟩ rfl hp1071 dX12_begins_149 (fun I1069 H locs eI1069 hM hS => ?_)
              have hR := zq_fr.putE hR eI1069 (zf_ia k1065 (by decide) rfl)
              refine lv_aload_n hx hb dX12_begins_150 rfl (lv_at hl 2 rfl) ?_
              refine zq_getr E hM k_h0 (zFX12_39 E hZ) ⟨by decide, by decide, by decide, rfl⟩ dX12_begins_151 ?_
              have k1072 : zq_k X (zq_r X h0 20) = 59 := zq_lk L.1 k_h0 rfl (by decide)
              refine lv_bipush (v := 25) hx hb dX12_begins_154 (by decide +kernel) ?_
              refine lv_iconst (v := 5) hx hb dX12_begins_156 (by decide +kernel) ?_
              refine W.eq (g2 := F0 m 157 ls [.int (5 : Int32), .int (25 : Int32), .ref (zq_r X h0 20)]) rfl ?_
              refine lv_iload_n hx hb dX12_begins_157 rfl (lv_at hl 1 rfl) ?_
              refine lv_imul hx hb dX12_begins_158 ?_
              refine lv_topi (fun x1073 ex1073 => ?_)
              have tx1073 := zi_mul ex1073 (zl_5 : (5 : Int32).toInt = 5) (rfl : j1038.toInt = j1038.toInt) ⟨by omega, by omega⟩
              refine lv_iadd hx hb dX12_begins_159 ?_
              refine lv_topi (fun x1074 ex1074 => ?_)
              have tx1074 := zi_add ex1074 (zl_25 : (25 : Int32).toInt = 25) (rfl : x1073.toInt = x1073.toInt) ⟨by omega, by omega⟩
              refine lv_iconst (v := 3) hx hb dX12_begins_160 (by decide +kernel) ?_
              refine lv_iadd hx hb dX12_begins_161 ?_
              refine lv_topi (fun x1075 ex1075 => ?_)
              have tx1075 := zi_add ex1075 (rfl : x1074.toInt = x1074.toInt) (zl_3 : (3 : Int32).toInt = 3) ⟨by omega, by omega⟩
              refine lv_aload_n hx hb dX12_begins_162 rfl (lv_at hl 2 rfl) ?_
              refine zq_getr E hM k_h0 (zFX12_39 E hZ) ⟨by decide, by decide, by decide, rfl⟩ dX12_begins_163 ?_
              have k1076 : zq_k X (zq_r X h0 20) = 59 := zq_lk L.1 k_h0 rfl (by decide)
              refine lv_iload_n hx hb dX12_begins_166 rfl (lv_at hl 0 rfl) ?_
              refine lv_iconst (v := 2) hx hb dX12_begins_167 (by decide +kernel) ?_
              refine lv_iadd hx hb dX12_begins_168 ?_
              refine lv_topi (fun x1077 ex1077 => ?_)
              have tx1077 := zi_add ex1077 (rfl : x1044.toInt = x1044.toInt) (zl_2 : (2 : Int32).toInt = 2) ⟨by omega, by omega⟩
              refine W.eq (g2 := F0 m 169 ls [.int x1077, .ref (zq_r X h0 20), .int x1075, .ref (zq_r X h0 20)]) rfl ?_
              refine zq_ian (n := 106) (j := (x1077.toNatClampNeg)) E hZ hM k1076 ⟨by decide, rfl⟩ ⟨by omega, by omega⟩ rfl dX12_begins_169 (fun x1078 ex1078 gx1078 => ?_)
              clear gx1078
              have hclx1075 := zq_cl (i := x1075) (by omega)
              have hc1080 : x1075.toNatClampNeg = 28 ∨ x1075.toNatClampNeg = 33 ∨ x1075.toNatClampNeg = 38 ∨ x1075.toNatClampNeg = 43 := by omega
              have hp1081 : (zq_rg (zk, zn) 59 x1075.toNatClampNeg).1 ≤ x1078.toInt ∧ x1078.toInt ≤ (zq_rg (zk, zn) 59 x1075.toNatClampNeg).2 := by
                rcases hc1080 with q9 | q9 | q9 | q9
                · rw [q9]; exact zq_any _
                · rw [q9]; exact zq_any _
                · rw [q9]; exact zq_any _
                · rw [q9]; exact zq_any _
              refine zq_isn (n := 106) (j := (x1075.toNatClampNeg)) E hZ hM hS k1072 ⟨by decide, rfl⟩ ⟨by omega, by omega⟩ rfl hp1081 dX12_begins_170 (fun I1079 H locs eI1079 hM hS => ?_)
              have hR := zq_fr.putE hR eI1079 (zf_ia k1072 (by decide) rfl)
              refine lv_aload_n hx hb dX12_begins_171 rfl (lv_at hl 2 rfl) ?_
              refine zq_getr E hM k_h0 (zFX12_39 E hZ) ⟨by decide, by decide, by decide, rfl⟩ dX12_begins_172 ?_
              have k1082 : zq_k X (zq_r X h0 20) = 59 := zq_lk L.1 k_h0 rfl (by decide)
              refine lv_bipush (v := 25) hx hb dX12_begins_175 (by decide +kernel) ?_
              refine lv_iconst (v := 5) hx hb dX12_begins_177 (by decide +kernel) ?_
              refine lv_iload_n hx hb dX12_begins_178 rfl (lv_at hl 1 rfl) ?_
              refine lv_imul hx hb dX12_begins_179 ?_
              refine lv_topi (fun x1083 ex1083 => ?_)
              have tx1083 := zi_mul ex1083 (zl_5 : (5 : Int32).toInt = 5) (rfl : j1038.toInt = j1038.toInt) ⟨by omega, by omega⟩
              refine lv_iadd hx hb dX12_begins_180 ?_
              refine lv_topi (fun x1084 ex1084 => ?_)
              have tx1084 := zi_add ex1084 (zl_25 : (25 : Int32).toInt = 25) (rfl : x1083.toInt = x1083.toInt) ⟨by omega, by omega⟩
              refine lv_iconst (v := 4) hx hb dX12_begins_181 (by decide +kernel) ?_
              refine W.eq (g2 := F0 m 182 ls [.int (4 : Int32), .int x1084, .ref (zq_r X h0 20)]) rfl ?_
              refine lv_iadd hx hb dX12_begins_182 ?_
              refine lv_topi (fun x1085 ex1085 => ?_)
              have tx1085 := zi_add ex1085 (rfl : x1084.toInt = x1084.toInt) (zl_4 : (4 : Int32).toInt = 4) ⟨by omega, by omega⟩
              refine lv_iconst (v := 0) hx hb dX12_begins_183 (by decide +kernel) ?_
              have hclx1085 := zq_cl (i := x1085) (by omega)
              have hc1087 : x1085.toNatClampNeg = 29 ∨ x1085.toNatClampNeg = 34 ∨ x1085.toNatClampNeg = 39 ∨ x1085.toNatClampNeg = 44 := by omega
              have hp1088 : (zq_rg (zk, zn) 59 x1085.toNatClampNeg).1 ≤ (0 : Int32).toInt ∧ (0 : Int32).toInt ≤ (zq_rg (zk, zn) 59 x1085.toNatClampNeg).2 := by
                rcases hc1087 with q9 | q9 | q9 | q9
                · rw [q9]; exact zq_any _
                · rw [q9]; exact zq_any _
                · rw [q9]; exact zq_any _
                · rw [q9]; exact zq_any _
              refine zq_isn (n := 106) (j := (x1085.toNatClampNeg)) E hZ hM hS k1082 ⟨by decide, rfl⟩ ⟨by omega, by omega⟩ rfl hp1088 dX12_begins_184 (fun I1086 H locs eI1086 hM hS => ?_)
              have hR := zq_fr.putE hR eI1086 (zf_ia k1082 (by decide) rfl)
              obtain ⟨x1089, ex1089⟩ : ∃ y : Int32, y = j1038 + 1 := ⟨_, rfl⟩
              have tx1089 := zi_add ex1089 (rfl : j1038.toInt = j1038.toInt) zl_1 ⟨by omega, by omega⟩
              refine lv_iinc (v := x1089) (lv' := [(1, .int x1089), (2, .int x1044), (0, .ref h0)]) hx hb dX12_begins_185 hl (k := 1) rfl (by rw [ex1089]; rfl) (by decide) rfl (fun ls hl => ?_)
              refine lv_goto (tgt := 86) hx hb dX12_begins_188 (by decide) ?_
              exact ih86 I1086 H locs ls x1089 (by omega) hM hS hR (⟨by omega, by omega⟩) (lv_sub hl [0, 2] rfl)
        exact J86 (4 + 1 - (0 : Int32).toInt).toNat I838 H locs ls (0 : Int32) (by omega) hM hS hR (by rw [zl_0]; decide) (lv_sub hl [0, 1] rfl)
      · have b841 := zi_nle b841 (zl_3 : (3 : Int32).toInt = 3) (rfl : j837.toInt = j837.toInt)
        refine lv_iconst (v := 0) hx hb dX12_begins_43 (by decide +kernel) ?_
        refine lv_istore_n (lv' := [(2, .int (0 : Int32)), (1, .int j837), (0, .ref h0)]) hx hb dX12_begins_44 rfl hl (by decide) rfl (fun ls hl => ?_)
        have J45 : ∀ (n1137 : Nat) (I1136 : zq_M) (H : Heap) (locs : List Loc) (ls : Array Slot) (j1135 : Int32), 4 + 1 - j1135.toInt ≤ ((n1137 : Nat) : Int) → (zq_hm X (zk, zn) I1136 H) → (va_S (zq_A X) s.heap H locs) → (zq_fr (zf X zw_X12_begins (fun _ => False)) I I1136) → (0 ≤ j1135.toInt ∧ j1135.toInt ≤ 4) → (lv_has ls 3 [(2, .int j1135), (1, .int j837), (0, .ref h0)]) → W p l e R s m args below meth c H locs 0 0 Q (F0 m 45 ls []) := by
          intro n1137
          induction n1137 with
          | zero => intro I1136 H locs ls j1135 mu1138 hM hS hR gj1135 hl; exfalso; have := zi_rng j1135; omega
          | succ n1137 ih45 =>
            intro I1136 H locs ls j1135 mu1138 hM hS hR gj1135 hl
            refine lv_iload_n hx hb dX12_begins_45 rfl (lv_at hl 0 rfl) ?_
            refine lv_iconst (v := 4) hx hb dX12_begins_46 (by decide +kernel) ?_
            refine lv_icmp_ge (tgt := 78) hx hb dX12_begins_47 (by decide) (fun b1139 => ?_) (fun b1139 => ?_)
            · have b1139 := zi_le b1139 (zl_4 : (4 : Int32).toInt = 4) (rfl : j1135.toInt = j1135.toInt)
              obtain ⟨x1140, ex1140⟩ : ∃ y : Int32, y = j837 + 1 := ⟨_, rfl⟩
              have tx1140 := zi_add ex1140 (rfl : j837.toInt = j837.toInt) zl_1 ⟨by omega, by omega⟩
              refine lv_iinc (v := x1140) (lv' := [(1, .int x1140), (2, .int j1135), (0, .ref h0)]) hx hb dX12_begins_78 hl (k := 1) rfl (by rw [ex1140]; rfl) (by decide) rfl (fun ls hl => ?_)
              refine lv_goto (tgt := 38) hx hb dX12_begins_81 (by decide) ?_
              exact ih38 I1136 H locs ls x1140 (by omega) hM hS hR (⟨by omega, by omega⟩) (lv_sub hl [0, 2] rfl)
            · have b1139 := zi_nle b1139 (zl_4 : (4 : Int32).toInt = 4) (rfl : j1135.toInt = j1135.toInt)
              refine lv_aload_n hx hb dX12_begins_50 rfl (lv_at hl 2 rfl) ?_
              refine zq_getr E hM k_h0 (zFX12_39 E hZ) ⟨by decide, by decide, by decide, rfl⟩ dX12_begins_51 ?_
              have k1141 : zq_k X (zq_r X h0 20) = 59 := zq_lk L.1 k_h0 rfl (by decide)
              refine lv_bipush (v := 13) hx hb dX12_begins_54 (by decide +kernel) ?_
              refine lv_iconst (v := 4) hx hb dX12_begins_56 (by decide +kernel) ?_
              refine lv_iload_n hx hb dX12_begins_57 rfl (lv_at hl 1 rfl) ?_
              refine lv_imul hx hb dX12_begins_58 ?_
              refine lv_topi (fun x1142 ex1142 => ?_)
              have tx1142 := zi_mul ex1142 (zl_4 : (4 : Int32).toInt = 4) (rfl : j837.toInt = j837.toInt) ⟨by omega, by omega⟩
              refine lv_iadd hx hb dX12_begins_59 ?_
              refine lv_topi (fun x1143 ex1143 => ?_)
              have tx1143 := zi_add ex1143 (zl_13 : (13 : Int32).toInt = 13) (rfl : x1142.toInt = x1142.toInt) ⟨by omega, by omega⟩
              refine lv_iload_n hx hb dX12_begins_60 rfl (lv_at hl 0 rfl) ?_
              refine lv_iadd hx hb dX12_begins_61 ?_
              refine lv_topi (fun x1144 ex1144 => ?_)
              have tx1144 := zi_add ex1144 (rfl : x1143.toInt = x1143.toInt) (rfl : j1135.toInt = j1135.toInt) ⟨by omega, by omega⟩
              refine W.eq (g2 := F0 m 62 ls [.int x1144, .ref (zq_r X h0 20)]) rfl ?_
              refine lv_iload_n hx hb dX12_begins_62 rfl (lv_at hl 0 rfl) ?_
              have J71 : ∀ (ls : Array Slot) (j1145 : Int32), ((-1) ≤ j1145.toInt ∧ j1145.toInt ≤ 0) → (j1145.toInt = 0 ∨ j1135.toInt = 0) → (lv_has ls 3 [(2, .int j1135), (1, .int j837), (0, .ref h0)]) → W p l e R s m args below meth c H locs 0 0 Q (F0 m 71 ls [.int j1145, .int x1144, .ref (zq_r X h0 20)]) := by
                intro ls j1145 gj1145 hb71 hl
                have hclx1144 := zq_cl (i := x1144) (by omega)
                have hc1151 : x1144.toNatClampNeg = 13 ∨ x1144.toNatClampNeg = 14 ∨ x1144.toNatClampNeg = 15 ∨ x1144.toNatClampNeg = 16 ∨ x1144.toNatClampNeg = 17 ∨ x1144.toNatClampNeg = 18 ∨ x1144.toNatClampNeg = 19 ∨ x1144.toNatClampNeg = 20 ∨ x1144.toNatClampNeg = 21 ∨ x1144.toNatClampNeg = 22 ∨ x1144.toNatClampNeg = 23 ∨ x1144.toNatClampNeg = 24 := by omega
                have hp1152 : (zq_rg (zk, zn) 59 x1144.toNatClampNeg).1 ≤ j1145.toInt ∧ j1145.toInt ≤ (zq_rg (zk, zn) 59 x1144.toNatClampNeg).2 := by
                  rcases hc1151 with q9 | q9 | q9 | q9 | q9 | q9 | q9 | q9 | q9 | q9 | q9 | q9
                  · rw [q9]; exact (show (-1) ≤ j1145.toInt ∧ j1145.toInt ≤ 3 from ⟨by omega, by omega⟩)
                  · rw [q9]; exact zq_any _
                  · rw [q9]; exact (show 0 ≤ j1145.toInt ∧ j1145.toInt ≤ 99 from ⟨by omega, by omega⟩)
                  · rw [q9]; exact zq_any _
                  · rw [q9]; exact (show (-1) ≤ j1145.toInt ∧ j1145.toInt ≤ 3 from ⟨by omega, by omega⟩)
                  · rw [q9]; exact zq_any _
                  · rw [q9]; exact (show 0 ≤ j1145.toInt ∧ j1145.toInt ≤ 99 from ⟨by omega, by omega⟩)
                  · rw [q9]; exact zq_any _
                  · rw [q9]; exact (show (-1) ≤ j1145.toInt ∧ j1145.toInt ≤ 3 from ⟨by omega, by omega⟩)
                  · rw [q9]; exact zq_any _
                  · rw [q9]; exact (show 0 ≤ j1145.toInt ∧ j1145.toInt ≤ 99 from ⟨by omega, by omega⟩)
                  · rw [q9]; exact zq_any _
                refine zq_isn (n := 106) (j := (x1144.toNatClampNeg)) E hZ hM hS k1141 ⟨by decide, rfl⟩ ⟨by omega, by omega⟩ rfl hp1152 dX12_begins_71 (fun I1150 H locs eI1150 hM hS => ?_)
                have hR := zq_fr.putE hR eI1150 (zf_ia k1141 (by decide) rfl)
                obtain ⟨x1153, ex1153⟩ : ∃ y : Int32, y = j1135 + 1 := ⟨_, rfl⟩
                have tx1153 := zi_add ex1153 (rfl : j1135.toInt = j1135.toInt) zl_1 ⟨by omega, by omega⟩
                refine lv_iinc (v := x1153) (lv' := [(2, .int x1153), (1, .int j837), (0, .ref h0)]) hx hb dX12_begins_72 hl (k := 0) rfl (by rw [ex1153]; rfl) (by decide) rfl (fun ls hl => ?_)
                refine lv_goto (tgt := 45) hx hb dX12_begins_75 (by decide) ?_
                exact ih45 I1150 H locs ls x1153 (by omega) hM hS hR (⟨by omega, by omega⟩) (lv_sub hl [0, 1, 2] rfl)
              refine lv_if_ne (tgt := 70) hx hb dX12_begins_63 (by decide) (fun b1154 => ?_) (fun b1154 => ?_)
              · have b1154 := zi_ne b1154 (rfl : j1135.toInt = j1135.toInt) (zl_0 : (0 : Int32).toInt = 0)
                refine lv_iconst (v := 0) hx hb dX12_begins_70 (by decide +kernel) ?_
                exact J71 ls (0 : Int32) (by rw [zl_0]; decide) (by first | exact Or.inl zl_0 | exact Or.inr (by omega)) (lv_sub hl [0, 1, 2] rfl)
              · have b1154 := zi_eq b1154 (rfl : j1135.toInt = j1135.toInt) (zl_0 : (0 : Int32).toInt = 0)
                refine lv_iconst (v := (-1)) hx hb dX12_begins_66 (by decide +kernel) ?_
                refine lv_goto (tgt := 71) hx hb dX12_begins_67 (by decide) ?_
                exact J71 ls (-1 : Int32) (by rw [zl_m1]; decide) (by first | exact Or.inl zl_0 | exact Or.inr (by omega)) (lv_sub hl [0, 1, 2] rfl)
        exact J45 (4 + 1 - (0 : Int32).toInt).toNat I838 H locs ls (0 : Int32) (by omega) hM hS hR (by rw [zl_0]; decide) (lv_sub hl [0, 1, 2] rfl)
  exact J38 (3 + 1 - (0 : Int32).toInt).toNat I110 H locs ls (0 : Int32) (by omega) hM hS hR (by rw [zl_0]; decide) (lv_sub hl [0, 1] rfl)
def zw_X12_keepsAct : List (Nat × Nat) := [(10, 25), (60, 999)]
set_option maxHeartbeats 8000000 in
set_option maxRecDepth 100000 in
theorem c_X12_keepsAct (l : Launch) (X : zq_X) (zk zn : Nat) (I : zq_M) (L : zq_L X)  (h0 : Nat) (k_h0 : zq_k X h0 = 10) (q_0 : zk ≤ 4400 ∧ zn ≤ 4400) : Met l yX12_keepsAct (zt_w yX12_keepsAct cX12_keepsAct 2 none) (zq_rm (0)) (va_Pc [.ref h0] (zq_W X (zk, zk) I)) (va_Qv (fun I2 => zq_fr (zf X zw_X12_keepsAct (fun _ => False)) I I2) (zq_E X (zk, zk)) (zq_A X)) 0 0 (zq_A X) := by
  refine Met.ofW (cc := cX12_keepsAct) (maxL := 2) (ret := none) (by decide) rfl ?_
  intro p e s m args below meth c s₁ B hml hv
  obtain ⟨hargs, hM, hZ⟩ := hv
  have hown : s.vm.findClass RX12 = some m.cls := findClass_of_methodNamed B.named
  have hts := atoms_spec (ws := zt_w yX12_keepsAct cX12_keepsAct 2 none) B.pre
  have E : CallFix p m c cX12_keepsAct 2 s args (Cond.code yX12_keepsAct cX12_keepsAct 2 none :: zt) RX12 := ⟨B.exec, B.bytes, hml, hown, hts⟩
  have hx := B.exec
  have hb := B.bytes
  have hr := B.returns
  have hlocks := B.notSynchronized
  clear B
  have hS : va_S (zq_A X) s.heap s.heap [] := va_S.rf
  have hR : zq_fr (zf X zw_X12_keepsAct (fun _ => False)) I I := zq_fr.rf
  have hl := lv_entry ([.ref h0]) (n := 2) (by exact Nat.le_of_ble_eq_true rfl)
  have hg : entryFrame m args 2 = F0 m 0 ((lg_sl ([.ref h0]) ++ List.replicate (2 - (lg_sl ([.ref h0])).length) Slot.unset).toArray) [] := by rw [hargs]; exact lg_entry_eq m ([.ref h0]) 2
  rw [hg]
  clear hg hargs
  generalize (lg_sl ([.ref h0]) ++ List.replicate (2 - (lg_sl ([.ref h0])).length) Slot.unset).toArray = ls at hl ⊢
  have hl : lv_has ls 2 [(0, .ref h0)] := by exact hl
  obtain ⟨R, hRm⟩ : ∃ R : Room, R = (headSpec (zt_w yX12_keepsAct cX12_keepsAct 2 none) (zq_rm (0))).room := ⟨_, rfl⟩
  rw [← hRm]
  generalize hQ : MQ below _ args s 0 0 (zq_A X) = Q
  obtain ⟨H, hH⟩ : ∃ H, H = s.heap := ⟨_, rfl⟩
  obtain ⟨locs, hlo⟩ : ∃ x : List Loc, x = [] := ⟨_, rfl⟩
  rw [show W p l e R s m args below meth c s.heap [] 0 0 Q = W p l e R s m args below meth c H locs 0 0 Q by rw [hH, hlo]]
  have hM : zq_hm X (zk, zk) I H := by rw [hH]; exact hM
  have hS : va_S (zq_A X) s.heap H locs := by rw [hH, hlo]; exact hS
  clear hH hlo
  refine lv_aload_n hx hb dX12_keepsAct_0 rfl (lv_at hl 0 rfl) ?_
  refine zq_gn E hM k_h0 (zFX12_263 E hZ) (Or.inl ⟨by decide, by decide, by decide, rfl⟩) dX12_keepsAct_1 (fun x101 ex101 gx101 => ?_)
  replace gx101 : 0 ≤ x101.toInt ∧ x101.toInt ≤ 20 := gx101
  refine lv_bipush (v := 20) hx hb dX12_keepsAct_4 (by decide +kernel) ?_
  have J50 : ∀ (I161 : zq_M) (H : Heap) (locs : List Loc) (ls : Array Slot), (zq_hm X (zk, zk) I161 H) → (va_S (zq_A X) s.heap H locs) → (zq_fr (zf X zw_X12_keepsAct (fun _ => False)) I I161) → (0 ≤ (I161 h0 25).toInt ∧ (I161 h0 25).toInt ≤ 19) → (lv_has ls 2 [(0, .ref h0)]) → W p l e R s m args below meth c H locs 0 0 Q (F0 m 50 ls []) := by
    intro I161 H locs ls hM hS hR hU50 hl
    refine lv_iconst (v := 0) hx hb dX12_keepsAct_50 (by decide +kernel) ?_
    refine lv_istore_n (lv' := [(1, .int (0 : Int32)), (0, .ref h0)]) hx hb dX12_keepsAct_51 rfl hl (by decide) rfl (fun ls hl => ?_)
    have J52 : ∀ (n297 : Nat) (I295 : zq_M) (H : Heap) (locs : List Loc) (ls : Array Slot) (j294 : Int32), 35 + 1 - j294.toInt ≤ ((n297 : Nat) : Int) → (zq_hm X (zk, zk) I295 H) → (va_S (zq_A X) s.heap H locs) → (zq_fr (zf X zw_X12_keepsAct (fun _ => False)) I I295) → (0 ≤ j294.toInt ∧ j294.toInt ≤ 35) → (0 ≤ (I295 h0 25).toInt ∧ (I295 h0 25).toInt ≤ 19) → (lv_has ls 2 [(1, .int j294), (0, .ref h0)]) → W p l e R s m args below meth c H locs 0 0 Q (F0 m 52 ls []) := by
      intro n297
      induction n297 with
      | zero => intro I295 H locs ls j294 mu298 hM hS hR gj294 F296 hl; exfalso; have := zi_rng j294; omega
      | succ n297 ih52 =>
        intro I295 H locs ls j294 mu298 hM hS hR gj294 F296 hl
        refine lv_iload_n hx hb dX12_keepsAct_52 rfl (lv_at hl 0 rfl) ?_
        refine lv_bipush (v := 35) hx hb dX12_keepsAct_53 (by decide +kernel) ?_
        refine lv_icmp_ge (tgt := 87) hx hb dX12_keepsAct_55 (by decide) (fun b299 => ?_) (fun b299 => ?_)
        · have b299 := zi_le b299 (zl_35 : (35 : Int32).toInt = 35) (rfl : j294.toInt = j294.toInt)
          refine lv_aload_n hx hb dX12_keepsAct_87 rfl (lv_at hl 1 rfl) ?_
          refine lv_dup hx hb dX12_keepsAct_88 rfl ?_
          refine zq_gn E hM k_h0 (zFX12_263 E hZ) (Or.inl ⟨by decide, by decide, by decide, rfl⟩) dX12_keepsAct_89 (fun x300 ex300 gx300 => ?_)
          replace gx300 : 0 ≤ x300.toInt ∧ x300.toInt ≤ 20 := gx300
          have fx300 : 0 ≤ x300.toInt ∧ x300.toInt ≤ 19 := by rw [← ex300]; exact F296
          refine lv_iconst (v := 1) hx hb dX12_keepsAct_92 (by decide +kernel) ?_
          refine lv_iadd hx hb dX12_keepsAct_93 ?_
          refine lv_topi (fun x301 ex301 => ?_)
          have tx301 := zi_add ex301 (rfl : x300.toInt = x300.toInt) (zl_1 : (1 : Int32).toInt = 1) ⟨by omega, by omega⟩
          refine zq_pn E hM hS k_h0 (zGX12_263 E hZ) ⟨by decide, by decide, by decide, rfl⟩ (show 0 ≤ x301.toInt ∧ x301.toInt ≤ 20 from ⟨by omega, by omega⟩) dX12_keepsAct_94 (fun I302 H locs eI302 hM hS => ?_)
          have hR := zq_fr.putE hR eI302 (zf_i k_h0 rfl rfl)
          subst hQ
          exact zq_vret E hr hZ hM hS hR hlocks dX12_keepsAct_97
        · have b299 := zi_nle b299 (zl_35 : (35 : Int32).toInt = 35) (rfl : j294.toInt = j294.toInt)
          refine lv_aload_n hx hb dX12_keepsAct_58 rfl (lv_at hl 1 rfl) ?_
          refine zq_getr E hM k_h0 (zFX12_49 E hZ) ⟨by decide, by decide, by decide, rfl⟩ dX12_keepsAct_59 ?_
          have k303 : zq_k X (zq_r X h0 24) = 60 := zq_lk L.1 k_h0 rfl (by decide)
          refine lv_bipush (v := 35) hx hb dX12_keepsAct_62 (by decide +kernel) ?_
          refine lv_aload_n hx hb dX12_keepsAct_64 rfl (lv_at hl 1 rfl) ?_
          refine zq_gn E hM k_h0 (zFX12_263 E hZ) (Or.inl ⟨by decide, by decide, by decide, rfl⟩) dX12_keepsAct_65 (fun x304 ex304 gx304 => ?_)
          replace gx304 : 0 ≤ x304.toInt ∧ x304.toInt ≤ 20 := gx304
          have fx304 : 0 ≤ x304.toInt ∧ x304.toInt ≤ 19 := by rw [← ex304]; exact F296
          refine lv_imul hx hb dX12_keepsAct_68 ?_
          refine lv_topi (fun x305 ex305 => ?_)
          have tx305 := zi_mul ex305 (zl_35 : (35 : Int32).toInt = 35) (rfl : x304.toInt = x304.toInt) ⟨by omega, by omega⟩
          refine lv_iload_n hx hb dX12_keepsAct_69 rfl (lv_at hl 0 rfl) ?_
          refine lv_iadd hx hb dX12_keepsAct_70 ?_
          refine lv_topi (fun x306 ex306 => ?_)
          have tx306 := zi_add ex306 (rfl : x305.toInt = x305.toInt) (rfl : j294.toInt = j294.toInt) ⟨by omega, by omega⟩
          refine lv_aload_n hx hb dX12_keepsAct_71 rfl (lv_at hl 1 rfl) ?_
          refine W.eq (g2 := F0 m 72 ls [.ref h0, .int x306, .ref (zq_r X h0 24)]) rfl ?_
          refine zq_getr E hM k_h0 (zFX12_39 E hZ) ⟨by decide, by decide, by decide, rfl⟩ dX12_keepsAct_72 ?_
          have k307 : zq_k X (zq_r X h0 20) = 59 := zq_lk L.1 k_h0 rfl (by decide)
          refine lv_bipush (v := 10) hx hb dX12_keepsAct_75 (by decide +kernel) ?_
          refine lv_iload_n hx hb dX12_keepsAct_77 rfl (lv_at hl 0 rfl) ?_
          refine lv_iadd hx hb dX12_keepsAct_78 ?_
          refine lv_topi (fun x308 ex308 => ?_)
          have tx308 := zi_add ex308 (zl_10 : (10 : Int32).toInt = 10) (rfl : j294.toInt = j294.toInt) ⟨by omega, by omega⟩
          refine zq_ian (n := 106) (j := (x308.toNatClampNeg)) E hZ hM k307 ⟨by decide, rfl⟩ ⟨by omega, by omega⟩ rfl dX12_keepsAct_79 (fun x309 ex309 gx309 => ?_)
          refine zq_isn (n := 700) (j := (x306.toNatClampNeg)) E hZ hM hS k303 ⟨by decide, rfl⟩ ⟨by omega, by omega⟩ rfl (zk_d gx309 (by have := zq_cl (i := x306) (by omega); have := zq_cl (i := x308) (by omega); omega) (by omega)) dX12_keepsAct_80 (fun I310 H locs eI310 hM hS => ?_)
          have hR := zq_fr.putE hR eI310 (zf_ia k303 (by decide) rfl)
          have hK311 : 0 ≤ (I310 h0 25).toInt ∧ (I310 h0 25).toInt ≤ 19 := by rw [show I310 h0 25 = _ from (zq_kp eI310 (Or.inl (zq_kne k_h0 k303 (by decide))) rfl)]; exact F296
          obtain ⟨x312, ex312⟩ : ∃ y : Int32, y = j294 + 1 := ⟨_, rfl⟩
          have tx312 := zi_add ex312 (rfl : j294.toInt = j294.toInt) zl_1 ⟨by omega, by omega⟩
          refine lv_iinc (v := x312) (lv' := [(1, .int x312), (0, .ref h0)]) hx hb dX12_keepsAct_81 hl (k := 0) rfl (by rw [ex312]; rfl) (by decide) rfl (fun ls hl => ?_)
          refine lv_goto (tgt := 52) hx hb dX12_keepsAct_84 (by decide) ?_
          exact ih52 I310 H locs ls x312 (by omega) hM hS hR (⟨by omega, by omega⟩) hK311 (lv_sub hl [0, 1] rfl)
    exact J52 (35 + 1 - (0 : Int32).toInt).toNat I161 H locs ls (0 : Int32) (by omega) hM hS hR (by rw [zl_0]; decide) hU50 (lv_sub hl [0, 1] rfl)
  refine lv_icmp_ne (tgt := 50) hx hb dX12_keepsAct_6 (by decide) (fun b313 => ?_) (fun b313 => ?_)
  · have b313 := zi_ne b313 (rfl : x101.toInt = x101.toInt) (zl_20 : (20 : Int32).toInt = 20)
    exact J50 I H locs ls hM hS hR (by rw [ex101]; exact ⟨by omega, by omega⟩) (lv_sub hl [0] rfl)
  · have b313 := zi_eq b313 (rfl : x101.toInt = x101.toInt) (zl_20 : (20 : Int32).toInt = 20)
    have hU9 : 20 ≤ (I h0 25).toInt ∧ (I h0 25).toInt ≤ 20 := by rw [ex101]; exact ⟨by omega, by omega⟩
    refine lv_bipush (v := 35) hx hb dX12_keepsAct_9 (by decide +kernel) ?_
    refine lv_istore_n (lv' := [(1, .int (35 : Int32)), (0, .ref h0)]) hx hb dX12_keepsAct_11 rfl hl (by decide) rfl (fun ls hl => ?_)
    have J12 : ∀ (n363 : Nat) (I361 : zq_M) (H : Heap) (locs : List Loc) (ls : Array Slot) (j360 : Int32), 700 + 1 - j360.toInt ≤ ((n363 : Nat) : Int) → (zq_hm X (zk, zk) I361 H) → (va_S (zq_A X) s.heap H locs) → (zq_fr (zf X zw_X12_keepsAct (fun _ => False)) I I361) → (35 ≤ j360.toInt ∧ j360.toInt ≤ 700) → (20 ≤ (I361 h0 25).toInt ∧ (I361 h0 25).toInt ≤ 20) → (lv_has ls 2 [(1, .int j360), (0, .ref h0)]) → W p l e R s m args below meth c H locs 0 0 Q (F0 m 12 ls []) := by
      intro n363
      induction n363 with
      | zero => intro I361 H locs ls j360 mu364 hM hS hR gj360 F362 hl; exfalso; have := zi_rng j360; omega
      | succ n363 ih12 =>
        intro I361 H locs ls j360 mu364 hM hS hR gj360 F362 hl
        refine lv_iload_n hx hb dX12_keepsAct_12 rfl (lv_at hl 0 rfl) ?_
        refine lv_sipush (v := 700) hx hb dX12_keepsAct_13 (by decide +kernel) ?_
        refine lv_icmp_ge (tgt := 40) hx hb dX12_keepsAct_16 (by decide) (fun b365 => ?_) (fun b365 => ?_)
        · have b365 := zi_le b365 (zl_700 : (700 : Int32).toInt = 700) (rfl : j360.toInt = j360.toInt)
          refine lv_aload_n hx hb dX12_keepsAct_40 rfl (lv_at hl 1 rfl) ?_
          refine lv_dup hx hb dX12_keepsAct_41 rfl ?_
          refine zq_gn E hM k_h0 (zFX12_263 E hZ) (Or.inl ⟨by decide, by decide, by decide, rfl⟩) dX12_keepsAct_42 (fun x366 ex366 gx366 => ?_)
          replace gx366 : 0 ≤ x366.toInt ∧ x366.toInt ≤ 20 := gx366
          have fx366 : 20 ≤ x366.toInt ∧ x366.toInt ≤ 20 := by rw [← ex366]; exact F362
          refine lv_iconst (v := 1) hx hb dX12_keepsAct_45 (by decide +kernel) ?_
          refine lv_isub hx hb dX12_keepsAct_46 ?_
          refine lv_topi (fun x367 ex367 => ?_)
          have tx367 := zi_sub ex367 (rfl : x366.toInt = x366.toInt) (zl_1 : (1 : Int32).toInt = 1) ⟨by omega, by omega⟩
          refine zq_pn E hM hS k_h0 (zGX12_263 E hZ) ⟨by decide, by decide, by decide, rfl⟩ (show 0 ≤ x367.toInt ∧ x367.toInt ≤ 20 from ⟨by omega, by omega⟩) dX12_keepsAct_47 (fun I368 H locs eI368 hM hS => ?_)
          have hR := zq_fr.putE hR eI368 (zf_i k_h0 rfl rfl)
          exact J50 I368 H locs ls hM hS hR (by rw [(zq_kv eI368)]; exact ⟨by omega, by omega⟩) (lv_sub hl [1] rfl)
        · have b365 := zi_nle b365 (zl_700 : (700 : Int32).toInt = 700) (rfl : j360.toInt = j360.toInt)
          refine lv_aload_n hx hb dX12_keepsAct_19 rfl (lv_at hl 1 rfl) ?_
          refine zq_getr E hM k_h0 (zFX12_49 E hZ) ⟨by decide, by decide, by decide, rfl⟩ dX12_keepsAct_20 ?_
          have k369 : zq_k X (zq_r X h0 24) = 60 := zq_lk L.1 k_h0 rfl (by decide)
          refine lv_iload_n hx hb dX12_keepsAct_23 rfl (lv_at hl 0 rfl) ?_
          refine lv_bipush (v := 35) hx hb dX12_keepsAct_24 (by decide +kernel) ?_
          refine lv_isub hx hb dX12_keepsAct_26 ?_
          refine lv_topi (fun x370 ex370 => ?_)
          have tx370 := zi_sub ex370 (rfl : j360.toInt = j360.toInt) (zl_35 : (35 : Int32).toInt = 35) ⟨by omega, by omega⟩
          refine lv_aload_n hx hb dX12_keepsAct_27 rfl (lv_at hl 1 rfl) ?_
          refine zq_getr E hM k_h0 (zFX12_49 E hZ) ⟨by decide, by decide, by decide, rfl⟩ dX12_keepsAct_28 ?_
          have k371 : zq_k X (zq_r X h0 24) = 60 := zq_lk L.1 k_h0 rfl (by decide)
          refine lv_iload_n hx hb dX12_keepsAct_31 rfl (lv_at hl 0 rfl) ?_
          refine zq_ian (n := 700) (j := (j360.toNatClampNeg)) E hZ hM k371 ⟨by decide, rfl⟩ ⟨by omega, by omega⟩ rfl dX12_keepsAct_32 (fun x372 ex372 gx372 => ?_)
          refine W.eq (g2 := F0 m 33 ls [.int x372, .int x370, .ref (zq_r X h0 24)]) rfl ?_
          refine zq_isn (n := 700) (j := (x370.toNatClampNeg)) E hZ hM hS k369 ⟨by decide, rfl⟩ ⟨by omega, by omega⟩ rfl (zk_c gx372 (by have := zq_cl (i := x370) (by omega); have := zq_cl (i := j360) (by omega); omega)) dX12_keepsAct_33 (fun I373 H locs eI373 hM hS => ?_)
          have hR := zq_fr.putE hR eI373 (zf_ia k369 (by decide) rfl)
          have hK374 : 20 ≤ (I373 h0 25).toInt ∧ (I373 h0 25).toInt ≤ 20 := by rw [show I373 h0 25 = _ from (zq_kp eI373 (Or.inl (zq_kne k_h0 k369 (by decide))) rfl)]; exact F362
          obtain ⟨x375, ex375⟩ : ∃ y : Int32, y = j360 + 1 := ⟨_, rfl⟩
          have tx375 := zi_add ex375 (rfl : j360.toInt = j360.toInt) zl_1 ⟨by omega, by omega⟩
          refine lv_iinc (v := x375) (lv' := [(1, .int x375), (0, .ref h0)]) hx hb dX12_keepsAct_34 hl (k := 0) rfl (by rw [ex375]; rfl) (by decide) rfl (fun ls hl => ?_)
          refine lv_goto (tgt := 12) hx hb dX12_keepsAct_37 (by decide) ?_
          exact ih12 I373 H locs ls x375 (by omega) hM hS hR (⟨by omega, by omega⟩) hK374 (lv_sub hl [0, 1] rfl)
    exact J12 (700 + 1 - (35 : Int32).toInt).toNat I H locs ls (35 : Int32) (by omega) hM hS hR (by rw [zl_35]; decide) hU9 (lv_sub hl [0, 1] rfl)
def zw_X12_undo : List (Nat × Nat) := [(10, 25), (59, 999)]
set_option maxHeartbeats 8000000 in
set_option maxRecDepth 100000 in
theorem c_X12_undo (l : Launch) (X : zq_X) (zk zn : Nat) (I : zq_M) (L : zq_L X)  (h0 : Nat) (k_h0 : zq_k X h0 = 10) (q_0 : zk ≤ 4400 ∧ zn ≤ 4400) : Met l yX12_undo (zt_w yX12_undo cX12_undo 2 (some .int)) (zq_rm (0)) (va_Pc [.ref h0] (zq_W X (zk, zk) I)) (va_Qi (fun (r : Int32) I2 => zq_fr (zf X zw_X12_undo (fun _ => False)) I I2 ∧ ((-1) ≤ r.toInt ∧ r.toInt ≤ 19)) (zq_E X (zk, zk)) (zq_A X)) 0 0 (zq_A X) := by
  refine Met.ofW (cc := cX12_undo) (maxL := 2) (ret := (some .int)) (by decide) rfl ?_
  intro p e s m args below meth c s₁ B hml hv
  obtain ⟨hargs, hM, hZ⟩ := hv
  have hown : s.vm.findClass RX12 = some m.cls := findClass_of_methodNamed B.named
  have hts := atoms_spec (ws := zt_w yX12_undo cX12_undo 2 (some .int)) B.pre
  have E : CallFix p m c cX12_undo 2 s args (Cond.code yX12_undo cX12_undo 2 (some .int) :: zt) RX12 := ⟨B.exec, B.bytes, hml, hown, hts⟩
  have hx := B.exec
  have hb := B.bytes
  have hr := B.returns
  have hlocks := B.notSynchronized
  clear B
  have hS : va_S (zq_A X) s.heap s.heap [] := va_S.rf
  have hR : zq_fr (zf X zw_X12_undo (fun _ => False)) I I := zq_fr.rf
  have hl := lv_entry ([.ref h0]) (n := 2) (by exact Nat.le_of_ble_eq_true rfl)
  have hg : entryFrame m args 2 = F0 m 0 ((lg_sl ([.ref h0]) ++ List.replicate (2 - (lg_sl ([.ref h0])).length) Slot.unset).toArray) [] := by rw [hargs]; exact lg_entry_eq m ([.ref h0]) 2
  rw [hg]
  clear hg hargs
  generalize (lg_sl ([.ref h0]) ++ List.replicate (2 - (lg_sl ([.ref h0])).length) Slot.unset).toArray = ls at hl ⊢
  have hl : lv_has ls 2 [(0, .ref h0)] := by exact hl
  obtain ⟨R, hRm⟩ : ∃ R : Room, R = (headSpec (zt_w yX12_undo cX12_undo 2 (some .int)) (zq_rm (0))).room := ⟨_, rfl⟩
  rw [← hRm]
  generalize hQ : MQ below _ args s 0 0 (zq_A X) = Q
  obtain ⟨H, hH⟩ : ∃ H, H = s.heap := ⟨_, rfl⟩
  obtain ⟨locs, hlo⟩ : ∃ x : List Loc, x = [] := ⟨_, rfl⟩
  rw [show W p l e R s m args below meth c s.heap [] 0 0 Q = W p l e R s m args below meth c H locs 0 0 Q by rw [hH, hlo]]
  have hM : zq_hm X (zk, zk) I H := by rw [hH]; exact hM
  have hS : va_S (zq_A X) s.heap H locs := by rw [hH, hlo]; exact hS
  clear hH hlo
  refine lv_aload_n hx hb dX12_undo_0 rfl (lv_at hl 0 rfl) ?_
  refine zq_gn E hM k_h0 (zFX12_263 E hZ) (Or.inl ⟨by decide, by decide, by decide, rfl⟩) dX12_undo_1 (fun x101 ex101 gx101 => ?_)
  replace gx101 : 0 ≤ x101.toInt ∧ x101.toInt ≤ 20 := gx101
  refine lv_if_ne (tgt := 9) hx hb dX12_undo_4 (by decide) (fun b102 => ?_) (fun b102 => ?_)
  · have b102 := zi_ne b102 (rfl : x101.toInt = x101.toInt) (zl_0 : (0 : Int32).toInt = 0)
    refine lv_aload_n hx hb dX12_undo_9 rfl (lv_at hl 0 rfl) ?_
    refine lv_dup hx hb dX12_undo_10 rfl ?_
    refine zq_gk (v := x101) E hM k_h0 (zFX12_263 E hZ) (Or.inl ⟨by decide, by decide, by decide, rfl⟩) ex101 dX12_undo_11 ?_
    refine lv_iconst (v := 1) hx hb dX12_undo_14 (by decide +kernel) ?_
    refine lv_isub hx hb dX12_undo_15 ?_
    refine lv_topi (fun x103 ex103 => ?_)
    have tx103 := zi_sub ex103 (rfl : x101.toInt = x101.toInt) (zl_1 : (1 : Int32).toInt = 1) ⟨by omega, by omega⟩
    refine zq_pn E hM hS k_h0 (zGX12_263 E hZ) ⟨by decide, by decide, by decide, rfl⟩ (show 0 ≤ x103.toInt ∧ x103.toInt ≤ 20 from ⟨by omega, by omega⟩) dX12_undo_16 (fun I104 H locs eI104 hM hS => ?_)
    have hR := zq_fr.putE hR eI104 (zf_i k_h0 rfl rfl)
    have hU19 : 0 ≤ (I104 h0 25).toInt ∧ (I104 h0 25).toInt ≤ 19 := by rw [(zq_kv eI104)]; exact ⟨by omega, by omega⟩
    refine lv_iconst (v := 0) hx hb dX12_undo_19 (by decide +kernel) ?_
    refine lv_istore_n (lv' := [(1, .int (0 : Int32)), (0, .ref h0)]) hx hb dX12_undo_20 rfl hl (by decide) rfl (fun ls hl => ?_)
    have J21 : ∀ (n162 : Nat) (I160 : zq_M) (H : Heap) (locs : List Loc) (ls : Array Slot) (j159 : Int32), 35 + 1 - j159.toInt ≤ ((n162 : Nat) : Int) → (zq_hm X (zk, zk) I160 H) → (va_S (zq_A X) s.heap H locs) → (zq_fr (zf X zw_X12_undo (fun _ => False)) I I160) → (0 ≤ j159.toInt ∧ j159.toInt ≤ 35) → (0 ≤ (I160 h0 25).toInt ∧ (I160 h0 25).toInt ≤ 19) → (lv_has ls 2 [(1, .int j159), (0, .ref h0)]) → W p l e R s m args below meth c H locs 0 0 Q (F0 m 21 ls []) := by
      intro n162
      induction n162 with
      | zero => intro I160 H locs ls j159 mu163 hM hS hR gj159 F161 hl; exfalso; have := zi_rng j159; omega
      | succ n162 ih21 =>
        intro I160 H locs ls j159 mu163 hM hS hR gj159 F161 hl
        refine lv_iload_n hx hb dX12_undo_21 rfl (lv_at hl 0 rfl) ?_
        refine lv_bipush (v := 35) hx hb dX12_undo_22 (by decide +kernel) ?_
        refine lv_icmp_ge (tgt := 56) hx hb dX12_undo_24 (by decide) (fun b164 => ?_) (fun b164 => ?_)
        · have b164 := zi_le b164 (zl_35 : (35 : Int32).toInt = 35) (rfl : j159.toInt = j159.toInt)
          refine lv_aload_n hx hb dX12_undo_56 rfl (lv_at hl 1 rfl) ?_
          refine zq_gn E hM k_h0 (zFX12_263 E hZ) (Or.inl ⟨by decide, by decide, by decide, rfl⟩) dX12_undo_57 (fun x165 ex165 gx165 => ?_)
          replace gx165 : 0 ≤ x165.toInt ∧ x165.toInt ≤ 20 := gx165
          have fx165 : 0 ≤ x165.toInt ∧ x165.toInt ≤ 19 := by rw [← ex165]; exact F161
          subst hQ
          exact zq_iret E hr hZ hM hS ⟨hR, (by omega)⟩ hlocks dX12_undo_60
        · have b164 := zi_nle b164 (zl_35 : (35 : Int32).toInt = 35) (rfl : j159.toInt = j159.toInt)
          refine lv_aload_n hx hb dX12_undo_27 rfl (lv_at hl 1 rfl) ?_
          refine zq_getr E hM k_h0 (zFX12_39 E hZ) ⟨by decide, by decide, by decide, rfl⟩ dX12_undo_28 ?_
          have k166 : zq_k X (zq_r X h0 20) = 59 := zq_lk L.1 k_h0 rfl (by decide)
          refine lv_bipush (v := 10) hx hb dX12_undo_31 (by decide +kernel) ?_
          refine lv_iload_n hx hb dX12_undo_33 rfl (lv_at hl 0 rfl) ?_
          refine lv_iadd hx hb dX12_undo_34 ?_
          refine lv_topi (fun x167 ex167 => ?_)
          have tx167 := zi_add ex167 (zl_10 : (10 : Int32).toInt = 10) (rfl : j159.toInt = j159.toInt) ⟨by omega, by omega⟩
          refine lv_aload_n hx hb dX12_undo_35 rfl (lv_at hl 1 rfl) ?_
          refine zq_getr E hM k_h0 (zFX12_49 E hZ) ⟨by decide, by decide, by decide, rfl⟩ dX12_undo_36 ?_
          have k168 : zq_k X (zq_r X h0 24) = 60 := zq_lk L.1 k_h0 rfl (by decide)
          refine lv_bipush (v := 35) hx hb dX12_undo_39 (by decide +kernel) ?_
          refine lv_aload_n hx hb dX12_undo_41 rfl (lv_at hl 1 rfl) ?_
          refine W.eq (g2 := F0 m 42 ls [.ref h0, .int (35 : Int32), .ref (zq_r X h0 24), .int x167, .ref (zq_r X h0 20)]) rfl ?_
          refine zq_gn E hM k_h0 (zFX12_263 E hZ) (Or.inl ⟨by decide, by decide, by decide, rfl⟩) dX12_undo_42 (fun x169 ex169 gx169 => ?_)
          replace gx169 : 0 ≤ x169.toInt ∧ x169.toInt ≤ 20 := gx169
          have fx169 : 0 ≤ x169.toInt ∧ x169.toInt ≤ 19 := by rw [← ex169]; exact F161
          refine lv_imul hx hb dX12_undo_45 ?_
          refine lv_topi (fun x170 ex170 => ?_)
          have tx170 := zi_mul ex170 (zl_35 : (35 : Int32).toInt = 35) (rfl : x169.toInt = x169.toInt) ⟨by omega, by omega⟩
          refine lv_iload_n hx hb dX12_undo_46 rfl (lv_at hl 0 rfl) ?_
          refine lv_iadd hx hb dX12_undo_47 ?_
          refine lv_topi (fun x171 ex171 => ?_)
          have tx171 := zi_add ex171 (rfl : x170.toInt = x170.toInt) (rfl : j159.toInt = j159.toInt) ⟨by omega, by omega⟩
          refine zq_ian (n := 700) (j := (x171.toNatClampNeg)) E hZ hM k168 ⟨by decide, rfl⟩ ⟨by omega, by omega⟩ rfl dX12_undo_48 (fun x172 ex172 gx172 => ?_)
          refine zq_isn (n := 106) (j := (x167.toNatClampNeg)) E hZ hM hS k166 ⟨by decide, rfl⟩ ⟨by omega, by omega⟩ rfl (zk_e gx172 (by have := zq_cl (i := x167) (by omega); have := zq_cl (i := x171) (by omega); omega) (by omega)) dX12_undo_49 (fun I173 H locs eI173 hM hS => ?_)
          have hR := zq_fr.putE hR eI173 (zf_ia k166 (by decide) rfl)
          have hK174 : 0 ≤ (I173 h0 25).toInt ∧ (I173 h0 25).toInt ≤ 19 := by rw [show I173 h0 25 = _ from (zq_kp eI173 (Or.inl (zq_kne k_h0 k166 (by decide))) rfl)]; exact F161
          obtain ⟨x175, ex175⟩ : ∃ y : Int32, y = j159 + 1 := ⟨_, rfl⟩
          have tx175 := zi_add ex175 (rfl : j159.toInt = j159.toInt) zl_1 ⟨by omega, by omega⟩
          refine lv_iinc (v := x175) (lv' := [(1, .int x175), (0, .ref h0)]) hx hb dX12_undo_50 hl (k := 0) rfl (by rw [ex175]; rfl) (by decide) rfl (fun ls hl => ?_)
          refine lv_goto (tgt := 21) hx hb dX12_undo_53 (by decide) ?_
          exact ih21 I173 H locs ls x175 (by omega) hM hS hR (⟨by omega, by omega⟩) hK174 (lv_sub hl [0, 1] rfl)
    exact J21 (35 + 1 - (0 : Int32).toInt).toNat I104 H locs ls (0 : Int32) (by omega) hM hS hR (by rw [zl_0]; decide) hU19 (lv_sub hl [0, 1] rfl)
  · have b102 := zi_eq b102 (rfl : x101.toInt = x101.toInt) (zl_0 : (0 : Int32).toInt = 0)
    refine lv_iconst (v := (-1)) hx hb dX12_undo_7 (by decide +kernel) ?_
    subst hQ
    exact zq_iret E hr hZ hM hS ⟨hR, (by have := zl_m1; omega)⟩ hlocks dX12_undo_8
def zw_X12_month : List (Nat × Nat) := [(10, 18), (10, 25), (59, 999), (60, 999)]
set_option maxHeartbeats 8000000 in
set_option maxRecDepth 100000 in
theorem c_X12_month (l : Launch) (X : zq_X) (zk zn : Nat) (I : zq_M) (L : zq_L X)  (h0 : Nat) (k_h0 : zq_k X h0 = 10) (q_0 : zk ≤ 4400 ∧ zn ≤ 4400) (q_1 : zWF X I h0) (q_2 : zk ≤ 2200) : Met l yX12_month (zt_w yX12_month cX12_month 1 (some .int)) (zq_rm (5)) (va_Pc [.ref h0] (zq_W X (zk, zk) I)) (va_Qi (fun (r : Int32) I2 => zq_fr (zf X zw_X12_month (fun _ => False)) I I2) (zq_E X (zk, zk + 4)) (zq_A X)) 0 0 (zq_A X) := by
  refine Met.ofW (cc := cX12_month) (maxL := 1) (ret := (some .int)) (by decide) rfl ?_
  intro p e s m args below meth c s₁ B hml hv
  obtain ⟨hargs, hM, hZ⟩ := hv
  have hown : s.vm.findClass RX12 = some m.cls := findClass_of_methodNamed B.named
  have hts := atoms_spec (ws := zt_w yX12_month cX12_month 1 (some .int)) B.pre
  have E : CallFix p m c cX12_month 1 s args (Cond.code yX12_month cX12_month 1 (some .int) :: zt) RX12 := ⟨B.exec, B.bytes, hml, hown, hts⟩
  have hx := B.exec
  have hb := B.bytes
  have hr := B.returns
  have hlocks := B.notSynchronized
  clear B
  have hS : va_S (zq_A X) s.heap s.heap [] := va_S.rf
  have hR : zq_fr (zf X zw_X12_month (fun _ => False)) I I := zq_fr.rf
  have hl := lv_entry ([.ref h0]) (n := 1) (by exact Nat.le_of_ble_eq_true rfl)
  have hg : entryFrame m args 1 = F0 m 0 ((lg_sl ([.ref h0]) ++ List.replicate (1 - (lg_sl ([.ref h0])).length) Slot.unset).toArray) [] := by rw [hargs]; exact lg_entry_eq m ([.ref h0]) 1
  rw [hg]
  clear hg hargs
  generalize (lg_sl ([.ref h0]) ++ List.replicate (1 - (lg_sl ([.ref h0])).length) Slot.unset).toArray = ls at hl ⊢
  have hl : lv_has ls 1 [(0, .ref h0)] := by exact hl
  obtain ⟨R, hRm⟩ : ∃ R : Room, R = (headSpec (zt_w yX12_month cX12_month 1 (some .int)) (zq_rm (5))).room := ⟨_, rfl⟩
  rw [← hRm]
  have hro : ∀ d q : Nat, d + 1 ≤ 5 → q ≤ 45 → zq_rok d q R := fun d q h1 h2 => by rw [hRm]; exact zq_rokI h1 h2
  generalize hQ : MQ below _ args s 0 0 (zq_A X) = Q
  obtain ⟨H, hH⟩ : ∃ H, H = s.heap := ⟨_, rfl⟩
  obtain ⟨locs, hlo⟩ : ∃ x : List Loc, x = [] := ⟨_, rfl⟩
  rw [show W p l e R s m args below meth c s.heap [] 0 0 Q = W p l e R s m args below meth c H locs 0 0 Q by rw [hH, hlo]]
  have hM : zq_hm X (zk, zk) I H := by rw [hH]; exact hM
  have hS : va_S (zq_A X) s.heap H locs := by rw [hH, hlo]; exact hS
  clear hH hlo
  refine lv_aload_n hx hb dX12_month_0 rfl (lv_at hl 0 rfl) ?_
  refine zq_pcalli (zq_rV (As := []) (rest := []) E hZ hM k_h0 (c_X12_isTrade l X zk (zk) I L h0 k_h0 (by omega)) zmX12_357 zM_X12_isTrade (hro (0) 1 (by first | decide | omega) (by decide)) ⟨by decide, by decide⟩ rfl hl.1 rfl rfl (Nat.le_of_ble_eq_true rfl) dX12_month_1) hS (fun x102 H locs h101 hM hS => ?_)
  have p103 := h101
  refine lv_if_eq (tgt := 20) hx hb dX12_month_4 (by decide) (fun b104 => ?_) (fun b104 => ?_)
  · have b104 := zi_eq b104 (rfl : x102.toInt = x102.toInt) (zl_0 : (0 : Int32).toInt = 0)
    refine lv_iconst (v := (-1)) hx hb dX12_month_20 (by decide +kernel) ?_
    have hM : zq_hm X (zk, (zk + 4)) I H := zq_hm.mono hM (Nat.le_refl _) (by omega)
    subst hQ
    exact zq_iret E hr hZ hM hS hR hlocks dX12_month_21
  · have b104 := zi_ne b104 (rfl : x102.toInt = x102.toInt) (zl_0 : (0 : Int32).toInt = 0)
    refine lv_aload_n hx hb dX12_month_7 rfl (lv_at hl 0 rfl) ?_
    refine zq_getr E hM k_h0 (zFX12_39 E hZ) ⟨by decide, by decide, by decide, rfl⟩ dX12_month_8 ?_
    have k105 : zq_k X (zq_r X h0 20) = 59 := zq_lk L.1 k_h0 rfl (by decide)
    refine lv_bipush (v := 12) hx hb dX12_month_11 (by decide +kernel) ?_
    refine zq_ian (n := 106) (j := 12) E hZ hM k105 ⟨by decide, rfl⟩ (by rw [zl_12]; decide) (by decide +kernel) dX12_month_13 (fun x106 ex106 gx106 => ?_)
    replace gx106 : 0 ≤ x106.toInt ∧ x106.toInt ≤ ((zk : Nat) : Int) := gx106
    refine lv_sipush (v := 999) hx hb dX12_month_14 (by decide +kernel) ?_
    refine lv_icmp_ne (tgt := 22) hx hb dX12_month_17 (by decide) (fun b107 => ?_) (fun b107 => ?_)
    · have b107 := zi_ne b107 (rfl : x106.toInt = x106.toInt) (zl_999 : (999 : Int32).toInt = 999)
      refine lv_aload_n hx hb dX12_month_22 rfl (lv_at hl 0 rfl) ?_
      refine zq_callv (zq_rV (As := []) (rest := []) E hZ hM k_h0 (c_X12_keepsAct l X zk (zk) I L h0 k_h0 (by omega)) zmX12_360 zM_X12_keepsAct (hro (0) 2 (by first | decide | omega) (by decide)) ⟨by decide, by decide⟩ rfl hl.1 rfl rfl (Nat.le_of_ble_eq_true rfl) dX12_month_23) hS (fun I110 H locs h108 hM hS => ?_)
      have fr111 := h108
      have hR := zq_fr.call hR fr111 (zf_sub (by decide +kernel) (fun _ _ q => q.elim))
      have hWF112 := zWF.fr q_1 L k_h0 fr111 (by decide)
      refine lv_aload_n hx hb dX12_month_26 rfl (lv_at hl 0 rfl) ?_
      refine zq_calli (zq_rV (As := []) (rest := []) E hZ hM k_h0 (c_X12_passes l X zk (zk) I110 L h0 k_h0 (by omega) (hWF112) (by omega)) zmX12_363 zM_X12_passes (hro (4) 3 (by first | decide | omega) (by decide)) ⟨by decide, by decide⟩ rfl hl.1 rfl rfl (Nat.le_of_ble_eq_true rfl) dX12_month_27) hS (fun x114 I115 H locs h113 hM hS => ?_)
      have fr116 := h113
      have hR := zq_fr.call hR fr116 (zf_sub (by decide +kernel) (fun _ _ q => q.elim))
      have hWF117 := zWF.fr hWF112 L k_h0 fr116 (by decide)
      subst hQ
      exact zq_iret E hr hZ hM hS hR hlocks dX12_month_30
    · have b107 := zi_eq b107 (rfl : x106.toInt = x106.toInt) (zl_999 : (999 : Int32).toInt = 999)
      refine lv_iconst (v := (-1)) hx hb dX12_month_20 (by decide +kernel) ?_
      have hM : zq_hm X (zk, (zk + 4)) I H := zq_hm.mono hM (Nat.le_refl _) (by omega)
      subst hQ
      exact zq_iret E hr hZ hM hS hR hlocks dX12_month_21
def zw_X12_sail : List (Nat × Nat) := [(10, 25), (59, 999), (60, 999)]
set_option maxHeartbeats 8000000 in
set_option maxRecDepth 100000 in
theorem c_X12_sail (l : Launch) (X : zq_X) (zk zn : Nat) (I : zq_M) (L : zq_L X)  (h0 : Nat) (k_h0 : zq_k X h0 = 10) (p1 : Int32) (p2 : Int32) (p3 : Int32) (p4 : Int32) (g_p4 : 0 ≤ p4.toInt ∧ p4.toInt ≤ 1) (q_0 : zk ≤ 4400 ∧ zn ≤ 4400) (q_1 : zk ≤ 2200) : Met l yX12_sail (zt_w yX12_sail cX12_sail 5 (some .int)) (zq_rm (3)) (va_Pc [.ref h0, .int p1, .int p2, .int p3, .int p4] (zq_W X (zk, zk) I)) (va_Qi (fun (r : Int32) I2 => zq_fr (zf X zw_X12_sail (fun _ => False)) I I2) (zq_E X (zk, zk)) (zq_A X)) 0 0 (zq_A X) := by
  refine Met.ofW (cc := cX12_sail) (maxL := 5) (ret := (some .int)) (by decide) rfl ?_
  intro p e s m args below meth c s₁ B hml hv
  obtain ⟨hargs, hM, hZ⟩ := hv
  have hown : s.vm.findClass RX12 = some m.cls := findClass_of_methodNamed B.named
  have hts := atoms_spec (ws := zt_w yX12_sail cX12_sail 5 (some .int)) B.pre
  have E : CallFix p m c cX12_sail 5 s args (Cond.code yX12_sail cX12_sail 5 (some .int) :: zt) RX12 := ⟨B.exec, B.bytes, hml, hown, hts⟩
  have hx := B.exec
  have hb := B.bytes
  have hr := B.returns
  have hlocks := B.notSynchronized
  clear B
  have hS : va_S (zq_A X) s.heap s.heap [] := va_S.rf
  have hR : zq_fr (zf X zw_X12_sail (fun _ => False)) I I := zq_fr.rf
  have hl := lv_entry ([.ref h0, .int p1, .int p2, .int p3, .int p4]) (n := 5) (by exact Nat.le_of_ble_eq_true rfl)
  have hg : entryFrame m args 5 = F0 m 0 ((lg_sl ([.ref h0, .int p1, .int p2, .int p3, .int p4]) ++ List.replicate (5 - (lg_sl ([.ref h0, .int p1, .int p2, .int p3, .int p4])).length) Slot.unset).toArray) [] := by rw [hargs]; exact lg_entry_eq m ([.ref h0, .int p1, .int p2, .int p3, .int p4]) 5
  rw [hg]
  clear hg hargs
  generalize (lg_sl ([.ref h0, .int p1, .int p2, .int p3, .int p4]) ++ List.replicate (5 - (lg_sl ([.ref h0, .int p1, .int p2, .int p3, .int p4])).length) Slot.unset).toArray = ls at hl ⊢
  have hl : lv_has ls 5 [(0, .ref h0), (1, .int p1), (2, .int p2), (3, .int p3), (4, .int p4)] := by exact hl
  obtain ⟨R, hRm⟩ : ∃ R : Room, R = (headSpec (zt_w yX12_sail cX12_sail 5 (some .int)) (zq_rm (3))).room := ⟨_, rfl⟩
  rw [← hRm]
  have hro : ∀ d q : Nat, d + 1 ≤ 3 → q ≤ 45 → zq_rok d q R := fun d q h1 h2 => by rw [hRm]; exact zq_rokI h1 h2
  generalize hQ : MQ below _ args s 0 0 (zq_A X) = Q
  obtain ⟨H, hH⟩ : ∃ H, H = s.heap := ⟨_, rfl⟩
  obtain ⟨locs, hlo⟩ : ∃ x : List Loc, x = [] := ⟨_, rfl⟩
  rw [show W p l e R s m args below meth c s.heap [] 0 0 Q = W p l e R s m args below meth c H locs 0 0 Q by rw [hH, hlo]]
  have hM : zq_hm X (zk, zk) I H := by rw [hH]; exact hM
  have hS : va_S (zq_A X) s.heap H locs := by rw [hH, hlo]; exact hS
  clear hH hlo
  refine lv_aload_n hx hb dX12_sail_0 rfl (lv_at hl 0 rfl) ?_
  refine lv_iload_n hx hb dX12_sail_1 rfl (lv_at hl 1 rfl) ?_
  refine zq_pcalli (zq_rV (As := [.int p1]) (rest := []) E hZ hM k_h0 (c_X12_isShip l X zk (zk) I L h0 k_h0 p1 (by have := zi_rng p1; omega)) zmX12_288 zM_X12_isShip (hro (0) 2 (by first | decide | omega) (by decide)) ⟨by decide, by decide⟩ rfl hl.1 rfl rfl (Nat.le_of_ble_eq_true rfl) dX12_sail_2) hS (fun x102 H locs h101 hM hS => ?_)
  obtain ⟨p103, p104⟩ := h101
  refine lv_if_eq (tgt := 39) hx hb dX12_sail_5 (by decide) (fun b105 => ?_) (fun b105 => ?_)
  · have b105 := zi_eq b105 (rfl : x102.toInt = x102.toInt) (zl_0 : (0 : Int32).toInt = 0)
    refine lv_iconst (v := (-1)) hx hb dX12_sail_39 (by decide +kernel) ?_
    subst hQ
    exact zq_iret E hr hZ hM hS hR hlocks dX12_sail_40
  · have b105 := zi_ne b105 (rfl : x102.toInt = x102.toInt) (zl_0 : (0 : Int32).toInt = 0)
    refine lv_aload_n hx hb dX12_sail_8 rfl (lv_at hl 0 rfl) ?_
    refine lv_iload_n hx hb dX12_sail_9 rfl (lv_at hl 2 rfl) ?_
    refine zq_pcalli (zq_rV (As := [.int p2]) (rest := []) E hZ hM k_h0 (c_X12_isTown l X zk (zk) I L h0 k_h0 p2 (by have := zi_rng p2; omega)) zmX12_299 zM_X12_isTown (hro (0) 2 (by first | decide | omega) (by decide)) ⟨by decide, by decide⟩ rfl hl.1 rfl rfl (Nat.le_of_ble_eq_true rfl) dX12_sail_10) hS (fun x107 H locs h106 hM hS => ?_)
    obtain ⟨p108, p109⟩ := h106
    refine lv_if_eq (tgt := 39) hx hb dX12_sail_13 (by decide) (fun b110 => ?_) (fun b110 => ?_)
    · have b110 := zi_eq b110 (rfl : x107.toInt = x107.toInt) (zl_0 : (0 : Int32).toInt = 0)
      refine lv_iconst (v := (-1)) hx hb dX12_sail_39 (by decide +kernel) ?_
      subst hQ
      exact zq_iret E hr hZ hM hS hR hlocks dX12_sail_40
    · have b110 := zi_ne b110 (rfl : x107.toInt = x107.toInt) (zl_0 : (0 : Int32).toInt = 0)
      refine lv_iload_n hx hb dX12_sail_16 rfl (lv_at hl 3 rfl) ?_
      refine lv_i2l hx hb dX12_sail_17 rfl ?_
      refine lv_topl (fun y111 ey111 => ?_)
      have ty111 := zi_i2l ey111
      have := zi_rng p3
      refine lv_lconst (v := 1) hx hb dX12_sail_18 (by decide +kernel) ?_
      refine W.ldc2 (v := 99) hx hb hown (hts _ (List.mem_cons_of_mem _ zCX12_366)) rfl dX12_sail_19 ?_
      refine W.eq (g2 := F0 m 22 ls [.long (99 : Int64), .long (1 : Int64), .long y111]) rfl ?_
      refine zq_pcalli (zq_rS (As := [.long y111, .long (1 : Int64), .long (99 : Int64)]) (rest := []) E hZ hM (c_X12_in l X zk (zk) I L y111 (1 : Int64) (99 : Int64)) zmX12_112 zM_X12_in (hro (0) 6 (by first | decide | omega) (by decide)) hl.1 rfl rfl (Nat.le_of_ble_eq_true rfl) dX12_sail_22) hS (fun x113 H locs h112 hM hS => ?_)
      obtain ⟨p114, p115⟩ := h112
      have : (1 : Int64).toInt = 1 := by decide +kernel
      have : (99 : Int64).toInt = 99 := by decide +kernel
      refine lv_if_eq (tgt := 39) hx hb dX12_sail_25 (by decide) (fun b116 => ?_) (fun b116 => ?_)
      · have b116 := zi_eq b116 (rfl : x113.toInt = x113.toInt) (zl_0 : (0 : Int32).toInt = 0)
        refine lv_iconst (v := (-1)) hx hb dX12_sail_39 (by decide +kernel) ?_
        subst hQ
        exact zq_iret E hr hZ hM hS hR hlocks dX12_sail_40
      · have b116 := zi_ne b116 (rfl : x113.toInt = x113.toInt) (zl_0 : (0 : Int32).toInt = 0)
        refine lv_aload_n hx hb dX12_sail_28 rfl (lv_at hl 0 rfl) ?_
        refine lv_iload_n hx hb dX12_sail_29 rfl (lv_at hl 1 rfl) ?_
        refine lv_iload_n hx hb dX12_sail_30 rfl (lv_at hl 3 rfl) ?_
        refine lv_iload hx hb dX12_sail_31 (lv_at hl 4 rfl) ?_
        refine zq_pcalli (zq_rV (As := [.int p1, .int p3, .int p4]) (rest := []) E hZ hM k_h0 (c_X12_canSail l X zk (zk) I L h0 k_h0 p1 p3 p4 ⟨by omega, by omega⟩ ⟨by omega, by omega⟩ (by omega)) zmX12_368 zM_X12_canSail (hro (2) 5 (by first | decide | omega) (by decide)) ⟨by decide, by decide⟩ rfl hl.1 rfl rfl (Nat.le_of_ble_eq_true rfl) dX12_sail_33) hS (fun x118 H locs h117 hM hS => ?_)
        obtain ⟨p119, p120⟩ := h117
        refine lv_if_ne (tgt := 41) hx hb dX12_sail_36 (by decide) (fun b121 => ?_) (fun b121 => ?_)
        · have b121 := zi_ne b121 (rfl : x118.toInt = x118.toInt) (zl_0 : (0 : Int32).toInt = 0)
          refine lv_aload_n hx hb dX12_sail_41 rfl (lv_at hl 0 rfl) ?_
          refine zq_callv (zq_rV (As := []) (rest := []) E hZ hM k_h0 (c_X12_keepsAct l X zk (zk) I L h0 k_h0 (by omega)) zmX12_360 zM_X12_keepsAct (hro (0) 2 (by first | decide | omega) (by decide)) ⟨by decide, by decide⟩ rfl hl.1 rfl rfl (Nat.le_of_ble_eq_true rfl) dX12_sail_42) hS (fun I124 H locs h122 hM hS => ?_)
          have fr125 := h122
          have hR := zq_fr.call hR fr125 (zf_sub (by decide +kernel) (fun _ _ q => q.elim))
          refine lv_aload_n hx hb dX12_sail_45 rfl (lv_at hl 0 rfl) ?_
          refine lv_iload_n hx hb dX12_sail_46 rfl (lv_at hl 1 rfl) ?_
          refine lv_iload_n hx hb dX12_sail_47 rfl (lv_at hl 2 rfl) ?_
          refine lv_iload_n hx hb dX12_sail_48 rfl (lv_at hl 3 rfl) ?_
          refine lv_iload hx hb dX12_sail_49 (lv_at hl 4 rfl) ?_
          refine zq_callv (zq_rV (As := [.int p1, .int p2, .int p3, .int p4]) (rest := []) E hZ hM k_h0 (c_X12_sails l X zk (zk) I124 L h0 k_h0 p1 p2 p3 p4 ⟨by omega, by omega⟩ ⟨by omega, by omega⟩ ⟨by omega, by omega⟩ ⟨by omega, by omega⟩ (by omega)) zmX12_334 zM_X12_sails (hro (1) 6 (by first | decide | omega) (by decide)) ⟨by decide, by decide⟩ rfl hl.1 rfl rfl (Nat.le_of_ble_eq_true rfl) dX12_sail_51) hS (fun I128 H locs h126 hM hS => ?_)
          have fr129 := h126
          have hR := zq_fr.call hR fr129 (zf_sub (by decide +kernel) (fun _ _ q => q.elim))
          refine lv_aload_n hx hb dX12_sail_54 rfl (lv_at hl 0 rfl) ?_
          refine W.eq (g2 := F0 m 55 ls [.ref h0]) rfl ?_
          refine zq_getr E hM k_h0 (zFX12_39 E hZ) ⟨by decide, by decide, by decide, rfl⟩ dX12_sail_55 ?_
          have k130 : zq_k X (zq_r X h0 20) = 59 := zq_lk L.1 k_h0 rfl (by decide)
          refine lv_bipush (v := 10) hx hb dX12_sail_58 (by decide +kernel) ?_
          refine zq_ian (n := 106) (j := 10) E hZ hM k130 ⟨by decide, rfl⟩ (by rw [zl_10]; decide) (by decide +kernel) dX12_sail_60 (fun x131 ex131 gx131 => ?_)
          clear gx131
          subst hQ
          exact zq_iret E hr hZ hM hS hR hlocks dX12_sail_61
        · have b121 := zi_eq b121 (rfl : x118.toInt = x118.toInt) (zl_0 : (0 : Int32).toInt = 0)
          refine lv_iconst (v := (-1)) hx hb dX12_sail_39 (by decide +kernel) ?_
          subst hQ
          exact zq_iret E hr hZ hM hS hR hlocks dX12_sail_40
def zw_X12_teaches : List (Nat × Nat) := [(59, 999)]
set_option maxHeartbeats 8000000 in
set_option maxRecDepth 100000 in
theorem c_X12_teaches (l : Launch) (X : zq_X) (zk zn : Nat) (I : zq_M) (L : zq_L X)  (h0 : Nat) (k_h0 : zq_k X h0 = 10) (p1 : Int32) (p2 : Int32) (g_p1 : 0 ≤ p1.toInt ∧ p1.toInt ≤ 3) (g_p2 : 0 ≤ p2.toInt ∧ p2.toInt ≤ 500000) (q_0 : zk ≤ 4400 ∧ zn ≤ 4400) (q_1 : p2.toInt ≤ (I (zq_r X h0 20) (27 + 5 * p1.toNatClampNeg)).toInt) : Met l yX12_teaches (zt_w yX12_teaches cX12_teaches 3 none) (zq_rm (1)) (va_Pc [.ref h0, .int p1, .int p2] (zq_W X (zk, zn) I)) (va_Qv (fun I2 => zq_fr (zf X zw_X12_teaches (fun _ => False)) I I2) (zq_E X (zk, zn)) (zq_A X)) 0 0 (zq_A X) := by
  refine Met.ofW (cc := cX12_teaches) (maxL := 3) (ret := none) (by decide) rfl ?_
  intro p e s m args below meth c s₁ B hml hv
  obtain ⟨hargs, hM, hZ⟩ := hv
  have hown : s.vm.findClass RX12 = some m.cls := findClass_of_methodNamed B.named
  have hts := atoms_spec (ws := zt_w yX12_teaches cX12_teaches 3 none) B.pre
  have E : CallFix p m c cX12_teaches 3 s args (Cond.code yX12_teaches cX12_teaches 3 none :: zt) RX12 := ⟨B.exec, B.bytes, hml, hown, hts⟩
  have hx := B.exec
  have hb := B.bytes
  have hr := B.returns
  have hlocks := B.notSynchronized
  clear B
  have hS : va_S (zq_A X) s.heap s.heap [] := va_S.rf
  have hR : zq_fr (zf X zw_X12_teaches (fun _ => False)) I I := zq_fr.rf
  have hl := lv_entry ([.ref h0, .int p1, .int p2]) (n := 3) (by exact Nat.le_of_ble_eq_true rfl)
  have hg : entryFrame m args 3 = F0 m 0 ((lg_sl ([.ref h0, .int p1, .int p2]) ++ List.replicate (3 - (lg_sl ([.ref h0, .int p1, .int p2])).length) Slot.unset).toArray) [] := by rw [hargs]; exact lg_entry_eq m ([.ref h0, .int p1, .int p2]) 3
  rw [hg]
  clear hg hargs
  generalize (lg_sl ([.ref h0, .int p1, .int p2]) ++ List.replicate (3 - (lg_sl ([.ref h0, .int p1, .int p2])).length) Slot.unset).toArray = ls at hl ⊢
  have hl : lv_has ls 3 [(0, .ref h0), (1, .int p1), (2, .int p2)] := by exact hl
  obtain ⟨R, hRm⟩ : ∃ R : Room, R = (headSpec (zt_w yX12_teaches cX12_teaches 3 none) (zq_rm (1))).room := ⟨_, rfl⟩
  rw [← hRm]
  have hro : ∀ d q : Nat, d + 1 ≤ 1 → q ≤ 45 → zq_rok d q R := fun d q h1 h2 => by rw [hRm]; exact zq_rokI h1 h2
  generalize hQ : MQ below _ args s 0 0 (zq_A X) = Q
  obtain ⟨H, hH⟩ : ∃ H, H = s.heap := ⟨_, rfl⟩
  obtain ⟨locs, hlo⟩ : ∃ x : List Loc, x = [] := ⟨_, rfl⟩
  rw [show W p l e R s m args below meth c s.heap [] 0 0 Q = W p l e R s m args below meth c H locs 0 0 Q by rw [hH, hlo]]
  have hM : zq_hm X (zk, zn) I H := by rw [hH]; exact hM
  have hS : va_S (zq_A X) s.heap H locs := by rw [hH, hlo]; exact hS
  clear hH hlo
  refine lv_aload_n hx hb dX12_teaches_0 rfl (lv_at hl 0 rfl) ?_
  refine zq_getr E hM k_h0 (zFX12_39 E hZ) ⟨by decide, by decide, by decide, rfl⟩ dX12_teaches_1 ?_
  have k101 : zq_k X (zq_r X h0 20) = 59 := zq_lk L.1 k_h0 rfl (by decide)
  refine lv_bipush (v := 25) hx hb dX12_teaches_4 (by decide +kernel) ?_
  refine lv_iconst (v := 5) hx hb dX12_teaches_6 (by decide +kernel) ?_
  refine lv_iload_n hx hb dX12_teaches_7 rfl (lv_at hl 1 rfl) ?_
  refine lv_imul hx hb dX12_teaches_8 ?_
  refine lv_topi (fun x102 ex102 => ?_)
  have tx102 := zi_mul ex102 (zl_5 : (5 : Int32).toInt = 5) (rfl : p1.toInt = p1.toInt) ⟨by omega, by omega⟩
  refine lv_iadd hx hb dX12_teaches_9 ?_
  refine lv_topi (fun x103 ex103 => ?_)
  have tx103 := zi_add ex103 (zl_25 : (25 : Int32).toInt = 25) (rfl : x102.toInt = x102.toInt) ⟨by omega, by omega⟩
  refine lv_iconst (v := 2) hx hb dX12_teaches_10 (by decide +kernel) ?_
  refine lv_iadd hx hb dX12_teaches_11 ?_
  refine lv_topi (fun x104 ex104 => ?_)
  have tx104 := zi_add ex104 (rfl : x103.toInt = x103.toInt) (zl_2 : (2 : Int32).toInt = 2) ⟨by omega, by omega⟩
  refine W.eq (g2 := F0 m 12 ls [.int x104, .ref (zq_r X h0 20)]) rfl ?_
  refine lv_dup2_11 hx hb dX12_teaches_12 rfl rfl ?_
  refine zq_ian (n := 106) (j := (x104.toNatClampNeg)) E hZ hM k101 ⟨by decide, rfl⟩ ⟨by omega, by omega⟩ rfl dX12_teaches_13 (fun x105 ex105 gx105 => ?_)
  have hclx104 := zq_cl (i := x104) (by omega)
  have hc106 : x104.toNatClampNeg = 27 ∨ x104.toNatClampNeg = 32 ∨ x104.toNatClampNeg = 37 ∨ x104.toNatClampNeg = 42 := by omega
  replace gx105 : 0 ≤ x105.toInt ∧ x105.toInt ≤ 99 * ((zn : Nat) : Int) := by
    rcases hc106 with q9 | q9 | q9 | q9
    · rw [q9] at gx105; exact gx105
    · rw [q9] at gx105; exact gx105
    · rw [q9] at gx105; exact gx105
    · rw [q9] at gx105; exact gx105
  have hqx105 : p2.toInt ≤ x105.toInt := by rw [← ex105, show x104.toNatClampNeg = (27 + 5 * p1.toNatClampNeg) by have := zq_cl (i := x104) (by omega); have := zq_cl (i := p1) (by omega); omega]; exact q_1
  refine lv_iload_n hx hb dX12_teaches_14 rfl (lv_at hl 2 rfl) ?_
  refine lv_isub hx hb dX12_teaches_15 ?_
  refine lv_topi (fun x107 ex107 => ?_)
  have tx107 := zi_sub ex107 (rfl : x105.toInt = x105.toInt) (rfl : p2.toInt = p2.toInt) ⟨by omega, by omega⟩
  have hclx104 := zq_cl (i := x104) (by omega)
  have hc109 : x104.toNatClampNeg = 27 ∨ x104.toNatClampNeg = 32 ∨ x104.toNatClampNeg = 37 ∨ x104.toNatClampNeg = 42 := by omega
  have hp110 : (zq_rg (zk, zn) 59 x104.toNatClampNeg).1 ≤ x107.toInt ∧ x107.toInt ≤ (zq_rg (zk, zn) 59 x104.toNatClampNeg).2 := by
    rcases hc109 with q9 | q9 | q9 | q9
    · rw [q9]; exact (show 0 ≤ x107.toInt ∧ x107.toInt ≤ 99 * ((zn : Nat) : Int) from ⟨by omega, by omega⟩)
    · rw [q9]; exact (show 0 ≤ x107.toInt ∧ x107.toInt ≤ 99 * ((zn : Nat) : Int) from ⟨by omega, by omega⟩)
    · rw [q9]; exact (show 0 ≤ x107.toInt ∧ x107.toInt ≤ 99 * ((zn : Nat) : Int) from ⟨by omega, by omega⟩)
    · rw [q9]; exact (show 0 ≤ x107.toInt ∧ x107.toInt ≤ 99 * ((zn : Nat) : Int) from ⟨by omega, by omega⟩)
  refine zq_isn (n := 106) (j := (x104.toNatClampNeg)) E hZ hM hS k101 ⟨by decide, rfl⟩ ⟨by omega, by omega⟩ rfl hp110 dX12_teaches_16 (fun I108 H locs eI108 hM hS => ?_)
  have hR := zq_fr.putE hR eI108 (zf_ia k101 (by decide) rfl)
  refine lv_aload_n hx hb dX12_teaches_17 rfl (lv_at hl 0 rfl) ?_
  refine zq_getr E hM k_h0 (zFX12_39 E hZ) ⟨by decide, by decide, by decide, rfl⟩ dX12_teaches_18 ?_
  have k111 : zq_k X (zq_r X h0 20) = 59 := zq_lk L.1 k_h0 rfl (by decide)
  refine lv_bipush (v := 25) hx hb dX12_teaches_21 (by decide +kernel) ?_
  refine lv_iconst (v := 5) hx hb dX12_teaches_23 (by decide +kernel) ?_
  refine lv_iload_n hx hb dX12_teaches_24 rfl (lv_at hl 1 rfl) ?_
  refine W.eq (g2 := F0 m 25 ls [.int p1, .int (5 : Int32), .int (25 : Int32), .ref (zq_r X h0 20)]) rfl ?_
  refine lv_imul hx hb dX12_teaches_25 ?_
  refine lv_topi (fun x112 ex112 => ?_)
  have tx112 := zi_mul ex112 (zl_5 : (5 : Int32).toInt = 5) (rfl : p1.toInt = p1.toInt) ⟨by omega, by omega⟩
  refine lv_iadd hx hb dX12_teaches_26 ?_
  refine lv_topi (fun x113 ex113 => ?_)
  have tx113 := zi_add ex113 (zl_25 : (25 : Int32).toInt = 25) (rfl : x112.toInt = x112.toInt) ⟨by omega, by omega⟩
  refine lv_aload_n hx hb dX12_teaches_27 rfl (lv_at hl 0 rfl) ?_
  refine lv_iload_n hx hb dX12_teaches_28 rfl (lv_at hl 1 rfl) ?_
  refine lv_iconst (v := 0) hx hb dX12_teaches_29 (by decide +kernel) ?_
  refine zq_pcalli (zq_rV (As := [.int p1, .int (0 : Int32)]) (rest := [.int x113, .ref (zq_r X h0 20)]) E hZ hM k_h0 (c_X12_townOf l X zk (zn) I108 L h0 k_h0 p1 (0 : Int32) ⟨by omega, by omega⟩ (by rw [zl_0]; decide) (by have := zl_0; omega)) zmX12_308 zM_X12_townOf (hro (0) 3 (by first | decide | omega) (by decide)) ⟨by decide, by decide⟩ rfl hl.1 rfl rfl (Nat.le_of_ble_eq_true rfl) dX12_teaches_30) hS (fun x115 H locs h114 hM hS => ?_)
  obtain ⟨p116, p117, p118, p119⟩ := h114
  have := zl_0
  refine lv_iload_n hx hb dX12_teaches_33 rfl (lv_at hl 2 rfl) ?_
  refine lv_iadd hx hb dX12_teaches_34 ?_
  refine lv_topi (fun x120 ex120 => ?_)
  have tx120 := zi_add ex120 (rfl : x115.toInt = x115.toInt) (rfl : p2.toInt = p2.toInt) ⟨by omega, by omega⟩
  refine lv_bipush (v := 99) hx hb dX12_teaches_35 (by decide +kernel) ?_
  refine zq_pcalli (zq_rS (As := [.int x120, .int (99 : Int32)]) (rest := [.int x113, .ref (zq_r X h0 20)]) E hZ hM (c_X12_atMost l X zk (zn) I108 L x120 (99 : Int32)) zmX12_321 zM_X12_atMost (hro (0) 2 (by first | decide | omega) (by decide)) hl.1 rfl rfl (Nat.le_of_ble_eq_true rfl) dX12_teaches_37) hS (fun x122 H locs h121 hM hS => ?_)
  have p123 := h121
  have := zl_99
  refine W.eq (g2 := F0 m 40 ls [.int x122, .int x113, .ref (zq_r X h0 20)]) rfl ?_
  have hclx113 := zq_cl (i := x113) (by omega)
  have hc125 : x113.toNatClampNeg = 25 ∨ x113.toNatClampNeg = 30 ∨ x113.toNatClampNeg = 35 ∨ x113.toNatClampNeg = 40 := by omega
  have hp126 : (zq_rg (zk, zn) 59 x113.toNatClampNeg).1 ≤ x122.toInt ∧ x122.toInt ≤ (zq_rg (zk, zn) 59 x113.toNatClampNeg).2 := by
    rcases hc125 with q9 | q9 | q9 | q9
    · rw [q9]; exact (show 0 ≤ x122.toInt ∧ x122.toInt ≤ 99 from ⟨by omega, by omega⟩)
    · rw [q9]; exact (show 0 ≤ x122.toInt ∧ x122.toInt ≤ 99 from ⟨by omega, by omega⟩)
    · rw [q9]; exact (show 0 ≤ x122.toInt ∧ x122.toInt ≤ 99 from ⟨by omega, by omega⟩)
    · rw [q9]; exact (show 0 ≤ x122.toInt ∧ x122.toInt ≤ 99 from ⟨by omega, by omega⟩)
  refine zq_isn (n := 106) (j := (x113.toNatClampNeg)) E hZ hM hS k111 ⟨by decide, rfl⟩ ⟨by omega, by omega⟩ rfl hp126 dX12_teaches_40 (fun I124 H locs eI124 hM hS => ?_)
  have hR := zq_fr.putE hR eI124 (zf_ia k111 (by decide) rfl)
  subst hQ
  exact zq_vret E hr hZ hM hS hR hlocks dX12_teaches_41
def zw_X12_teach : List (Nat × Nat) := [(10, 25), (59, 999), (60, 999)]
set_option maxHeartbeats 8000000 in
set_option maxRecDepth 100000 in
theorem c_X12_teach (l : Launch) (X : zq_X) (zk zn : Nat) (I : zq_M) (L : zq_L X)  (h0 : Nat) (k_h0 : zq_k X h0 = 10) (p1 : Int32) (p2 : Int32) (q_0 : zk ≤ 4400 ∧ zn ≤ 4400) (q_1 : zk ≤ 2200) : Met l yX12_teach (zt_w yX12_teach cX12_teach 3 (some .int)) (zq_rm (2)) (va_Pc [.ref h0, .int p1, .int p2] (zq_W X (zk, zk) I)) (va_Qi (fun (r : Int32) I2 => zq_fr (zf X zw_X12_teach (fun _ => False)) I I2 ∧ ((-1) ≤ r.toInt ∧ r.toInt ≤ 99)) (zq_E X (zk, zk)) (zq_A X)) 0 0 (zq_A X) := by
  refine Met.ofW (cc := cX12_teach) (maxL := 3) (ret := (some .int)) (by decide) rfl ?_
  intro p e s m args below meth c s₁ B hml hv
  obtain ⟨hargs, hM, hZ⟩ := hv
  have hown : s.vm.findClass RX12 = some m.cls := findClass_of_methodNamed B.named
  have hts := atoms_spec (ws := zt_w yX12_teach cX12_teach 3 (some .int)) B.pre
  have E : CallFix p m c cX12_teach 3 s args (Cond.code yX12_teach cX12_teach 3 (some .int) :: zt) RX12 := ⟨B.exec, B.bytes, hml, hown, hts⟩
  have hx := B.exec
  have hb := B.bytes
  have hr := B.returns
  have hlocks := B.notSynchronized
  clear B
  have hS : va_S (zq_A X) s.heap s.heap [] := va_S.rf
  have hR : zq_fr (zf X zw_X12_teach (fun _ => False)) I I := zq_fr.rf
  have hl := lv_entry ([.ref h0, .int p1, .int p2]) (n := 3) (by exact Nat.le_of_ble_eq_true rfl)
  have hg : entryFrame m args 3 = F0 m 0 ((lg_sl ([.ref h0, .int p1, .int p2]) ++ List.replicate (3 - (lg_sl ([.ref h0, .int p1, .int p2])).length) Slot.unset).toArray) [] := by rw [hargs]; exact lg_entry_eq m ([.ref h0, .int p1, .int p2]) 3
  rw [hg]
  clear hg hargs
  generalize (lg_sl ([.ref h0, .int p1, .int p2]) ++ List.replicate (3 - (lg_sl ([.ref h0, .int p1, .int p2])).length) Slot.unset).toArray = ls at hl ⊢
  have hl : lv_has ls 3 [(0, .ref h0), (1, .int p1), (2, .int p2)] := by exact hl
  obtain ⟨R, hRm⟩ : ∃ R : Room, R = (headSpec (zt_w yX12_teach cX12_teach 3 (some .int)) (zq_rm (2))).room := ⟨_, rfl⟩
  rw [← hRm]
  have hro : ∀ d q : Nat, d + 1 ≤ 2 → q ≤ 45 → zq_rok d q R := fun d q h1 h2 => by rw [hRm]; exact zq_rokI h1 h2
  generalize hQ : MQ below _ args s 0 0 (zq_A X) = Q
  obtain ⟨H, hH⟩ : ∃ H, H = s.heap := ⟨_, rfl⟩
  obtain ⟨locs, hlo⟩ : ∃ x : List Loc, x = [] := ⟨_, rfl⟩
  rw [show W p l e R s m args below meth c s.heap [] 0 0 Q = W p l e R s m args below meth c H locs 0 0 Q by rw [hH, hlo]]
  have hM : zq_hm X (zk, zk) I H := by rw [hH]; exact hM
  have hS : va_S (zq_A X) s.heap H locs := by rw [hH, hlo]; exact hS
  clear hH hlo
  refine lv_aload_n hx hb dX12_teach_0 rfl (lv_at hl 0 rfl) ?_
  refine lv_iload_n hx hb dX12_teach_1 rfl (lv_at hl 1 rfl) ?_
  refine zq_pcalli (zq_rV (As := [.int p1]) (rest := []) E hZ hM k_h0 (c_X12_isTown l X zk (zk) I L h0 k_h0 p1 (by have := zi_rng p1; omega)) zmX12_299 zM_X12_isTown (hro (0) 2 (by first | decide | omega) (by decide)) ⟨by decide, by decide⟩ rfl hl.1 rfl rfl (Nat.le_of_ble_eq_true rfl) dX12_teach_2) hS (fun x102 H locs h101 hM hS => ?_)
  obtain ⟨p103, p104⟩ := h101
  refine lv_if_eq (tgt := 23) hx hb dX12_teach_5 (by decide) (fun b105 => ?_) (fun b105 => ?_)
  · have b105 := zi_eq b105 (rfl : x102.toInt = x102.toInt) (zl_0 : (0 : Int32).toInt = 0)
    refine lv_iconst (v := (-1)) hx hb dX12_teach_23 (by decide +kernel) ?_
    subst hQ
    exact zq_iret E hr hZ hM hS ⟨hR, (by have := zl_m1; omega)⟩ hlocks dX12_teach_24
  · have b105 := zi_ne b105 (rfl : x102.toInt = x102.toInt) (zl_0 : (0 : Int32).toInt = 0)
    refine lv_iload_n hx hb dX12_teach_8 rfl (lv_at hl 2 rfl) ?_
    refine lv_iconst (v := 1) hx hb dX12_teach_9 (by decide +kernel) ?_
    refine lv_icmp_lt (tgt := 23) hx hb dX12_teach_10 (by decide) (fun b106 => ?_) (fun b106 => ?_)
    · have b106 := zi_lt b106 (rfl : p2.toInt = p2.toInt) (zl_1 : (1 : Int32).toInt = 1)
      refine lv_iconst (v := (-1)) hx hb dX12_teach_23 (by decide +kernel) ?_
      subst hQ
      exact zq_iret E hr hZ hM hS ⟨hR, (by have := zl_m1; omega)⟩ hlocks dX12_teach_24
    · have b106 := zi_nlt b106 (rfl : p2.toInt = p2.toInt) (zl_1 : (1 : Int32).toInt = 1)
      refine lv_iload_n hx hb dX12_teach_13 rfl (lv_at hl 2 rfl) ?_
      refine lv_aload_n hx hb dX12_teach_14 rfl (lv_at hl 0 rfl) ?_
      refine lv_iload_n hx hb dX12_teach_15 rfl (lv_at hl 1 rfl) ?_
      refine lv_iconst (v := 2) hx hb dX12_teach_16 (by decide +kernel) ?_
      refine zq_pcalli (zq_rV (As := [.int p1, .int (2 : Int32)]) (rest := [.int p2]) E hZ hM k_h0 (c_X12_townOf l X zk (zk) I L h0 k_h0 p1 (2 : Int32) ⟨by omega, by omega⟩ (by rw [zl_2]; decide) (by have := zl_2; omega)) zmX12_308 zM_X12_townOf (hro (0) 3 (by first | decide | omega) (by decide)) ⟨by decide, by decide⟩ rfl hl.1 rfl rfl (Nat.le_of_ble_eq_true rfl) dX12_teach_17) hS (fun x108 H locs h107 hM hS => ?_)
      obtain ⟨p109, p110, p111, p112⟩ := h107
      have := zl_2
      refine lv_icmp_le (tgt := 25) hx hb dX12_teach_20 (by decide) (fun b113 => ?_) (fun b113 => ?_)
      · have b113 := zi_le b113 (rfl : p2.toInt = p2.toInt) (rfl : x108.toInt = x108.toInt)
        have hB9 : p2.toInt ≤ (I (zq_r X h0 20) (27 + 5 * p1.toNatClampNeg)).toInt := by have h9 := p112; rw [show (2 : Int32).toNatClampNeg = 2 from by decide +kernel] at h9; rw [show 27 + 5 * p1.toNatClampNeg = 25 + 5 * p1.toNatClampNeg + 2 by omega, ← h9]; omega
        refine lv_aload_n hx hb dX12_teach_25 rfl (lv_at hl 0 rfl) ?_
        refine zq_callv (zq_rV (As := []) (rest := []) E hZ hM k_h0 (c_X12_keepsAct l X zk (zk) I L h0 k_h0 (by omega)) zmX12_360 zM_X12_keepsAct (hro (0) 2 (by first | decide | omega) (by decide)) ⟨by decide, by decide⟩ rfl hl.1 rfl rfl (Nat.le_of_ble_eq_true rfl) dX12_teach_26) hS (fun I116 H locs h114 hM hS => ?_)
        have fr117 := h114
        have hR := zq_fr.call hR fr117 (zf_sub (by decide +kernel) (fun _ _ q => q.elim))
        have hK118 : p2.toInt ≤ (I116 (zq_r X h0 20) (27 + 5 * p1.toNatClampNeg)).toInt := by rw [show I116 (zq_r X h0 20) (27 + 5 * p1.toNatClampNeg) = _ from (zq_fr.kp fr117 (zf_n (zq_lk L.1 k_h0 rfl (by decide) : zq_k X (zq_r X h0 20) = 59) rfl) rfl)]; exact hB9
        refine lv_aload_n hx hb dX12_teach_29 rfl (lv_at hl 0 rfl) ?_
        refine lv_iload_n hx hb dX12_teach_30 rfl (lv_at hl 1 rfl) ?_
        refine lv_iload_n hx hb dX12_teach_31 rfl (lv_at hl 2 rfl) ?_
        refine zq_callv (zq_rV (As := [.int p1, .int p2]) (rest := []) E hZ hM k_h0 (c_X12_teaches l X zk (zk) I116 L h0 k_h0 p1 p2 ⟨by omega, by omega⟩ ⟨by omega, by omega⟩ (by omega) (by omega)) zmX12_372 zM_X12_teaches (hro (1) 3 (by first | decide | omega) (by decide)) ⟨by decide, by decide⟩ rfl hl.1 rfl rfl (Nat.le_of_ble_eq_true rfl) dX12_teach_32) hS (fun I121 H locs h119 hM hS => ?_)
        have fr122 := h119
        have hR := zq_fr.call hR fr122 (zf_sub (by decide +kernel) (fun _ _ q => q.elim))
        refine lv_aload_n hx hb dX12_teach_35 rfl (lv_at hl 0 rfl) ?_
        refine lv_iload_n hx hb dX12_teach_36 rfl (lv_at hl 1 rfl) ?_
        refine lv_iconst (v := 0) hx hb dX12_teach_37 (by decide +kernel) ?_
        refine W.eq (g2 := F0 m 38 ls [.int (0 : Int32), .int p1, .ref h0]) rfl ?_
        refine zq_pcalli (zq_rV (As := [.int p1, .int (0 : Int32)]) (rest := []) E hZ hM k_h0 (c_X12_townOf l X zk (zk) I121 L h0 k_h0 p1 (0 : Int32) ⟨by omega, by omega⟩ (by rw [zl_0]; decide) (by have := zl_0; omega)) zmX12_308 zM_X12_townOf (hro (0) 3 (by first | decide | omega) (by decide)) ⟨by decide, by decide⟩ rfl hl.1 rfl rfl (Nat.le_of_ble_eq_true rfl) dX12_teach_38) hS (fun x124 H locs h123 hM hS => ?_)
        obtain ⟨p125, p126, p127, p128⟩ := h123
        have := zl_0
        subst hQ
        exact zq_iret E hr hZ hM hS ⟨hR, (by omega)⟩ hlocks dX12_teach_41
      · have b113 := zi_nle b113 (rfl : p2.toInt = p2.toInt) (rfl : x108.toInt = x108.toInt)
        refine lv_iconst (v := (-1)) hx hb dX12_teach_23 (by decide +kernel) ?_
        subst hQ
        exact zq_iret E hr hZ hM hS ⟨hR, (by have := zl_m1; omega)⟩ hlocks dX12_teach_24
def zw_X12_build : List (Nat × Nat) := [(10, 25), (59, 999), (60, 999)]
set_option maxHeartbeats 8000000 in
set_option maxRecDepth 100000 in
theorem c_X12_build (l : Launch) (X : zq_X) (zk zn : Nat) (I : zq_M) (L : zq_L X)  (h0 : Nat) (k_h0 : zq_k X h0 = 10) (p1 : Int32) (q_0 : zk ≤ 4400 ∧ zn ≤ 4400) (q_1 : zk ≤ 2200) : Met l yX12_build (zt_w yX12_build cX12_build 2 (some .int)) (zq_rm (2)) (va_Pc [.ref h0, .int p1] (zq_W X (zk, zk) I)) (va_Qi (fun (r : Int32) I2 => zq_fr (zf X zw_X12_build (fun _ => False)) I I2) (zq_E X (zk, zk)) (zq_A X)) 0 0 (zq_A X) := by
  refine Met.ofW (cc := cX12_build) (maxL := 2) (ret := (some .int)) (by decide) rfl ?_
  intro p e s m args below meth c s₁ B hml hv
  obtain ⟨hargs, hM, hZ⟩ := hv
  have hown : s.vm.findClass RX12 = some m.cls := findClass_of_methodNamed B.named
  have hts := atoms_spec (ws := zt_w yX12_build cX12_build 2 (some .int)) B.pre
  have E : CallFix p m c cX12_build 2 s args (Cond.code yX12_build cX12_build 2 (some .int) :: zt) RX12 := ⟨B.exec, B.bytes, hml, hown, hts⟩
  have hx := B.exec
  have hb := B.bytes
  have hr := B.returns
  have hlocks := B.notSynchronized
  clear B
  have hS : va_S (zq_A X) s.heap s.heap [] := va_S.rf
  have hR : zq_fr (zf X zw_X12_build (fun _ => False)) I I := zq_fr.rf
  have hl := lv_entry ([.ref h0, .int p1]) (n := 2) (by exact Nat.le_of_ble_eq_true rfl)
  have hg : entryFrame m args 2 = F0 m 0 ((lg_sl ([.ref h0, .int p1]) ++ List.replicate (2 - (lg_sl ([.ref h0, .int p1])).length) Slot.unset).toArray) [] := by rw [hargs]; exact lg_entry_eq m ([.ref h0, .int p1]) 2
  rw [hg]
  clear hg hargs
  generalize (lg_sl ([.ref h0, .int p1]) ++ List.replicate (2 - (lg_sl ([.ref h0, .int p1])).length) Slot.unset).toArray = ls at hl ⊢
  have hl : lv_has ls 2 [(0, .ref h0), (1, .int p1)] := by exact hl
  obtain ⟨R, hRm⟩ : ∃ R : Room, R = (headSpec (zt_w yX12_build cX12_build 2 (some .int)) (zq_rm (2))).room := ⟨_, rfl⟩
  rw [← hRm]
  have hro : ∀ d q : Nat, d + 1 ≤ 2 → q ≤ 45 → zq_rok d q R := fun d q h1 h2 => by rw [hRm]; exact zq_rokI h1 h2
  generalize hQ : MQ below _ args s 0 0 (zq_A X) = Q
  obtain ⟨H, hH⟩ : ∃ H, H = s.heap := ⟨_, rfl⟩
  obtain ⟨locs, hlo⟩ : ∃ x : List Loc, x = [] := ⟨_, rfl⟩
  rw [show W p l e R s m args below meth c s.heap [] 0 0 Q = W p l e R s m args below meth c H locs 0 0 Q by rw [hH, hlo]]
  have hM : zq_hm X (zk, zk) I H := by rw [hH]; exact hM
  have hS : va_S (zq_A X) s.heap H locs := by rw [hH, hlo]; exact hS
  clear hH hlo
  refine lv_aload_n hx hb dX12_build_0 rfl (lv_at hl 0 rfl) ?_
  refine lv_iload_n hx hb dX12_build_1 rfl (lv_at hl 1 rfl) ?_
  refine zq_pcalli (zq_rV (As := [.int p1]) (rest := []) E hZ hM k_h0 (c_X12_isTown l X zk (zk) I L h0 k_h0 p1 (by have := zi_rng p1; omega)) zmX12_299 zM_X12_isTown (hro (0) 2 (by first | decide | omega) (by decide)) ⟨by decide, by decide⟩ rfl hl.1 rfl rfl (Nat.le_of_ble_eq_true rfl) dX12_build_2) hS (fun x102 H locs h101 hM hS => ?_)
  obtain ⟨p103, p104⟩ := h101
  refine lv_if_eq (tgt := 16) hx hb dX12_build_5 (by decide) (fun b105 => ?_) (fun b105 => ?_)
  · have b105 := zi_eq b105 (rfl : x102.toInt = x102.toInt) (zl_0 : (0 : Int32).toInt = 0)
    refine lv_iconst (v := (-1)) hx hb dX12_build_16 (by decide +kernel) ?_
    subst hQ
    exact zq_iret E hr hZ hM hS hR hlocks dX12_build_17
  · have b105 := zi_ne b105 (rfl : x102.toInt = x102.toInt) (zl_0 : (0 : Int32).toInt = 0)
    refine lv_aload_n hx hb dX12_build_8 rfl (lv_at hl 0 rfl) ?_
    refine lv_iload_n hx hb dX12_build_9 rfl (lv_at hl 1 rfl) ?_
    refine zq_pcalli (zq_rV (As := [.int p1]) (rest := []) E hZ hM k_h0 (c_X12_canBuild l X zk (zk) I L h0 k_h0 p1 ⟨by omega, by omega⟩ (by omega)) zmX12_375 zM_X12_canBuild (hro (1) 2 (by first | decide | omega) (by decide)) ⟨by decide, by decide⟩ rfl hl.1 rfl rfl (Nat.le_of_ble_eq_true rfl) dX12_build_10) hS (fun x107 H locs h106 hM hS => ?_)
    have p108 := h106
    refine lv_if_ne (tgt := 18) hx hb dX12_build_13 (by decide) (fun b109 => ?_) (fun b109 => ?_)
    · have b109 := zi_ne b109 (rfl : x107.toInt = x107.toInt) (zl_0 : (0 : Int32).toInt = 0)
      refine lv_aload_n hx hb dX12_build_18 rfl (lv_at hl 0 rfl) ?_
      refine zq_callv (zq_rV (As := []) (rest := []) E hZ hM k_h0 (c_X12_keepsAct l X zk (zk) I L h0 k_h0 (by omega)) zmX12_360 zM_X12_keepsAct (hro (0) 2 (by first | decide | omega) (by decide)) ⟨by decide, by decide⟩ rfl hl.1 rfl rfl (Nat.le_of_ble_eq_true rfl) dX12_build_19) hS (fun I112 H locs h110 hM hS => ?_)
      have fr113 := h110
      have hR := zq_fr.call hR fr113 (zf_sub (by decide +kernel) (fun _ _ q => q.elim))
      refine lv_aload_n hx hb dX12_build_22 rfl (lv_at hl 0 rfl) ?_
      refine lv_iload_n hx hb dX12_build_23 rfl (lv_at hl 1 rfl) ?_
      refine zq_callv (zq_rV (As := [.int p1]) (rest := []) E hZ hM k_h0 (c_X12_builds l X zk (zk) I112 L h0 k_h0 p1 ⟨by omega, by omega⟩ (by omega)) zmX12_378 zM_X12_builds (hro (0) 2 (by first | decide | omega) (by decide)) ⟨by decide, by decide⟩ rfl hl.1 rfl rfl (Nat.le_of_ble_eq_true rfl) dX12_build_24) hS (fun I116 H locs h114 hM hS => ?_)
      have fr117 := h114
      have hR := zq_fr.call hR fr117 (zf_sub (by decide +kernel) (fun _ _ q => q.elim))
      refine lv_aload_n hx hb dX12_build_27 rfl (lv_at hl 0 rfl) ?_
      refine zq_getr E hM k_h0 (zFX12_39 E hZ) ⟨by decide, by decide, by decide, rfl⟩ dX12_build_28 ?_
      have k118 : zq_k X (zq_r X h0 20) = 59 := zq_lk L.1 k_h0 rfl (by decide)
      refine lv_bipush (v := 10) hx hb dX12_build_31 (by decide +kernel) ?_
      refine zq_ian (n := 106) (j := 10) E hZ hM k118 ⟨by decide, rfl⟩ (by rw [zl_10]; decide) (by decide +kernel) dX12_build_33 (fun x119 ex119 gx119 => ?_)
      clear gx119
      refine W.eq (g2 := F0 m 34 ls [.int x119]) rfl ?_
      subst hQ
      exact zq_iret E hr hZ hM hS hR hlocks dX12_build_34
    · have b109 := zi_eq b109 (rfl : x107.toInt = x107.toInt) (zl_0 : (0 : Int32).toInt = 0)
      refine lv_iconst (v := (-1)) hx hb dX12_build_16 (by decide +kernel) ?_
      subst hQ
      exact zq_iret E hr hZ hM hS hR hlocks dX12_build_17
def zw_X12_ask : List (Nat × Nat) := [(10, 25), (59, 999), (60, 999)]
set_option maxHeartbeats 8000000 in
set_option maxRecDepth 100000 in
theorem c_X12_ask (l : Launch) (X : zq_X) (zk zn : Nat) (I : zq_M) (L : zq_L X)  (h0 : Nat) (k_h0 : zq_k X h0 = 10) (p1 : Int32) (p2 : Int32) (q_0 : zk ≤ 4400 ∧ zn ≤ 4400) (q_1 : zk ≤ 2200) : Met l yX12_ask (zt_w yX12_ask cX12_ask 3 (some .int)) (zq_rm (2)) (va_Pc [.ref h0, .int p1, .int p2] (zq_W X (zk, zk) I)) (va_Qi (fun (r : Int32) I2 => zq_fr (zf X zw_X12_ask (fun _ => False)) I I2 ∧ ((-1) ≤ r.toInt ∧ r.toInt ≤ 99)) (zq_E X (zk, zk)) (zq_A X)) 0 0 (zq_A X) := by
  refine Met.ofW (cc := cX12_ask) (maxL := 3) (ret := (some .int)) (by decide) rfl ?_
  intro p e s m args below meth c s₁ B hml hv
  obtain ⟨hargs, hM, hZ⟩ := hv
  have hown : s.vm.findClass RX12 = some m.cls := findClass_of_methodNamed B.named
  have hts := atoms_spec (ws := zt_w yX12_ask cX12_ask 3 (some .int)) B.pre
  have E : CallFix p m c cX12_ask 3 s args (Cond.code yX12_ask cX12_ask 3 (some .int) :: zt) RX12 := ⟨B.exec, B.bytes, hml, hown, hts⟩
  have hx := B.exec
  have hb := B.bytes
  have hr := B.returns
  have hlocks := B.notSynchronized
  clear B
  have hS : va_S (zq_A X) s.heap s.heap [] := va_S.rf
  have hR : zq_fr (zf X zw_X12_ask (fun _ => False)) I I := zq_fr.rf
  have hl := lv_entry ([.ref h0, .int p1, .int p2]) (n := 3) (by exact Nat.le_of_ble_eq_true rfl)
  have hg : entryFrame m args 3 = F0 m 0 ((lg_sl ([.ref h0, .int p1, .int p2]) ++ List.replicate (3 - (lg_sl ([.ref h0, .int p1, .int p2])).length) Slot.unset).toArray) [] := by rw [hargs]; exact lg_entry_eq m ([.ref h0, .int p1, .int p2]) 3
  rw [hg]
  clear hg hargs
  generalize (lg_sl ([.ref h0, .int p1, .int p2]) ++ List.replicate (3 - (lg_sl ([.ref h0, .int p1, .int p2])).length) Slot.unset).toArray = ls at hl ⊢
  have hl : lv_has ls 3 [(0, .ref h0), (1, .int p1), (2, .int p2)] := by exact hl
  obtain ⟨R, hRm⟩ : ∃ R : Room, R = (headSpec (zt_w yX12_ask cX12_ask 3 (some .int)) (zq_rm (2))).room := ⟨_, rfl⟩
  rw [← hRm]
  have hro : ∀ d q : Nat, d + 1 ≤ 2 → q ≤ 45 → zq_rok d q R := fun d q h1 h2 => by rw [hRm]; exact zq_rokI h1 h2
  generalize hQ : MQ below _ args s 0 0 (zq_A X) = Q
  obtain ⟨H, hH⟩ : ∃ H, H = s.heap := ⟨_, rfl⟩
  obtain ⟨locs, hlo⟩ : ∃ x : List Loc, x = [] := ⟨_, rfl⟩
  rw [show W p l e R s m args below meth c s.heap [] 0 0 Q = W p l e R s m args below meth c H locs 0 0 Q by rw [hH, hlo]]
  have hM : zq_hm X (zk, zk) I H := by rw [hH]; exact hM
  have hS : va_S (zq_A X) s.heap H locs := by rw [hH, hlo]; exact hS
  clear hH hlo
  refine lv_aload_n hx hb dX12_ask_0 rfl (lv_at hl 0 rfl) ?_
  refine lv_iload_n hx hb dX12_ask_1 rfl (lv_at hl 1 rfl) ?_
  refine zq_pcalli (zq_rV (As := [.int p1]) (rest := []) E hZ hM k_h0 (c_X12_isTown l X zk (zk) I L h0 k_h0 p1 (by have := zi_rng p1; omega)) zmX12_299 zM_X12_isTown (hro (0) 2 (by first | decide | omega) (by decide)) ⟨by decide, by decide⟩ rfl hl.1 rfl rfl (Nat.le_of_ble_eq_true rfl) dX12_ask_2) hS (fun x102 H locs h101 hM hS => ?_)
  obtain ⟨p103, p104⟩ := h101
  refine lv_if_eq (tgt := 30) hx hb dX12_ask_5 (by decide) (fun b105 => ?_) (fun b105 => ?_)
  · have b105 := zi_eq b105 (rfl : x102.toInt = x102.toInt) (zl_0 : (0 : Int32).toInt = 0)
    refine lv_iconst (v := (-1)) hx hb dX12_ask_30 (by decide +kernel) ?_
    subst hQ
    exact zq_iret E hr hZ hM hS ⟨hR, (by have := zl_m1; omega)⟩ hlocks dX12_ask_31
  · have b105 := zi_ne b105 (rfl : x102.toInt = x102.toInt) (zl_0 : (0 : Int32).toInt = 0)
    refine lv_iload_n hx hb dX12_ask_8 rfl (lv_at hl 2 rfl) ?_
    refine lv_i2l hx hb dX12_ask_9 rfl ?_
    refine lv_topl (fun y106 ey106 => ?_)
    have ty106 := zi_i2l ey106
    have := zi_rng p2
    refine lv_lconst (v := 1) hx hb dX12_ask_10 (by decide +kernel) ?_
    refine W.ldc2 (v := 99) hx hb hown (hts _ (List.mem_cons_of_mem _ zCX12_366)) rfl dX12_ask_11 ?_
    refine W.eq (g2 := F0 m 14 ls [.long (99 : Int64), .long (1 : Int64), .long y106]) rfl ?_
    refine zq_pcalli (zq_rS (As := [.long y106, .long (1 : Int64), .long (99 : Int64)]) (rest := []) E hZ hM (c_X12_in l X zk (zk) I L y106 (1 : Int64) (99 : Int64)) zmX12_112 zM_X12_in (hro (0) 6 (by first | decide | omega) (by decide)) hl.1 rfl rfl (Nat.le_of_ble_eq_true rfl) dX12_ask_14) hS (fun x108 H locs h107 hM hS => ?_)
    obtain ⟨p109, p110⟩ := h107
    have : (1 : Int64).toInt = 1 := by decide +kernel
    have : (99 : Int64).toInt = 99 := by decide +kernel
    refine lv_if_eq (tgt := 30) hx hb dX12_ask_17 (by decide) (fun b111 => ?_) (fun b111 => ?_)
    · have b111 := zi_eq b111 (rfl : x108.toInt = x108.toInt) (zl_0 : (0 : Int32).toInt = 0)
      refine lv_iconst (v := (-1)) hx hb dX12_ask_30 (by decide +kernel) ?_
      subst hQ
      exact zq_iret E hr hZ hM hS ⟨hR, (by have := zl_m1; omega)⟩ hlocks dX12_ask_31
    · have b111 := zi_ne b111 (rfl : x108.toInt = x108.toInt) (zl_0 : (0 : Int32).toInt = 0)
      refine lv_aload_n hx hb dX12_ask_20 rfl (lv_at hl 0 rfl) ?_
      refine lv_iload_n hx hb dX12_ask_21 rfl (lv_at hl 1 rfl) ?_
      refine lv_iconst (v := 1) hx hb dX12_ask_22 (by decide +kernel) ?_
      refine zq_pcalli (zq_rV (As := [.int p1, .int (1 : Int32)]) (rest := []) E hZ hM k_h0 (c_X12_townOf l X zk (zk) I L h0 k_h0 p1 (1 : Int32) ⟨by omega, by omega⟩ (by rw [zl_1]; decide) (by have := zl_1; omega)) zmX12_308 zM_X12_townOf (hro (0) 3 (by first | decide | omega) (by decide)) ⟨by decide, by decide⟩ rfl hl.1 rfl rfl (Nat.le_of_ble_eq_true rfl) dX12_ask_23) hS (fun x113 H locs h112 hM hS => ?_)
      obtain ⟨p114, p115, p116, p117⟩ := h112
      have := zl_1
      refine lv_iload_n hx hb dX12_ask_26 rfl (lv_at hl 2 rfl) ?_
      refine lv_icmp_ne (tgt := 32) hx hb dX12_ask_27 (by decide) (fun b118 => ?_) (fun b118 => ?_)
      · have b118 := zi_ne b118 (rfl : x113.toInt = x113.toInt) (rfl : p2.toInt = p2.toInt)
        refine lv_aload_n hx hb dX12_ask_32 rfl (lv_at hl 0 rfl) ?_
        refine zq_callv (zq_rV (As := []) (rest := []) E hZ hM k_h0 (c_X12_keepsAct l X zk (zk) I L h0 k_h0 (by omega)) zmX12_360 zM_X12_keepsAct (hro (0) 2 (by first | decide | omega) (by decide)) ⟨by decide, by decide⟩ rfl hl.1 rfl rfl (Nat.le_of_ble_eq_true rfl) dX12_ask_33) hS (fun I121 H locs h119 hM hS => ?_)
        have fr122 := h119
        have hR := zq_fr.call hR fr122 (zf_sub (by decide +kernel) (fun _ _ q => q.elim))
        refine lv_aload_n hx hb dX12_ask_36 rfl (lv_at hl 0 rfl) ?_
        refine lv_iload_n hx hb dX12_ask_37 rfl (lv_at hl 1 rfl) ?_
        refine lv_iload_n hx hb dX12_ask_38 rfl (lv_at hl 2 rfl) ?_
        refine zq_callv (zq_rV (As := [.int p1, .int p2]) (rest := []) E hZ hM k_h0 (c_X12_asks l X zk (zk) I121 L h0 k_h0 p1 p2 ⟨by omega, by omega⟩ ⟨by omega, by omega⟩ (by omega)) zmX12_381 zM_X12_asks (hro (1) 3 (by first | decide | omega) (by decide)) ⟨by decide, by decide⟩ rfl hl.1 rfl rfl (Nat.le_of_ble_eq_true rfl) dX12_ask_39) hS (fun I125 H locs h123 hM hS => ?_)
        have fr126 := h123
        have hR := zq_fr.call hR fr126 (zf_sub (by decide +kernel) (fun _ _ q => q.elim))
        refine lv_aload_n hx hb dX12_ask_42 rfl (lv_at hl 0 rfl) ?_
        refine lv_iload_n hx hb dX12_ask_43 rfl (lv_at hl 1 rfl) ?_
        refine lv_iconst (v := 0) hx hb dX12_ask_44 (by decide +kernel) ?_
        refine W.eq (g2 := F0 m 45 ls [.int (0 : Int32), .int p1, .ref h0]) rfl ?_
        refine zq_pcalli (zq_rV (As := [.int p1, .int (0 : Int32)]) (rest := []) E hZ hM k_h0 (c_X12_townOf l X zk (zk) I125 L h0 k_h0 p1 (0 : Int32) ⟨by omega, by omega⟩ (by rw [zl_0]; decide) (by have := zl_0; omega)) zmX12_308 zM_X12_townOf (hro (0) 3 (by first | decide | omega) (by decide)) ⟨by decide, by decide⟩ rfl hl.1 rfl rfl (Nat.le_of_ble_eq_true rfl) dX12_ask_45) hS (fun x128 H locs h127 hM hS => ?_)
        obtain ⟨p129, p130, p131, p132⟩ := h127
        have := zl_0
        subst hQ
        exact zq_iret E hr hZ hM hS ⟨hR, (by omega)⟩ hlocks dX12_ask_48
      · have b118 := zi_eq b118 (rfl : x113.toInt = x113.toInt) (rfl : p2.toInt = p2.toInt)
        refine lv_iconst (v := (-1)) hx hb dX12_ask_30 (by decide +kernel) ?_
        subst hQ
        exact zq_iret E hr hZ hM hS ⟨hR, (by have := zl_m1; omega)⟩ hlocks dX12_ask_31
def zw_X12_send : List (Nat × Nat) := [(10, 18), (59, 999), (61, 999)]
set_option maxHeartbeats 8000000 in
set_option maxRecDepth 100000 in
theorem c_X12_send (l : Launch) (X : zq_X) (zk zn : Nat) (I : zq_M) (L : zq_L X)  (h0 : Nat) (k_h0 : zq_k X h0 = 10) (p1 : Int32) (p2 : Int32) (p3 : Int32) (q_0 : zk ≤ 4400 ∧ zn ≤ 4400) (q_1 : zWF X I h0) (q_2 : zk ≤ 2200) : Met l yX12_send (zt_w yX12_send cX12_send 12 (some .int)) (zq_rm (6)) (va_Pc [.ref h0, .int p1, .int p2, .int p3] (zq_W X (zk, zk) I)) (va_Qi (fun (r : Int32) I2 => zq_fr (zf X zw_X12_send (fun _ => False)) I I2) (zq_E X (zk, zk)) (zq_A X)) 0 0 (zq_A X) := by
  refine Met.ofW (cc := cX12_send) (maxL := 12) (ret := (some .int)) (by decide) rfl ?_
  intro p e s m args below meth c s₁ B hml hv
  obtain ⟨hargs, hM, hZ⟩ := hv
  have hown : s.vm.findClass RX12 = some m.cls := findClass_of_methodNamed B.named
  have hts := atoms_spec (ws := zt_w yX12_send cX12_send 12 (some .int)) B.pre
  have E : CallFix p m c cX12_send 12 s args (Cond.code yX12_send cX12_send 12 (some .int) :: zt) RX12 := ⟨B.exec, B.bytes, hml, hown, hts⟩
  have hx := B.exec
  have hb := B.bytes
  have hr := B.returns
  have hlocks := B.notSynchronized
  clear B
  have hS : va_S (zq_A X) s.heap s.heap [] := va_S.rf
  have hR : zq_fr (zf X zw_X12_send (fun _ => False)) I I := zq_fr.rf
  have hl := lv_entry ([.ref h0, .int p1, .int p2, .int p3]) (n := 12) (by exact Nat.le_of_ble_eq_true rfl)
  have hg : entryFrame m args 12 = F0 m 0 ((lg_sl ([.ref h0, .int p1, .int p2, .int p3]) ++ List.replicate (12 - (lg_sl ([.ref h0, .int p1, .int p2, .int p3])).length) Slot.unset).toArray) [] := by rw [hargs]; exact lg_entry_eq m ([.ref h0, .int p1, .int p2, .int p3]) 12
  rw [hg]
  clear hg hargs
  generalize (lg_sl ([.ref h0, .int p1, .int p2, .int p3]) ++ List.replicate (12 - (lg_sl ([.ref h0, .int p1, .int p2, .int p3])).length) Slot.unset).toArray = ls at hl ⊢
  have hl : lv_has ls 12 [(0, .ref h0), (1, .int p1), (2, .int p2), (3, .int p3)] := by exact hl
  obtain ⟨R, hRm⟩ : ∃ R : Room, R = (headSpec (zt_w yX12_send cX12_send 12 (some .int)) (zq_rm (6))).room := ⟨_, rfl⟩
  rw [← hRm]
  have hro : ∀ d q : Nat, d + 1 ≤ 6 → q ≤ 45 → zq_rok d q R := fun d q h1 h2 => by rw [hRm]; exact zq_rokI h1 h2
  generalize hQ : MQ below _ args s 0 0 (zq_A X) = Q
  obtain ⟨H, hH⟩ : ∃ H, H = s.heap := ⟨_, rfl⟩
  obtain ⟨locs, hlo⟩ : ∃ x : List Loc, x = [] := ⟨_, rfl⟩
  rw [show W p l e R s m args below meth c s.heap [] 0 0 Q = W p l e R s m args below meth c H locs 0 0 Q by rw [hH, hlo]]
  have hM : zq_hm X (zk, zk) I H := by rw [hH]; exact hM
  have hS : va_S (zq_A X) s.heap H locs := by rw [hH, hlo]; exact hS
  clear hH hlo
  refine lv_aload_n hx hb dX12_send_0 rfl (lv_at hl 0 rfl) ?_
  refine lv_iload_n hx hb dX12_send_1 rfl (lv_at hl 1 rfl) ?_
  refine zq_pcalli (zq_rV (As := [.int p1]) (rest := []) E hZ hM k_h0 (c_X12_isShip l X zk (zk) I L h0 k_h0 p1 (by have := zi_rng p1; omega)) zmX12_288 zM_X12_isShip (hro (0) 2 (by first | decide | omega) (by decide)) ⟨by decide, by decide⟩ rfl hl.1 rfl rfl (Nat.le_of_ble_eq_true rfl) dX12_send_2) hS (fun x102 H locs h101 hM hS => ?_)
  obtain ⟨p103, p104⟩ := h101
  refine lv_if_eq (tgt := 40) hx hb dX12_send_5 (by decide) (fun b105 => ?_) (fun b105 => ?_)
  · have b105 := zi_eq b105 (rfl : x102.toInt = x102.toInt) (zl_0 : (0 : Int32).toInt = 0)
    refine lv_bipush (v := (-2)) hx hb dX12_send_40 (by decide +kernel) ?_
    subst hQ
    exact zq_iret E hr hZ hM hS hR hlocks dX12_send_42
  · have b105 := zi_ne b105 (rfl : x102.toInt = x102.toInt) (zl_0 : (0 : Int32).toInt = 0)
    refine lv_aload_n hx hb dX12_send_8 rfl (lv_at hl 0 rfl) ?_
    refine lv_iload_n hx hb dX12_send_9 rfl (lv_at hl 1 rfl) ?_
    refine zq_pcalli (zq_rV (As := [.int p1]) (rest := []) E hZ hM k_h0 (c_X12_isHome l X zk (zk) I L h0 k_h0 p1 ⟨by omega, by omega⟩ (by omega)) zmX12_342 zM_X12_isHome (hro (1) 2 (by first | decide | omega) (by decide)) ⟨by decide, by decide⟩ rfl hl.1 rfl rfl (Nat.le_of_ble_eq_true rfl) dX12_send_10) hS (fun x107 H locs h106 hM hS => ?_)
    have p108 := h106
    refine lv_if_eq (tgt := 40) hx hb dX12_send_13 (by decide) (fun b109 => ?_) (fun b109 => ?_)
    · have b109 := zi_eq b109 (rfl : x107.toInt = x107.toInt) (zl_0 : (0 : Int32).toInt = 0)
      refine lv_bipush (v := (-2)) hx hb dX12_send_40 (by decide +kernel) ?_
      subst hQ
      exact zq_iret E hr hZ hM hS hR hlocks dX12_send_42
    · have b109 := zi_ne b109 (rfl : x107.toInt = x107.toInt) (zl_0 : (0 : Int32).toInt = 0)
      refine lv_iload_n hx hb dX12_send_16 rfl (lv_at hl 2 rfl) ?_
      refine lv_i2l hx hb dX12_send_17 rfl ?_
      refine lv_topl (fun y110 ey110 => ?_)
      have ty110 := zi_i2l ey110
      have := zi_rng p2
      refine lv_lconst (v := 1) hx hb dX12_send_18 (by decide +kernel) ?_
      refine W.ldc2 (v := 24) hx hb hown (hts _ (List.mem_cons_of_mem _ zCX12_399)) rfl dX12_send_19 ?_
      refine W.eq (g2 := F0 m 22 ls [.long (24 : Int64), .long (1 : Int64), .long y110]) rfl ?_
      refine zq_pcalli (zq_rS (As := [.long y110, .long (1 : Int64), .long (24 : Int64)]) (rest := []) E hZ hM (c_X12_in l X zk (zk) I L y110 (1 : Int64) (24 : Int64)) zmX12_112 zM_X12_in (hro (0) 6 (by first | decide | omega) (by decide)) hl.1 rfl rfl (Nat.le_of_ble_eq_true rfl) dX12_send_22) hS (fun x112 H locs h111 hM hS => ?_)
      obtain ⟨p113, p114⟩ := h111
      have : (1 : Int64).toInt = 1 := by decide +kernel
      have : (24 : Int64).toInt = 24 := by decide +kernel
      refine lv_if_eq (tgt := 40) hx hb dX12_send_25 (by decide) (fun b115 => ?_) (fun b115 => ?_)
      · have b115 := zi_eq b115 (rfl : x112.toInt = x112.toInt) (zl_0 : (0 : Int32).toInt = 0)
        refine lv_bipush (v := (-2)) hx hb dX12_send_40 (by decide +kernel) ?_
        subst hQ
        exact zq_iret E hr hZ hM hS hR hlocks dX12_send_42
      · have b115 := zi_ne b115 (rfl : x112.toInt = x112.toInt) (zl_0 : (0 : Int32).toInt = 0)
        refine lv_iload_n hx hb dX12_send_28 rfl (lv_at hl 3 rfl) ?_
        refine lv_i2l hx hb dX12_send_29 rfl ?_
        refine lv_topl (fun y116 ey116 => ?_)
        have ty116 := zi_i2l ey116
        have := zi_rng p3
        refine lv_lconst (v := 0) hx hb dX12_send_30 (by decide +kernel) ?_
        refine W.ldc2 (v := 3) hx hb hown (hts _ (List.mem_cons_of_mem _ zCX12_386)) rfl dX12_send_31 ?_
        refine W.eq (g2 := F0 m 34 ls [.long (3 : Int64), .long (0 : Int64), .long y116]) rfl ?_
        refine zq_pcalli (zq_rS (As := [.long y116, .long (0 : Int64), .long (3 : Int64)]) (rest := []) E hZ hM (c_X12_in l X zk (zk) I L y116 (0 : Int64) (3 : Int64)) zmX12_112 zM_X12_in (hro (0) 6 (by first | decide | omega) (by decide)) hl.1 rfl rfl (Nat.le_of_ble_eq_true rfl) dX12_send_34) hS (fun x118 H locs h117 hM hS => ?_)
        obtain ⟨p119, p120⟩ := h117
        have : (0 : Int64).toInt = 0 := by decide +kernel
        have : (3 : Int64).toInt = 3 := by decide +kernel
        refine lv_if_ne (tgt := 43) hx hb dX12_send_37 (by decide) (fun b121 => ?_) (fun b121 => ?_)
        · have b121 := zi_ne b121 (rfl : x118.toInt = x118.toInt) (zl_0 : (0 : Int32).toInt = 0)
          refine lv_aload_n hx hb dX12_send_43 rfl (lv_at hl 0 rfl) ?_
          refine zq_callv (zq_rV (As := []) (rest := []) E hZ hM k_h0 (c_X12_keeps l X zk (zk) I L h0 k_h0 (by omega) (by omega)) zmX12_388 zM_X12_keeps (hro (0) 2 (by first | decide | omega) (by decide)) ⟨by decide, by decide⟩ rfl hl.1 rfl rfl (Nat.le_of_ble_eq_true rfl) dX12_send_44) hS (fun I124 H locs h122 hM hS => ?_)
          obtain ⟨fr125, p126⟩ := h122
          have hR := zq_fr.call hR fr125 (zf_sub (by decide +kernel) (fun _ _ q => q.elim))
          have hWF127 := zWF.fr q_1 L k_h0 fr125 (by decide)
          refine lv_aload_n hx hb dX12_send_47 rfl (lv_at hl 0 rfl) ?_
          refine lv_iload_n hx hb dX12_send_48 rfl (lv_at hl 2 rfl) ?_
          refine zq_calli (zq_rV (As := [.int p2]) (rest := []) E hZ hM k_h0 (c_X12_moneyIn l X zk (zk) I124 L h0 k_h0 p2 ⟨by omega, by omega⟩ (by omega) (hWF127) (by omega)) zmX12_401 zM_X12_moneyIn (hro (5) 3 (by first | decide | omega) (by decide)) ⟨by decide, by decide⟩ rfl hl.1 rfl rfl (Nat.le_of_ble_eq_true rfl) dX12_send_49) hS (fun x129 I130 H locs h128 hM hS => ?_)
          obtain ⟨fr131, p132⟩ := h128
          have hR := zq_fr.call hR fr131 (zf_sub (by decide +kernel) (fun _ _ q => q.elim))
          have hWF133 := zWF.fr hWF127 L k_h0 fr131 (by decide)
          refine lv_istore (lv' := [(4, .int x129), (0, .ref h0), (1, .int p1), (2, .int p2), (3, .int p3)]) hx hb dX12_send_52 hl (by decide) rfl (fun ls hl => ?_)
          refine lv_iconst (v := (-1)) hx hb dX12_send_54 (by decide +kernel) ?_
          refine lv_istore (lv' := [(5, .int (-1 : Int32)), (4, .int x129), (0, .ref h0), (1, .int p1), (2, .int p2), (3, .int p3)]) hx hb dX12_send_55 hl (by decide) rfl (fun ls hl => ?_)
          refine lv_iconst (v := 0) hx hb dX12_send_57 (by decide +kernel) ?_
          refine W.eq (g2 := F0 m 58 ls [.int (0 : Int32)]) rfl ?_
          refine lv_istore (lv' := [(6, .int (0 : Int32)), (5, .int (-1 : Int32)), (4, .int x129), (0, .ref h0), (1, .int p1), (2, .int p2), (3, .int p3)]) hx hb dX12_send_58 hl (by decide) rfl (fun ls hl => ?_)
          refine lv_iconst (v := 0) hx hb dX12_send_60 (by decide +kernel) ?_
          refine lv_istore (lv' := [(7, .int (0 : Int32)), (6, .int (0 : Int32)), (5, .int (-1 : Int32)), (4, .int x129), (0, .ref h0), (1, .int p1), (2, .int p2), (3, .int p3)]) hx hb dX12_send_61 hl (by decide) rfl (fun ls hl => ?_)
          refine lv_iconst (v := 0) hx hb dX12_send_63 (by decide +kernel) ?_
          refine lv_istore (lv' := [(8, .int (0 : Int32)), (7, .int (0 : Int32)), (6, .int (0 : Int32)), (5, .int (-1 : Int32)), (4, .int x129), (0, .ref h0), (1, .int p1), (2, .int p2), (3, .int p3)]) hx hb dX12_send_64 hl (by decide) rfl (fun ls hl => ?_)
          have J66 : ∀ (n3517 : Nat) (I3515 : zq_M) (H : Heap) (locs : List Loc) (ls : Array Slot) (j3510 : Int32) (j3511 : Int32) (j3512 : Int32) (j3513 : Int32) (j3514 : Int32), 4 + 1 - j3510.toInt ≤ ((n3517 : Nat) : Int) → (zq_hm X (zk, zk) I3515 H) → (va_S (zq_A X) s.heap H locs) → (zq_fr (zf X zw_X12_send (fun _ => False)) I I3515) → (0 ≤ j3510.toInt ∧ j3510.toInt ≤ 4) → (0 ≤ j3511.toInt ∧ j3511.toInt ≤ 1) → (0 ≤ j3512.toInt ∧ j3512.toInt ≤ 99) → ((-1) ≤ j3513.toInt ∧ j3513.toInt ≤ 3) → (zWF X I3515 h0) → (lv_has ls 12 [(8, .int j3510), (7, .int j3511), (6, .int j3512), (5, .int j3513), (4, .int j3514), (0, .ref h0), (1, .int p1), (2, .int p2), (3, .int p3)]) → W p l e R s m args below meth c H locs 0 0 Q (F0 m 66 ls []) := by
            intro n3517
            induction n3517 with
            | zero => intro I3515 H locs ls j3510 j3511 j3512 j3513 j3514 mu3518 hM hS hR gj3510 gj3511 gj3512 gj3513 F3516 hl; exfalso; have := zi_rng j3510; omega
            | succ n3517 ih66 =>
              intro I3515 H locs ls j3510 j3511 j3512 j3513 j3514 mu3518 hM hS hR gj3510 gj3511 gj3512 gj3513 F3516 hl
              refine lv_iload hx hb dX12_send_66 (lv_at hl 0 rfl) ?_
              refine lv_aload_n hx hb dX12_send_68 rfl (lv_at hl 5 rfl) ?_
              refine zq_getr E hM k_h0 (zFX12_39 E hZ) ⟨by decide, by decide, by decide, rfl⟩ dX12_send_69 ?_
              have k3519 : zq_k X (zq_r X h0 20) = 59 := zq_lk L.1 k_h0 rfl (by decide)
              refine lv_iconst (v := 3) hx hb dX12_send_72 (by decide +kernel) ?_
              refine zq_ian (n := 106) (j := 3) E hZ hM k3519 ⟨by decide, rfl⟩ (by rw [zl_3]; decide) (by decide +kernel) dX12_send_73 (fun x3520 ex3520 gx3520 => ?_)
              replace gx3520 : 0 ≤ x3520.toInt ∧ x3520.toInt ≤ 4 := gx3520
              refine lv_icmp_ge (tgt := 194) hx hb dX12_send_74 (by decide) (fun b3521 => ?_) (fun b3521 => ?_)
              · have b3521 := zi_le b3521 (rfl : x3520.toInt = x3520.toInt) (rfl : j3510.toInt = j3510.toInt)
                refine lv_iload_n hx hb dX12_send_194 rfl (lv_at hl 8 rfl) ?_
                refine lv_if_ne (tgt := 203) hx hb dX12_send_195 (by decide) (fun b3522 => ?_) (fun b3522 => ?_)
                · have b3522 := zi_ne b3522 (rfl : p3.toInt = p3.toInt) (zl_0 : (0 : Int32).toInt = 0)
                  refine lv_iload_n hx hb dX12_send_203 rfl (lv_at hl 8 rfl) ?_
                  refine lv_iconst (v := 1) hx hb dX12_send_204 (by decide +kernel) ?_
                  refine lv_icmp_ne (tgt := 213) hx hb dX12_send_205 (by decide) (fun b3523 => ?_) (fun b3523 => ?_)
                  · have b3523 := zi_ne b3523 (rfl : p3.toInt = p3.toInt) (zl_1 : (1 : Int32).toInt = 1)
                    refine lv_iload_n hx hb dX12_send_213 rfl (lv_at hl 8 rfl) ?_
                    refine lv_iconst (v := 2) hx hb dX12_send_214 (by decide +kernel) ?_
                    refine lv_icmp_ne (tgt := 223) hx hb dX12_send_215 (by decide) (fun b3524 => ?_) (fun b3524 => ?_)
                    · have b3524 := zi_ne b3524 (rfl : p3.toInt = p3.toInt) (zl_2 : (2 : Int32).toInt = 2)
                      refine lv_iload hx hb dX12_send_223 (lv_at hl 1 rfl) ?_
                      subst hQ
                      exact zq_iret E hr hZ hM hS hR hlocks dX12_send_225
                    · have b3524 := zi_eq b3524 (rfl : p3.toInt = p3.toInt) (zl_2 : (2 : Int32).toInt = 2)
                      refine lv_iload hx hb dX12_send_218 (lv_at hl 2 rfl) ?_
                      refine lv_goto (tgt := 225) hx hb dX12_send_220 (by decide) ?_
                      subst hQ
                      exact zq_iret E hr hZ hM hS hR hlocks dX12_send_225
                  · have b3523 := zi_eq b3523 (rfl : p3.toInt = p3.toInt) (zl_1 : (1 : Int32).toInt = 1)
                    refine lv_iload hx hb dX12_send_208 (lv_at hl 3 rfl) ?_
                    refine lv_goto (tgt := 225) hx hb dX12_send_210 (by decide) ?_
                    subst hQ
                    exact zq_iret E hr hZ hM hS hR hlocks dX12_send_225
                · have b3522 := zi_eq b3522 (rfl : p3.toInt = p3.toInt) (zl_0 : (0 : Int32).toInt = 0)
                  refine lv_iload hx hb dX12_send_198 (lv_at hl 4 rfl) ?_
                  refine lv_goto (tgt := 225) hx hb dX12_send_200 (by decide) ?_
                  subst hQ
                  exact zq_iret E hr hZ hM hS hR hlocks dX12_send_225
              · have b3521 := zi_nle b3521 (rfl : x3520.toInt = x3520.toInt) (rfl : j3510.toInt = j3510.toInt)
                refine lv_iconst (v := 1) hx hb dX12_send_77 (by decide +kernel) ?_
                refine lv_istore (lv' := [(9, .int (1 : Int32)), (8, .int j3510), (7, .int j3511), (6, .int j3512), (5, .int j3513), (4, .int j3514), (0, .ref h0), (1, .int p1), (2, .int p2), (3, .int p3)]) hx hb dX12_send_78 hl (by decide) rfl (fun ls hl => ?_)
                have J80 : ∀ (n4200 : Nat) (I4198 : zq_M) (H : Heap) (locs : List Loc) (ls : Array Slot) (j4193 : Int32) (j4194 : Int32) (j4195 : Int32) (j4196 : Int32) (j4197 : Int32), 100 + 1 - j4193.toInt ≤ ((n4200 : Nat) : Int) → (zq_hm X (zk, zk) I4198 H) → (va_S (zq_A X) s.heap H locs) → (zq_fr (zf X zw_X12_send (fun _ => False)) I I4198) → (1 ≤ j4193.toInt ∧ j4193.toInt ≤ 100) → (0 ≤ j4194.toInt ∧ j4194.toInt ≤ 1) → (0 ≤ j4195.toInt ∧ j4195.toInt ≤ 99) → ((-1) ≤ j4196.toInt ∧ j4196.toInt ≤ 3) → (zWF X I4198 h0) → (lv_has ls 12 [(9, .int j4193), (8, .int j3510), (7, .int j4194), (6, .int j4195), (5, .int j4196), (4, .int j4197), (0, .ref h0), (1, .int p1), (2, .int p2), (3, .int p3)]) → W p l e R s m args below meth c H locs 0 0 Q (F0 m 80 ls []) := by
                  intro n4200
                  induction n4200 with
                  | zero => intro I4198 H locs ls j4193 j4194 j4195 j4196 j4197 mu4201 hM hS hR gj4193 gj4194 gj4195 gj4196 F4199 hl; exfalso; have := zi_rng j4193; omega
                  | succ n4200 ih80 =>
                    intro I4198 H locs ls j4193 j4194 j4195 j4196 j4197 mu4201 hM hS hR gj4193 gj4194 gj4195 gj4196 F4199 hl
                    refine lv_iload hx hb dX12_send_80 (lv_at hl 0 rfl) ?_
                    refine lv_aload_n hx hb dX12_send_82 rfl (lv_at hl 6 rfl) ?_
                    refine lv_iload_n hx hb dX12_send_83 rfl (lv_at hl 7 rfl) ?_
                    refine zq_pcalli (zq_rV (As := [.int p1]) (rest := [.int j4193]) E hZ hM k_h0 (c_X12_holdOf l X zk (zk) I4198 L h0 k_h0 p1 ⟨by omega, by omega⟩ (by omega)) zmX12_293 zM_X12_holdOf (hro (0) 2 (by first | decide | omega) (by decide)) ⟨by decide, by decide⟩ rfl hl.1 rfl rfl (Nat.le_of_ble_eq_true rfl) dX12_send_84) hS (fun x4203 H locs h4202 hM hS => ?_)
                    have p4204 := h4202
                    refine lv_icmp_gt (tgt := 188) hx hb dX12_send_87 (by decide) (fun b4205 => ?_) (fun b4205 => ?_)
                    · have b4205 := zi_lt b4205 (rfl : x4203.toInt = x4203.toInt) (rfl : j4193.toInt = j4193.toInt)
                      obtain ⟨x4206, ex4206⟩ : ∃ y : Int32, y = j3510 + 1 := ⟨_, rfl⟩
                      have tx4206 := zi_add ex4206 (rfl : j3510.toInt = j3510.toInt) zl_1 ⟨by omega, by omega⟩
                      refine lv_iinc (v := x4206) (lv' := [(8, .int x4206), (9, .int j4193), (7, .int j4194), (6, .int j4195), (5, .int j4196), (4, .int j4197), (0, .ref h0), (1, .int p1), (2, .int p2), (3, .int p3)]) hx hb dX12_send_188 hl (k := 1) rfl (by rw [ex4206]; rfl) (by decide) rfl (fun ls hl => ?_)
                      refine lv_goto (tgt := 66) hx hb dX12_send_191 (by decide) ?_
                      exact ih66 I4198 H locs ls x4206 j4194 j4195 j4196 j4197 (by omega) hM hS hR (⟨by omega, by omega⟩) (⟨by omega, by omega⟩) (⟨by omega, by omega⟩) (⟨by omega, by omega⟩) F4199 (lv_sub hl [0, 2, 3, 4, 5, 6, 7, 8, 9] rfl)
                    · have b4205 := zi_nlt b4205 (rfl : x4203.toInt = x4203.toInt) (rfl : j4193.toInt = j4193.toInt)
                      refine lv_iconst (v := 0) hx hb dX12_send_90 (by decide +kernel) ?_
                      refine lv_istore (lv' := [(10, .int (0 : Int32)), (9, .int j4193), (8, .int j3510), (7, .int j4194), (6, .int j4195), (5, .int j4196), (4, .int j4197), (0, .ref h0), (1, .int p1), (2, .int p2), (3, .int p3)]) hx hb dX12_send_91 hl (by decide) rfl (fun ls hl => ?_)
                      have J93 : ∀ (n4338 : Nat) (I4336 : zq_M) (H : Heap) (locs : List Loc) (ls : Array Slot) (j4331 : Int32) (j4332 : Int32) (j4333 : Int32) (j4334 : Int32) (j4335 : Int32), 2 + 1 - j4331.toInt ≤ ((n4338 : Nat) : Int) → (zq_hm X (zk, zk) I4336 H) → (va_S (zq_A X) s.heap H locs) → (zq_fr (zf X zw_X12_send (fun _ => False)) I I4336) → (0 ≤ j4331.toInt ∧ j4331.toInt ≤ 2) → (0 ≤ j4332.toInt ∧ j4332.toInt ≤ 1) → (0 ≤ j4333.toInt ∧ j4333.toInt ≤ 99) → ((-1) ≤ j4334.toInt ∧ j4334.toInt ≤ 3) → (zWF X I4336 h0) → (lv_has ls 12 [(10, .int j4331), (9, .int j4193), (8, .int j3510), (7, .int j4332), (6, .int j4333), (5, .int j4334), (4, .int j4335), (0, .ref h0), (1, .int p1), (2, .int p2), (3, .int p3)]) → W p l e R s m args below meth c H locs 0 0 Q (F0 m 93 ls []) := by
                        intro n4338
                        induction n4338 with
                        | zero => intro I4336 H locs ls j4331 j4332 j4333 j4334 j4335 mu4339 hM hS hR gj4331 gj4332 gj4333 gj4334 F4337 hl; exfalso; have := zi_rng j4331; omega
                        | succ n4338 ih93 =>
                          intro I4336 H locs ls j4331 j4332 j4333 j4334 j4335 mu4339 hM hS hR gj4331 gj4332 gj4333 gj4334 F4337 hl
                          refine lv_iload hx hb dX12_send_93 (lv_at hl 0 rfl) ?_
                          refine lv_iconst (v := 2) hx hb dX12_send_95 (by decide +kernel) ?_
                          refine lv_icmp_ge (tgt := 182) hx hb dX12_send_96 (by decide) (fun b4340 => ?_) (fun b4340 => ?_)
                          · have b4340 := zi_le b4340 (zl_2 : (2 : Int32).toInt = 2) (rfl : j4331.toInt = j4331.toInt)
                            obtain ⟨x4341, ex4341⟩ : ∃ y : Int32, y = j4193 + 1 := ⟨_, rfl⟩
                            have tx4341 := zi_add ex4341 (rfl : j4193.toInt = j4193.toInt) zl_1 ⟨by omega, by omega⟩
                            refine lv_iinc (v := x4341) (lv' := [(9, .int x4341), (10, .int j4331), (8, .int j3510), (7, .int j4332), (6, .int j4333), (5, .int j4334), (4, .int j4335), (0, .ref h0), (1, .int p1), (2, .int p2), (3, .int p3)]) hx hb dX12_send_182 hl (k := 1) rfl (by rw [ex4341]; rfl) (by decide) rfl (fun ls hl => ?_)
                            refine lv_goto (tgt := 80) hx hb dX12_send_185 (by decide) ?_
                            exact ih80 I4336 H locs ls x4341 j4332 j4333 j4334 j4335 (by omega) hM hS hR (⟨by omega, by omega⟩) (⟨by omega, by omega⟩) (⟨by omega, by omega⟩) (⟨by omega, by omega⟩) F4337 (lv_sub hl [0, 2, 3, 4, 5, 6, 7, 8, 9, 10] rfl)
                          · have b4340 := zi_nle b4340 (zl_2 : (2 : Int32).toInt = 2) (rfl : j4331.toInt = j4331.toInt)
                            refine lv_aload_n hx hb dX12_send_99 rfl (lv_at hl 7 rfl) ?_
                            refine lv_iload_n hx hb dX12_send_100 rfl (lv_at hl 8 rfl) ?_
                            refine lv_iload hx hb dX12_send_101 (lv_at hl 1 rfl) ?_
                            refine lv_iload hx hb dX12_send_103 (lv_at hl 0 rfl) ?_
                            refine lv_iconst (v := 1) hx hb dX12_send_105 (by decide +kernel) ?_
                            have J114 : ∀ (ls : Array Slot) (j4342 : Int32), (0 ≤ j4342.toInt ∧ j4342.toInt ≤ 1) → (lv_has ls 12 [(10, .int j4331), (9, .int j4193), (8, .int j3510), (7, .int j4332), (6, .int j4333), (5, .int j4334), (4, .int j4335), (0, .ref h0), (1, .int p1), (2, .int p2), (3, .int p3)]) → W p l e R s m args below meth c H locs 0 0 Q (F0 m 114 ls [.int j4342, .int j4193, .int p1, .ref h0]) := by
                              intro ls j4342 gj4342 hl
                              refine zq_pcalli (zq_rV (As := [.int p1, .int j4193, .int j4342]) (rest := []) E hZ hM k_h0 (c_X12_canSail l X zk (zk) I4336 L h0 k_h0 p1 j4193 j4342 ⟨by omega, by omega⟩ ⟨by omega, by omega⟩ (by omega)) zmX12_368 zM_X12_canSail (hro (2) 5 (by first | decide | omega) (by decide)) ⟨by decide, by decide⟩ rfl hl.1 rfl rfl (Nat.le_of_ble_eq_true rfl) dX12_send_114) hS (fun x4367 H locs h4366 hM hS => ?_)
                              obtain ⟨p4368, p4369⟩ := h4366
                              have J176 : ∀ (I4386 : zq_M) (H : Heap) (locs : List Loc) (ls : Array Slot) (j4382 : Int32) (j4383 : Int32) (j4384 : Int32) (j4385 : Int32), (zq_hm X (zk, zk) I4386 H) → (va_S (zq_A X) s.heap H locs) → (zq_fr (zf X zw_X12_send (fun _ => False)) I I4386) → (0 ≤ j4382.toInt ∧ j4382.toInt ≤ 1) → (0 ≤ j4383.toInt ∧ j4383.toInt ≤ 99) → ((-1) ≤ j4384.toInt ∧ j4384.toInt ≤ 3) → (zWF X I4386 h0) → (lv_has ls 12 [(7, .int j4382), (6, .int j4383), (5, .int j4384), (4, .int j4385), (10, .int j4331), (9, .int j4193), (8, .int j3510), (0, .ref h0), (1, .int p1), (2, .int p2), (3, .int p3)]) → W p l e R s m args below meth c H locs 0 0 Q (F0 m 176 ls []) := by
                                intro I4386 H locs ls j4382 j4383 j4384 j4385 hM hS hR gj4382 gj4383 gj4384 F4387 hl
                                obtain ⟨x4389, ex4389⟩ : ∃ y : Int32, y = j4331 + 1 := ⟨_, rfl⟩
                                have tx4389 := zi_add ex4389 (rfl : j4331.toInt = j4331.toInt) zl_1 ⟨by omega, by omega⟩
                                refine lv_iinc (v := x4389) (lv' := [(10, .int x4389), (7, .int j4382), (6, .int j4383), (5, .int j4384), (4, .int j4385), (9, .int j4193), (8, .int j3510), (0, .ref h0), (1, .int p1), (2, .int p2), (3, .int p3)]) hx hb dX12_send_176 hl (k := 4) rfl (by rw [ex4389]; rfl) (by decide) rfl (fun ls hl => ?_)
                                refine lv_goto (tgt := 93) hx hb dX12_send_179 (by decide) ?_
                                exact ih93 I4386 H locs ls x4389 j4382 j4383 j4384 j4385 (by omega) hM hS hR (⟨by omega, by omega⟩) (⟨by omega, by omega⟩) (⟨by omega, by omega⟩) (⟨by omega, by omega⟩) F4387 (lv_sub hl [0, 5, 6, 1, 2, 3, 4, 7, 8, 9, 10] rfl)
                              refine lv_if_ne (tgt := 123) hx hb dX12_send_117 (by decide) (fun b4390 => ?_) (fun b4390 => ?_)
                              · have b4390 := zi_ne b4390 (rfl : x4367.toInt = x4367.toInt) (zl_0 : (0 : Int32).toInt = 0)
                                refine lv_aload_n hx hb dX12_send_123 rfl (lv_at hl 7 rfl) ?_
                                refine lv_iload_n hx hb dX12_send_124 rfl (lv_at hl 8 rfl) ?_
                                refine lv_iload hx hb dX12_send_125 (lv_at hl 2 rfl) ?_
                                refine lv_iload hx hb dX12_send_127 (lv_at hl 1 rfl) ?_
                                refine lv_iload hx hb dX12_send_129 (lv_at hl 0 rfl) ?_
                                refine lv_iconst (v := 1) hx hb dX12_send_131 (by decide +kernel) ?_
                                have J140 : ∀ (ls : Array Slot) (j4391 : Int32), (0 ≤ j4391.toInt ∧ j4391.toInt ≤ 1) → (lv_has ls 12 [(10, .int j4331), (9, .int j4193), (8, .int j3510), (7, .int j4332), (6, .int j4333), (5, .int j4334), (4, .int j4335), (0, .ref h0), (1, .int p1), (2, .int p2), (3, .int p3)]) → W p l e R s m args below meth c H locs 0 0 Q (F0 m 140 ls [.int j4391, .int j4193, .int j3510, .int p1, .ref h0]) := by
                                  intro ls j4391 gj4391 hl
                                  refine zq_callv (zq_rV (As := [.int p1, .int j3510, .int j4193, .int j4391]) (rest := []) E hZ hM k_h0 (c_X12_sails l X zk (zk) I4336 L h0 k_h0 p1 j3510 j4193 j4391 ⟨by omega, by omega⟩ ⟨by omega, by omega⟩ ⟨by omega, by omega⟩ ⟨by omega, by omega⟩ (by omega)) zmX12_334 zM_X12_sails (hro (1) 6 (by first | decide | omega) (by decide)) ⟨by decide, by decide⟩ rfl hl.1 rfl rfl (Nat.le_of_ble_eq_true rfl) dX12_send_140) hS (fun I4405 H locs h4403 hM hS => ?_)
                                  have fr4406 := h4403
                                  have hR := zq_fr.call hR fr4406 (zf_sub (by decide +kernel) (fun _ _ q => q.elim))
                                  have hWF4407 := zWF.fr F4337 L k_h0 fr4406 (by decide)
                                  refine lv_aload_n hx hb dX12_send_143 rfl (lv_at hl 7 rfl) ?_
                                  refine lv_iload_n hx hb dX12_send_144 rfl (lv_at hl 9 rfl) ?_
                                  refine zq_calli (zq_rV (As := [.int p2]) (rest := []) E hZ hM k_h0 (c_X12_moneyIn l X zk (zk) I4405 L h0 k_h0 p2 ⟨by omega, by omega⟩ (by omega) (hWF4407) (by omega)) zmX12_401 zM_X12_moneyIn (hro (5) 3 (by first | decide | omega) (by decide)) ⟨by decide, by decide⟩ rfl hl.1 rfl rfl (Nat.le_of_ble_eq_true rfl) dX12_send_145) hS (fun x4409 I4410 H locs h4408 hM hS => ?_)
                                  obtain ⟨fr4411, p4412⟩ := h4408
                                  have hR := zq_fr.call hR fr4411 (zf_sub (by decide +kernel) (fun _ _ q => q.elim))
                                  have hWF4413 := zWF.fr hWF4407 L k_h0 fr4411 (by decide)
                                  refine lv_istore (lv' := [(11, .int x4409), (10, .int j4331), (9, .int j4193), (8, .int j3510), (7, .int j4332), (6, .int j4333), (5, .int j4334), (4, .int j4335), (0, .ref h0), (1, .int p1), (2, .int p2), (3, .int p3)]) hx hb dX12_send_148 hl (by decide) rfl (fun ls hl => ?_)
                                  refine lv_iload hx hb dX12_send_150 (lv_at hl 0 rfl) ?_
                                  refine lv_iload hx hb dX12_send_152 (lv_at hl 7 rfl) ?_
                                  refine lv_icmp_gt (tgt := 160) hx hb dX12_send_154 (by decide) (fun b4414 => ?_) (fun b4414 => ?_)
                                  · have b4414 := zi_lt b4414 (rfl : j4335.toInt = j4335.toInt) (rfl : x4409.toInt = x4409.toInt)
                                    refine lv_iload hx hb dX12_send_160 (lv_at hl 0 rfl) ?_
                                    refine lv_istore (lv' := [(4, .int x4409), (11, .int x4409), (10, .int j4331), (9, .int j4193), (8, .int j3510), (7, .int j4332), (6, .int j4333), (5, .int j4334), (0, .ref h0), (1, .int p1), (2, .int p2), (3, .int p3)]) hx hb dX12_send_162 hl (by decide) rfl (fun ls hl => ?_)
                                    refine lv_iload hx hb dX12_send_164 (lv_at hl 4 rfl) ?_
                                    refine lv_istore (lv' := [(5, .int j3510), (4, .int x4409), (11, .int x4409), (10, .int j4331), (9, .int j4193), (8, .int j3510), (7, .int j4332), (6, .int j4333), (0, .ref h0), (1, .int p1), (2, .int p2), (3, .int p3)]) hx hb dX12_send_166 hl (by decide) rfl (fun ls hl => ?_)
                                    refine lv_iload hx hb dX12_send_168 (lv_at hl 4 rfl) ?_
                                    refine lv_istore (lv' := [(6, .int j4193), (5, .int j3510), (4, .int x4409), (11, .int x4409), (10, .int j4331), (9, .int j4193), (8, .int j3510), (7, .int j4332), (0, .ref h0), (1, .int p1), (2, .int p2), (3, .int p3)]) hx hb dX12_send_170 hl (by decide) rfl (fun ls hl => ?_)
                                    refine lv_iload hx hb dX12_send_172 (lv_at hl 4 rfl) ?_
                                    refine lv_istore (lv' := [(7, .int j4331), (6, .int j4193), (5, .int j3510), (4, .int x4409), (11, .int x4409), (10, .int j4331), (9, .int j4193), (8, .int j3510), (0, .ref h0), (1, .int p1), (2, .int p2), (3, .int p3)]) hx hb dX12_send_174 hl (by decide) rfl (fun ls hl => ?_)
                                    exact J176 I4410 H locs ls j4331 j4193 j3510 x4409 hM hS hR (⟨by omega, by omega⟩) (⟨by omega, by omega⟩) (⟨by omega, by omega⟩) hWF4413 (lv_sub hl [0, 1, 2, 3, 5, 6, 7, 8, 9, 10, 11] rfl)
                                  · have b4414 := zi_nlt b4414 (rfl : j4335.toInt = j4335.toInt) (rfl : x4409.toInt = x4409.toInt)
                                    refine lv_goto (tgt := 176) hx hb dX12_send_157 (by decide) ?_
                                    exact J176 I4410 H locs ls j4332 j4333 j4334 j4335 hM hS hR (⟨by omega, by omega⟩) (⟨by omega, by omega⟩) (⟨by omega, by omega⟩) hWF4413 (lv_sub hl [4, 5, 6, 7, 1, 2, 3, 8, 9, 10, 11] rfl)
                                refine lv_icmp_ne (tgt := 139) hx hb dX12_send_132 (by decide) (fun b4415 => ?_) (fun b4415 => ?_)
                                · have b4415 := zi_ne b4415 (rfl : j4331.toInt = j4331.toInt) (zl_1 : (1 : Int32).toInt = 1)
                                  refine lv_iconst (v := 0) hx hb dX12_send_139 (by decide +kernel) ?_
                                  exact J140 ls (0 : Int32) (by rw [zl_0]; decide) (lv_sub hl [0, 1, 2, 3, 4, 5, 6, 7, 8, 9, 10] rfl)
                                · have b4415 := zi_eq b4415 (rfl : j4331.toInt = j4331.toInt) (zl_1 : (1 : Int32).toInt = 1)
                                  refine lv_iconst (v := 1) hx hb dX12_send_135 (by decide +kernel) ?_
                                  refine lv_goto (tgt := 140) hx hb dX12_send_136 (by decide) ?_
                                  exact J140 ls (1 : Int32) (by rw [zl_1]; decide) (lv_sub hl [0, 1, 2, 3, 4, 5, 6, 7, 8, 9, 10] rfl)
                              · have b4390 := zi_eq b4390 (rfl : x4367.toInt = x4367.toInt) (zl_0 : (0 : Int32).toInt = 0)
                                refine lv_goto (tgt := 176) hx hb dX12_send_120 (by decide) ?_
                                exact J176 I4336 H locs ls j4332 j4333 j4334 j4335 hM hS hR (⟨by omega, by omega⟩) (⟨by omega, by omega⟩) (⟨by omega, by omega⟩) F4337 (lv_sub hl [3, 4, 5, 6, 0, 1, 2, 7, 8, 9, 10] rfl)
                            refine lv_icmp_ne (tgt := 113) hx hb dX12_send_106 (by decide) (fun b4416 => ?_) (fun b4416 => ?_)
                            · have b4416 := zi_ne b4416 (rfl : j4331.toInt = j4331.toInt) (zl_1 : (1 : Int32).toInt = 1)
                              refine lv_iconst (v := 0) hx hb dX12_send_113 (by decide +kernel) ?_
                              exact J114 ls (0 : Int32) (by rw [zl_0]; decide) (lv_sub hl [0, 1, 2, 3, 4, 5, 6, 7, 8, 9, 10] rfl)
                            · have b4416 := zi_eq b4416 (rfl : j4331.toInt = j4331.toInt) (zl_1 : (1 : Int32).toInt = 1)
                              refine lv_iconst (v := 1) hx hb dX12_send_109 (by decide +kernel) ?_
                              refine lv_goto (tgt := 114) hx hb dX12_send_110 (by decide) ?_
                              exact J114 ls (1 : Int32) (by rw [zl_1]; decide) (lv_sub hl [0, 1, 2, 3, 4, 5, 6, 7, 8, 9, 10] rfl)
                      exact J93 (2 + 1 - (0 : Int32).toInt).toNat I4198 H locs ls (0 : Int32) j4194 j4195 j4196 j4197 (by omega) hM hS hR (by rw [zl_0]; decide) (⟨by omega, by omega⟩) (⟨by omega, by omega⟩) (⟨by omega, by omega⟩) F4199 (lv_sub hl [0, 1, 2, 3, 4, 5, 6, 7, 8, 9, 10] rfl)
                exact J80 (100 + 1 - (1 : Int32).toInt).toNat I3515 H locs ls (1 : Int32) j3511 j3512 j3513 j3514 (by omega) hM hS hR (by rw [zl_1]; decide) (⟨by omega, by omega⟩) (⟨by omega, by omega⟩) (⟨by omega, by omega⟩) F3516 (lv_sub hl [0, 1, 2, 3, 4, 5, 6, 7, 8, 9] rfl)
          exact J66 (4 + 1 - (0 : Int32).toInt).toNat I130 H locs ls (0 : Int32) (0 : Int32) (0 : Int32) (-1 : Int32) x129 (by omega) hM hS hR (by rw [zl_0]; decide) (by rw [zl_0]; decide) (by rw [zl_0]; decide) (by rw [zl_m1]; decide) hWF133 (lv_sub hl [0, 1, 2, 3, 4, 5, 6, 7, 8] rfl)
        · have b121 := zi_eq b121 (rfl : x118.toInt = x118.toInt) (zl_0 : (0 : Int32).toInt = 0)
          refine lv_bipush (v := (-2)) hx hb dX12_send_40 (by decide +kernel) ?_
          subst hQ
          exact zq_iret E hr hZ hM hS hR hlocks dX12_send_42
def zw_X12_fleet : List (Nat × Nat) := [(10, 18), (59, 999), (61, 999)]
set_option maxHeartbeats 8000000 in
set_option maxRecDepth 100000 in
theorem c_X12_fleet (l : Launch) (X : zq_X) (zk zn : Nat) (I : zq_M) (L : zq_L X)  (h0 : Nat) (k_h0 : zq_k X h0 = 10) (p1 : Int32) (p2 : Int32) (q_0 : zk ≤ 4400 ∧ zn ≤ 4400) (q_1 : zWF X I h0) (q_2 : zk ≤ 2200) : Met l yX12_fleet (zt_w yX12_fleet cX12_fleet 9 (some .int)) (zq_rm (6)) (va_Pc [.ref h0, .int p1, .int p2] (zq_W X (zk, zk) I)) (va_Qi (fun (r : Int32) I2 => zq_fr (zf X zw_X12_fleet (fun _ => False)) I I2 ∧ ((-3) ≤ r.toInt)) (zq_E X (zk, zk)) (zq_A X)) 0 0 (zq_A X) := by
  refine Met.ofW (cc := cX12_fleet) (maxL := 9) (ret := (some .int)) (by decide) rfl ?_
  intro p e s m args below meth c s₁ B hml hv
  obtain ⟨hargs, hM, hZ⟩ := hv
  have hown : s.vm.findClass RX12 = some m.cls := findClass_of_methodNamed B.named
  have hts := atoms_spec (ws := zt_w yX12_fleet cX12_fleet 9 (some .int)) B.pre
  have E : CallFix p m c cX12_fleet 9 s args (Cond.code yX12_fleet cX12_fleet 9 (some .int) :: zt) RX12 := ⟨B.exec, B.bytes, hml, hown, hts⟩
  have hx := B.exec
  have hb := B.bytes
  have hr := B.returns
  have hlocks := B.notSynchronized
  clear B
  have hS : va_S (zq_A X) s.heap s.heap [] := va_S.rf
  have hR : zq_fr (zf X zw_X12_fleet (fun _ => False)) I I := zq_fr.rf
  have hl := lv_entry ([.ref h0, .int p1, .int p2]) (n := 9) (by exact Nat.le_of_ble_eq_true rfl)
  have hg : entryFrame m args 9 = F0 m 0 ((lg_sl ([.ref h0, .int p1, .int p2]) ++ List.replicate (9 - (lg_sl ([.ref h0, .int p1, .int p2])).length) Slot.unset).toArray) [] := by rw [hargs]; exact lg_entry_eq m ([.ref h0, .int p1, .int p2]) 9
  rw [hg]
  clear hg hargs
  generalize (lg_sl ([.ref h0, .int p1, .int p2]) ++ List.replicate (9 - (lg_sl ([.ref h0, .int p1, .int p2])).length) Slot.unset).toArray = ls at hl ⊢
  have hl : lv_has ls 9 [(0, .ref h0), (1, .int p1), (2, .int p2)] := by exact hl
  obtain ⟨R, hRm⟩ : ∃ R : Room, R = (headSpec (zt_w yX12_fleet cX12_fleet 9 (some .int)) (zq_rm (6))).room := ⟨_, rfl⟩
  rw [← hRm]
  have hro : ∀ d q : Nat, d + 1 ≤ 6 → q ≤ 45 → zq_rok d q R := fun d q h1 h2 => by rw [hRm]; exact zq_rokI h1 h2
  generalize hQ : MQ below _ args s 0 0 (zq_A X) = Q
  obtain ⟨H, hH⟩ : ∃ H, H = s.heap := ⟨_, rfl⟩
  obtain ⟨locs, hlo⟩ : ∃ x : List Loc, x = [] := ⟨_, rfl⟩
  rw [show W p l e R s m args below meth c s.heap [] 0 0 Q = W p l e R s m args below meth c H locs 0 0 Q by rw [hH, hlo]]
  have hM : zq_hm X (zk, zk) I H := by rw [hH]; exact hM
  have hS : va_S (zq_A X) s.heap H locs := by rw [hH, hlo]; exact hS
  clear hH hlo
  refine lv_aload_n hx hb dX12_fleet_0 rfl (lv_at hl 0 rfl) ?_
  refine zq_pcalli (zq_rV (As := []) (rest := []) E hZ hM k_h0 (c_X12_isTrade l X zk (zk) I L h0 k_h0 (by omega)) zmX12_357 zM_X12_isTrade (hro (0) 1 (by first | decide | omega) (by decide)) ⟨by decide, by decide⟩ rfl hl.1 rfl rfl (Nat.le_of_ble_eq_true rfl) dX12_fleet_1) hS (fun x102 H locs h101 hM hS => ?_)
  have p103 := h101
  refine lv_if_eq (tgt := 31) hx hb dX12_fleet_4 (by decide) (fun b104 => ?_) (fun b104 => ?_)
  · have b104 := zi_eq b104 (rfl : x102.toInt = x102.toInt) (zl_0 : (0 : Int32).toInt = 0)
    refine lv_bipush (v := (-3)) hx hb dX12_fleet_31 (by decide +kernel) ?_
    subst hQ
    exact zq_iret E hr hZ hM hS ⟨hR, (by have := zl_m3; omega)⟩ hlocks dX12_fleet_33
  · have b104 := zi_ne b104 (rfl : x102.toInt = x102.toInt) (zl_0 : (0 : Int32).toInt = 0)
    refine lv_iload_n hx hb dX12_fleet_7 rfl (lv_at hl 1 rfl) ?_
    refine lv_i2l hx hb dX12_fleet_8 rfl ?_
    refine lv_topl (fun y105 ey105 => ?_)
    have ty105 := zi_i2l ey105
    have := zi_rng p1
    refine lv_lconst (v := 1) hx hb dX12_fleet_9 (by decide +kernel) ?_
    refine W.ldc2 (v := 24) hx hb hown (hts _ (List.mem_cons_of_mem _ zCX12_399)) rfl dX12_fleet_10 ?_
    refine W.eq (g2 := F0 m 13 ls [.long (24 : Int64), .long (1 : Int64), .long y105]) rfl ?_
    refine zq_pcalli (zq_rS (As := [.long y105, .long (1 : Int64), .long (24 : Int64)]) (rest := []) E hZ hM (c_X12_in l X zk (zk) I L y105 (1 : Int64) (24 : Int64)) zmX12_112 zM_X12_in (hro (0) 6 (by first | decide | omega) (by decide)) hl.1 rfl rfl (Nat.le_of_ble_eq_true rfl) dX12_fleet_13) hS (fun x107 H locs h106 hM hS => ?_)
    obtain ⟨p108, p109⟩ := h106
    have : (1 : Int64).toInt = 1 := by decide +kernel
    have : (24 : Int64).toInt = 24 := by decide +kernel
    refine lv_if_eq (tgt := 31) hx hb dX12_fleet_16 (by decide) (fun b110 => ?_) (fun b110 => ?_)
    · have b110 := zi_eq b110 (rfl : x107.toInt = x107.toInt) (zl_0 : (0 : Int32).toInt = 0)
      refine lv_bipush (v := (-3)) hx hb dX12_fleet_31 (by decide +kernel) ?_
      subst hQ
      exact zq_iret E hr hZ hM hS ⟨hR, (by have := zl_m3; omega)⟩ hlocks dX12_fleet_33
    · have b110 := zi_ne b110 (rfl : x107.toInt = x107.toInt) (zl_0 : (0 : Int32).toInt = 0)
      refine lv_iload_n hx hb dX12_fleet_19 rfl (lv_at hl 2 rfl) ?_
      refine lv_i2l hx hb dX12_fleet_20 rfl ?_
      refine lv_topl (fun y111 ey111 => ?_)
      have ty111 := zi_i2l ey111
      have := zi_rng p2
      refine lv_lconst (v := 0) hx hb dX12_fleet_21 (by decide +kernel) ?_
      refine W.ldc2 (v := 3) hx hb hown (hts _ (List.mem_cons_of_mem _ zCX12_386)) rfl dX12_fleet_22 ?_
      refine W.eq (g2 := F0 m 25 ls [.long (3 : Int64), .long (0 : Int64), .long y111]) rfl ?_
      refine zq_pcalli (zq_rS (As := [.long y111, .long (0 : Int64), .long (3 : Int64)]) (rest := []) E hZ hM (c_X12_in l X zk (zk) I L y111 (0 : Int64) (3 : Int64)) zmX12_112 zM_X12_in (hro (0) 6 (by first | decide | omega) (by decide)) hl.1 rfl rfl (Nat.le_of_ble_eq_true rfl) dX12_fleet_25) hS (fun x113 H locs h112 hM hS => ?_)
      obtain ⟨p114, p115⟩ := h112
      have : (0 : Int64).toInt = 0 := by decide +kernel
      have : (3 : Int64).toInt = 3 := by decide +kernel
      refine lv_if_ne (tgt := 34) hx hb dX12_fleet_28 (by decide) (fun b116 => ?_) (fun b116 => ?_)
      · have b116 := zi_ne b116 (rfl : x113.toInt = x113.toInt) (zl_0 : (0 : Int32).toInt = 0)
        refine lv_aload_n hx hb dX12_fleet_34 rfl (lv_at hl 0 rfl) ?_
        refine zq_callv (zq_rV (As := []) (rest := []) E hZ hM k_h0 (c_X12_keeps l X zk (zk) I L h0 k_h0 (by omega) (by omega)) zmX12_388 zM_X12_keeps (hro (0) 2 (by first | decide | omega) (by decide)) ⟨by decide, by decide⟩ rfl hl.1 rfl rfl (Nat.le_of_ble_eq_true rfl) dX12_fleet_35) hS (fun I119 H locs h117 hM hS => ?_)
        obtain ⟨fr120, p121⟩ := h117
        have hR := zq_fr.call hR fr120 (zf_sub (by decide +kernel) (fun _ _ q => q.elim))
        have hWF122 := zWF.fr q_1 L k_h0 fr120 (by decide)
        refine lv_iconst (v := 0) hx hb dX12_fleet_38 (by decide +kernel) ?_
        refine lv_istore_n (lv' := [(3, .int (0 : Int32)), (0, .ref h0), (1, .int p1), (2, .int p2)]) hx hb dX12_fleet_39 rfl hl (by decide) rfl (fun ls hl => ?_)
        refine lv_iconst (v := (-1)) hx hb dX12_fleet_40 (by decide +kernel) ?_
        refine lv_istore (lv' := [(4, .int (-1 : Int32)), (3, .int (0 : Int32)), (0, .ref h0), (1, .int p1), (2, .int p2)]) hx hb dX12_fleet_41 hl (by decide) rfl (fun ls hl => ?_)
        refine lv_iconst (v := 0) hx hb dX12_fleet_43 (by decide +kernel) ?_
        refine lv_istore (lv' := [(5, .int (0 : Int32)), (4, .int (-1 : Int32)), (3, .int (0 : Int32)), (0, .ref h0), (1, .int p1), (2, .int p2)]) hx hb dX12_fleet_44 hl (by decide) rfl (fun ls hl => ?_)
        have J46 : ∀ (n1049 : Nat) (I1047 : zq_M) (H : Heap) (locs : List Loc) (ls : Array Slot) (j1044 : Int32) (j1045 : Int32) (j1046 : Int32), 125 + 1 - j1044.toInt ≤ ((n1049 : Nat) : Int) → (zq_hm X (zk, zk) I1047 H) → (va_S (zq_A X) s.heap H locs) → (zq_fr (zf X zw_X12_fleet (fun _ => False)) I I1047) → (0 ≤ j1044.toInt ∧ j1044.toInt ≤ 125) → ((-1) ≤ j1045.toInt) → (0 ≤ j1046.toInt ∧ j1046.toInt ≤ 124) → (zWF X I1047 h0) → (lv_has ls 9 [(5, .int j1044), (4, .int j1045), (3, .int j1046), (0, .ref h0), (1, .int p1), (2, .int p2)]) → W p l e R s m args below meth c H locs 0 0 Q (F0 m 46 ls []) := by
          intro n1049
          induction n1049 with
          | zero => intro I1047 H locs ls j1044 j1045 j1046 mu1050 hM hS hR gj1044 gj1045 gj1046 F1048 hl; exfalso; have := zi_rng j1044; omega
          | succ n1049 ih46 =>
            intro I1047 H locs ls j1044 j1045 j1046 mu1050 hM hS hR gj1044 gj1045 gj1046 F1048 hl
            have := zi_rng j1045
            refine lv_iload hx hb dX12_fleet_46 (lv_at hl 0 rfl) ?_
            refine lv_aload_n hx hb dX12_fleet_48 rfl (lv_at hl 3 rfl) ?_
            refine zq_getr E hM k_h0 (zFX12_39 E hZ) ⟨by decide, by decide, by decide, rfl⟩ dX12_fleet_49 ?_
            have k1051 : zq_k X (zq_r X h0 20) = 59 := zq_lk L.1 k_h0 rfl (by decide)
            refine lv_iconst (v := 3) hx hb dX12_fleet_52 (by decide +kernel) ?_
            refine zq_ian (n := 106) (j := 3) E hZ hM k1051 ⟨by decide, rfl⟩ (by rw [zl_3]; decide) (by decide +kernel) dX12_fleet_53 (fun x1052 ex1052 gx1052 => ?_)
            replace gx1052 : 0 ≤ x1052.toInt ∧ x1052.toInt ≤ 4 := gx1052
            refine lv_iconst (v := 1) hx hb dX12_fleet_54 (by decide +kernel) ?_
            refine lv_iadd hx hb dX12_fleet_55 ?_
            refine lv_topi (fun x1053 ex1053 => ?_)
            have tx1053 := zi_add ex1053 (rfl : x1052.toInt = x1052.toInt) (zl_1 : (1 : Int32).toInt = 1) ⟨by omega, by omega⟩
            refine lv_aload_n hx hb dX12_fleet_56 rfl (lv_at hl 3 rfl) ?_
            refine zq_getr E hM k_h0 (zFX12_39 E hZ) ⟨by decide, by decide, by decide, rfl⟩ dX12_fleet_57 ?_
            have k1054 : zq_k X (zq_r X h0 20) = 59 := zq_lk L.1 k_h0 rfl (by decide)
            refine W.eq (g2 := F0 m 60 ls [.ref (zq_r X h0 20), .int x1053, .int j1044]) rfl ?_
            refine lv_iconst (v := 2) hx hb dX12_fleet_60 (by decide +kernel) ?_
            refine zq_ian (n := 106) (j := 2) E hZ hM k1054 ⟨by decide, rfl⟩ (by rw [zl_2]; decide) (by decide +kernel) dX12_fleet_61 (fun x1055 ex1055 gx1055 => ?_)
            replace gx1055 : 0 ≤ x1055.toInt ∧ x1055.toInt ≤ 3 := gx1055
            refine zq_pcalli (zq_rS (As := [.int x1053, .int x1055]) (rest := [.int j1044]) E hZ hM (c_X12_power l X zk (zk) I1047 L x1053 x1055 ⟨by omega, by omega⟩ ⟨by omega, by omega⟩) zmX12_404 zM_X12_power (hro (0) 4 (by first | decide | omega) (by decide)) hl.1 rfl rfl (Nat.le_of_ble_eq_true rfl) dX12_fleet_62) hS (fun x1057 H locs h1056 hM hS => ?_)
            have p1058 := h1056
            refine lv_icmp_ge (tgt := 203) hx hb dX12_fleet_65 (by decide) (fun b1059 => ?_) (fun b1059 => ?_)
            · have b1059 := zi_le b1059 (rfl : x1057.toInt = x1057.toInt) (rfl : j1044.toInt = j1044.toInt)
              refine lv_iload_n hx hb dX12_fleet_203 rfl (lv_at hl 5 rfl) ?_
              refine lv_if_ne (tgt := 210) hx hb dX12_fleet_204 (by decide) (fun b1060 => ?_) (fun b1060 => ?_)
              · have b1060 := zi_ne b1060 (rfl : p2.toInt = p2.toInt) (zl_0 : (0 : Int32).toInt = 0)
                refine lv_iload_n hx hb dX12_fleet_210 rfl (lv_at hl 5 rfl) ?_
                refine lv_iconst (v := 1) hx hb dX12_fleet_211 (by decide +kernel) ?_
                refine lv_isub hx hb dX12_fleet_212 ?_
                refine lv_topi (fun x1061 ex1061 => ?_)
                have tx1061 := zi_sub ex1061 (rfl : p2.toInt = p2.toInt) (zl_1 : (1 : Int32).toInt = 1) ⟨by omega, by omega⟩
                refine lv_aload_n hx hb dX12_fleet_213 rfl (lv_at hl 3 rfl) ?_
                refine zq_getr E hM k_h0 (zFX12_39 E hZ) ⟨by decide, by decide, by decide, rfl⟩ dX12_fleet_214 ?_
                have k1062 : zq_k X (zq_r X h0 20) = 59 := zq_lk L.1 k_h0 rfl (by decide)
                refine lv_iconst (v := 2) hx hb dX12_fleet_217 (by decide +kernel) ?_
                refine zq_iald (n := 106) (j := 2) (v := x1055) E hZ hM k1062 ⟨by decide, rfl⟩ (by rw [zl_2]; decide) (by decide +kernel) ex1055 dX12_fleet_218 ?_
                refine lv_icmp_ge (tgt := 243) hx hb dX12_fleet_219 (by decide) (fun b1064 => ?_) (fun b1064 => ?_)
                · have b1064 := zi_le b1064 (rfl : x1055.toInt = x1055.toInt) (rfl : x1061.toInt = x1061.toInt)
                  refine lv_bipush (v := (-2)) hx hb dX12_fleet_243 (by decide +kernel) ?_
                  subst hQ
                  exact zq_iret E hr hZ hM hS ⟨hR, (by have := zl_m2; omega)⟩ hlocks dX12_fleet_245
                · have b1064 := zi_nle b1064 (rfl : x1055.toInt = x1055.toInt) (rfl : x1061.toInt = x1061.toInt)
                  refine lv_aload_n hx hb dX12_fleet_222 rfl (lv_at hl 3 rfl) ?_
                  refine lv_iload_n hx hb dX12_fleet_223 rfl (lv_at hl 5 rfl) ?_
                  refine lv_iconst (v := 1) hx hb dX12_fleet_224 (by decide +kernel) ?_
                  refine lv_isub hx hb dX12_fleet_225 ?_
                  refine lv_topi (fun x1065 ex1065 => ?_)
                  have tx1065 := zi_sub ex1065 (rfl : p2.toInt = p2.toInt) (zl_1 : (1 : Int32).toInt = 1) ⟨by omega, by omega⟩
                  refine zq_pcalli (zq_rV (As := [.int x1065]) (rest := []) E hZ hM k_h0 (c_X12_isHome l X zk (zk) I1047 L h0 k_h0 x1065 ⟨by omega, by omega⟩ (by omega)) zmX12_342 zM_X12_isHome (hro (1) 2 (by first | decide | omega) (by decide)) ⟨by decide, by decide⟩ rfl hl.1 rfl rfl (Nat.le_of_ble_eq_true rfl) dX12_fleet_226) hS (fun x1067 H locs h1066 hM hS => ?_)
                  have p1068 := h1066
                  refine lv_if_eq (tgt := 243) hx hb dX12_fleet_229 (by decide) (fun b1069 => ?_) (fun b1069 => ?_)
                  · have b1069 := zi_eq b1069 (rfl : x1067.toInt = x1067.toInt) (zl_0 : (0 : Int32).toInt = 0)
                    refine lv_bipush (v := (-2)) hx hb dX12_fleet_243 (by decide +kernel) ?_
                    subst hQ
                    exact zq_iret E hr hZ hM hS ⟨hR, (by have := zl_m2; omega)⟩ hlocks dX12_fleet_245
                  · have b1069 := zi_ne b1069 (rfl : x1067.toInt = x1067.toInt) (zl_0 : (0 : Int32).toInt = 0)
                    refine lv_aload_n hx hb dX12_fleet_232 rfl (lv_at hl 3 rfl) ?_
                    refine lv_iload_n hx hb dX12_fleet_233 rfl (lv_at hl 2 rfl) ?_
                    refine lv_iload_n hx hb dX12_fleet_234 rfl (lv_at hl 5 rfl) ?_
                    refine lv_iconst (v := 1) hx hb dX12_fleet_235 (by decide +kernel) ?_
                    refine lv_isub hx hb dX12_fleet_236 ?_
                    refine lv_topi (fun x1070 ex1070 => ?_)
                    have tx1070 := zi_sub ex1070 (rfl : p2.toInt = p2.toInt) (zl_1 : (1 : Int32).toInt = 1) ⟨by omega, by omega⟩
                    refine zq_pcalli (zq_rV (As := [.int j1046, .int x1070]) (rest := []) E hZ hM k_h0 (c_X12_townIn l X zk (zk) I1047 L h0 k_h0 j1046 x1070 ⟨by omega, by omega⟩ ⟨by omega, by omega⟩ (by omega)) zmX12_407 zM_X12_townIn (hro (1) 3 (by first | decide | omega) (by decide)) ⟨by decide, by decide⟩ rfl hl.1 rfl rfl (Nat.le_of_ble_eq_true rfl) dX12_fleet_237) hS (fun x1072 H locs h1071 hM hS => ?_)
                    have p1073 := h1071
                    refine lv_goto (tgt := 245) hx hb dX12_fleet_240 (by decide) ?_
                    subst hQ
                    exact zq_iret E hr hZ hM hS ⟨hR, (by omega)⟩ hlocks dX12_fleet_245
              · have b1060 := zi_eq b1060 (rfl : p2.toInt = p2.toInt) (zl_0 : (0 : Int32).toInt = 0)
                refine lv_iload hx hb dX12_fleet_207 (lv_at hl 1 rfl) ?_
                subst hQ
                exact zq_iret E hr hZ hM hS ⟨hR, (by have := zi_rng j1045; omega)⟩ hlocks dX12_fleet_209
            · have b1059 := zi_nle b1059 (rfl : x1057.toInt = x1057.toInt) (rfl : j1044.toInt = j1044.toInt)
              refine lv_iconst (v := 1) hx hb dX12_fleet_68 (by decide +kernel) ?_
              refine lv_istore (lv' := [(6, .int (1 : Int32)), (5, .int j1044), (4, .int j1045), (3, .int j1046), (0, .ref h0), (1, .int p1), (2, .int p2)]) hx hb dX12_fleet_69 hl (by decide) rfl (fun ls hl => ?_)
              refine lv_iconst (v := 0) hx hb dX12_fleet_71 (by decide +kernel) ?_
              refine lv_istore (lv' := [(7, .int (0 : Int32)), (6, .int (1 : Int32)), (5, .int j1044), (4, .int j1045), (3, .int j1046), (0, .ref h0), (1, .int p1), (2, .int p2)]) hx hb dX12_fleet_72 hl (by decide) rfl (fun ls hl => ?_)
              have J74 : ∀ (n1245 : Nat) (I1243 : zq_M) (H : Heap) (locs : List Loc) (ls : Array Slot) (j1241 : Int32) (j1242 : Int32), 3 + 1 - j1241.toInt ≤ ((n1245 : Nat) : Int) → (zq_hm X (zk, zk) I1243 H) → (va_S (zq_A X) s.heap H locs) → (zq_fr (zf X zw_X12_fleet (fun _ => False)) I I1243) → (0 ≤ j1241.toInt ∧ j1241.toInt ≤ 3) → (0 ≤ j1242.toInt ∧ j1242.toInt ≤ 1) → (zWF X I1243 h0) → (lv_has ls 9 [(7, .int j1241), (6, .int j1242), (5, .int j1044), (4, .int j1045), (3, .int j1046), (0, .ref h0), (1, .int p1), (2, .int p2)]) → W p l e R s m args below meth c H locs 0 0 Q (F0 m 74 ls []) := by
                intro n1245
                induction n1245 with
                | zero => intro I1243 H locs ls j1241 j1242 mu1246 hM hS hR gj1241 gj1242 F1244 hl; exfalso; have := zi_rng j1241; omega
                | succ n1245 ih74 =>
                  intro I1243 H locs ls j1241 j1242 mu1246 hM hS hR gj1241 gj1242 F1244 hl
                  refine lv_iload hx hb dX12_fleet_74 (lv_at hl 0 rfl) ?_
                  refine lv_aload_n hx hb dX12_fleet_76 rfl (lv_at hl 5 rfl) ?_
                  refine zq_getr E hM k_h0 (zFX12_39 E hZ) ⟨by decide, by decide, by decide, rfl⟩ dX12_fleet_77 ?_
                  have k1247 : zq_k X (zq_r X h0 20) = 59 := zq_lk L.1 k_h0 rfl (by decide)
                  refine lv_iconst (v := 2) hx hb dX12_fleet_80 (by decide +kernel) ?_
                  refine zq_ian (n := 106) (j := 2) E hZ hM k1247 ⟨by decide, rfl⟩ (by rw [zl_2]; decide) (by decide +kernel) dX12_fleet_81 (fun x1248 ex1248 gx1248 => ?_)
                  replace gx1248 : 0 ≤ x1248.toInt ∧ x1248.toInt ≤ 3 := gx1248
                  refine lv_icmp_ge (tgt := 159) hx hb dX12_fleet_82 (by decide) (fun b1249 => ?_) (fun b1249 => ?_)
                  · have b1249 := zi_le b1249 (rfl : x1248.toInt = x1248.toInt) (rfl : j1241.toInt = j1241.toInt)
                    refine lv_aload_n hx hb dX12_fleet_159 rfl (lv_at hl 5 rfl) ?_
                    refine lv_iload hx hb dX12_fleet_160 (lv_at hl 1 rfl) ?_
                    have J170 : ∀ (ls : Array Slot) (j1250 : Int32), (0 ≤ j1250.toInt ∧ j1250.toInt ≤ 24) → (lv_has ls 9 [(7, .int j1241), (6, .int j1242), (5, .int j1044), (4, .int j1045), (3, .int j1046), (0, .ref h0), (1, .int p1), (2, .int p2)]) → W p l e R s m args below meth c H locs 0 0 Q (F0 m 170 ls [.int j1250, .ref h0]) := by
                      intro ls j1250 gj1250 hl
                      refine zq_calli (zq_rV (As := [.int j1250]) (rest := []) E hZ hM k_h0 (c_X12_moneyIn l X zk (zk) I1243 L h0 k_h0 j1250 ⟨by omega, by omega⟩ (by omega) (F1244) (by omega)) zmX12_401 zM_X12_moneyIn (hro (5) 3 (by first | decide | omega) (by decide)) ⟨by decide, by decide⟩ rfl hl.1 rfl rfl (Nat.le_of_ble_eq_true rfl) dX12_fleet_170) hS (fun x1261 I1262 H locs h1260 hM hS => ?_)
                      obtain ⟨fr1263, p1264⟩ := h1260
                      have hR := zq_fr.call hR fr1263 (zf_sub (by decide +kernel) (fun _ _ q => q.elim))
                      have hWF1265 := zWF.fr F1244 L k_h0 fr1263 (by decide)
                      refine lv_istore (lv' := [(7, .int x1261), (6, .int j1242), (5, .int j1044), (4, .int j1045), (3, .int j1046), (0, .ref h0), (1, .int p1), (2, .int p2)]) hx hb dX12_fleet_173 hl (by decide) rfl (fun ls hl => ?_)
                      refine lv_iload hx hb dX12_fleet_175 (lv_at hl 1 rfl) ?_
                      have J197 : ∀ (ls : Array Slot) (j1266 : Int32) (j1267 : Int32), ((-1) ≤ j1266.toInt) → (0 ≤ j1267.toInt ∧ j1267.toInt ≤ 124) → (lv_has ls 9 [(7, .int x1261), (6, .int j1242), (5, .int j1044), (4, .int j1266), (3, .int j1267), (0, .ref h0), (1, .int p1), (2, .int p2)]) → W p l e R s m args below meth c H locs 0 0 Q (F0 m 197 ls []) := by
                        intro ls j1266 j1267 gj1266 gj1267 hl
                        have := zi_rng j1266
                        obtain ⟨x1269, ex1269⟩ : ∃ y : Int32, y = j1044 + 1 := ⟨_, rfl⟩
                        have tx1269 := zi_add ex1269 (rfl : j1044.toInt = j1044.toInt) zl_1 ⟨by omega, by omega⟩
                        refine lv_iinc (v := x1269) (lv' := [(5, .int x1269), (7, .int x1261), (6, .int j1242), (4, .int j1266), (3, .int j1267), (0, .ref h0), (1, .int p1), (2, .int p2)]) hx hb dX12_fleet_197 hl (k := 2) rfl (by rw [ex1269]; rfl) (by decide) rfl (fun ls hl => ?_)
                        refine lv_goto (tgt := 46) hx hb dX12_fleet_200 (by decide) ?_
                        exact ih46 I1262 H locs ls x1269 j1266 j1267 (by omega) hM hS hR (⟨by omega, by omega⟩) (by have := zi_rng j1266; omega) (⟨by omega, by omega⟩) hWF1265 (lv_sub hl [0, 3, 4, 5, 6, 7] rfl)
                      refine lv_if_eq (tgt := 197) hx hb dX12_fleet_177 (by decide) (fun b1270 => ?_) (fun b1270 => ?_)
                      · have b1270 := zi_eq b1270 (rfl : j1242.toInt = j1242.toInt) (zl_0 : (0 : Int32).toInt = 0)
                        exact J197 ls j1045 j1046 (by have := zi_rng j1045; omega) (⟨by omega, by omega⟩) (lv_sub hl [0, 1, 2, 3, 4, 5, 6, 7] rfl)
                      · have b1270 := zi_ne b1270 (rfl : j1242.toInt = j1242.toInt) (zl_0 : (0 : Int32).toInt = 0)
                        refine lv_iload hx hb dX12_fleet_180 (lv_at hl 0 rfl) ?_
                        refine lv_iload hx hb dX12_fleet_182 (lv_at hl 3 rfl) ?_
                        refine lv_icmp_gt (tgt := 190) hx hb dX12_fleet_184 (by decide) (fun b1271 => ?_) (fun b1271 => ?_)
                        · have b1271 := zi_lt b1271 (rfl : j1045.toInt = j1045.toInt) (rfl : x1261.toInt = x1261.toInt)
                          refine lv_iload hx hb dX12_fleet_190 (lv_at hl 2 rfl) ?_
                          refine lv_istore_n (lv' := [(3, .int j1044), (7, .int x1261), (6, .int j1242), (5, .int j1044), (4, .int j1045), (0, .ref h0), (1, .int p1), (2, .int p2)]) hx hb dX12_fleet_192 rfl hl (by decide) rfl (fun ls hl => ?_)
                          refine lv_iload hx hb dX12_fleet_193 (lv_at hl 1 rfl) ?_
                          refine lv_istore (lv' := [(4, .int x1261), (3, .int j1044), (7, .int x1261), (6, .int j1242), (5, .int j1044), (0, .ref h0), (1, .int p1), (2, .int p2)]) hx hb dX12_fleet_195 hl (by decide) rfl (fun ls hl => ?_)
                          exact J197 ls x1261 j1044 (by have := zi_rng x1261; omega) (⟨by omega, by omega⟩) (lv_sub hl [2, 3, 4, 0, 1, 5, 6, 7] rfl)
                        · have b1271 := zi_nlt b1271 (rfl : j1045.toInt = j1045.toInt) (rfl : x1261.toInt = x1261.toInt)
                          refine lv_goto (tgt := 197) hx hb dX12_fleet_187 (by decide) ?_
                          exact J197 ls j1045 j1046 (by have := zi_rng j1045; omega) (⟨by omega, by omega⟩) (lv_sub hl [0, 1, 2, 3, 4, 5, 6, 7] rfl)
                    refine lv_if_eq (tgt := 169) hx hb dX12_fleet_162 (by decide) (fun b1272 => ?_) (fun b1272 => ?_)
                    · have b1272 := zi_eq b1272 (rfl : j1242.toInt = j1242.toInt) (zl_0 : (0 : Int32).toInt = 0)
                      refine lv_iconst (v := 0) hx hb dX12_fleet_169 (by decide +kernel) ?_
                      exact J170 ls (0 : Int32) (by rw [zl_0]; decide) (lv_sub hl [0, 1, 2, 3, 4, 5, 6, 7] rfl)
                    · have b1272 := zi_ne b1272 (rfl : j1242.toInt = j1242.toInt) (zl_0 : (0 : Int32).toInt = 0)
                      refine lv_iload_n hx hb dX12_fleet_165 rfl (lv_at hl 6 rfl) ?_
                      refine lv_goto (tgt := 170) hx hb dX12_fleet_166 (by decide) ?_
                      exact J170 ls p1 (⟨by omega, by omega⟩) (lv_sub hl [0, 1, 2, 3, 4, 5, 6, 7] rfl)
                  · have b1249 := zi_nle b1249 (rfl : x1248.toInt = x1248.toInt) (rfl : j1241.toInt = j1241.toInt)
                    refine lv_aload_n hx hb dX12_fleet_85 rfl (lv_at hl 5 rfl) ?_
                    refine lv_iload hx hb dX12_fleet_86 (lv_at hl 2 rfl) ?_
                    refine lv_iload hx hb dX12_fleet_88 (lv_at hl 0 rfl) ?_
                    refine zq_pcalli (zq_rV (As := [.int j1044, .int j1241]) (rest := []) E hZ hM k_h0 (c_X12_townIn l X zk (zk) I1243 L h0 k_h0 j1044 j1241 ⟨by omega, by omega⟩ ⟨by omega, by omega⟩ (by omega)) zmX12_407 zM_X12_townIn (hro (1) 3 (by first | decide | omega) (by decide)) ⟨by decide, by decide⟩ rfl hl.1 rfl rfl (Nat.le_of_ble_eq_true rfl) dX12_fleet_90) hS (fun x1274 H locs h1273 hM hS => ?_)
                    have p1275 := h1273
                    refine lv_istore (lv' := [(8, .int x1274), (7, .int j1241), (6, .int j1242), (5, .int j1044), (4, .int j1045), (3, .int j1046), (0, .ref h0), (1, .int p1), (2, .int p2)]) hx hb dX12_fleet_93 hl (by decide) rfl (fun ls hl => ?_)
                    refine lv_iload hx hb dX12_fleet_95 (lv_at hl 0 rfl) ?_
                    have J153 : ∀ (I1296 : zq_M) (H : Heap) (locs : List Loc) (ls : Array Slot) (j1295 : Int32), (zq_hm X (zk, zk) I1296 H) → (va_S (zq_A X) s.heap H locs) → (zq_fr (zf X zw_X12_fleet (fun _ => False)) I I1296) → (0 ≤ j1295.toInt ∧ j1295.toInt ≤ 1) → (zWF X I1296 h0) → (lv_has ls 9 [(6, .int j1295), (8, .int x1274), (7, .int j1241), (5, .int j1044), (4, .int j1045), (3, .int j1046), (0, .ref h0), (1, .int p1), (2, .int p2)]) → W p l e R s m args below meth c H locs 0 0 Q (F0 m 153 ls []) := by
                      intro I1296 H locs ls j1295 hM hS hR gj1295 F1297 hl
                      obtain ⟨x1299, ex1299⟩ : ∃ y : Int32, y = j1241 + 1 := ⟨_, rfl⟩
                      have tx1299 := zi_add ex1299 (rfl : j1241.toInt = j1241.toInt) zl_1 ⟨by omega, by omega⟩
                      refine lv_iinc (v := x1299) (lv' := [(7, .int x1299), (6, .int j1295), (8, .int x1274), (5, .int j1044), (4, .int j1045), (3, .int j1046), (0, .ref h0), (1, .int p1), (2, .int p2)]) hx hb dX12_fleet_153 hl (k := 2) rfl (by rw [ex1299]; rfl) (by decide) rfl (fun ls hl => ?_)
                      refine lv_goto (tgt := 74) hx hb dX12_fleet_156 (by decide) ?_
                      exact ih74 I1296 H locs ls x1299 j1295 (by omega) hM hS hR (⟨by omega, by omega⟩) (⟨by omega, by omega⟩) F1297 (lv_sub hl [0, 1, 3, 4, 5, 6, 7, 8] rfl)
                    refine lv_if_ge (tgt := 103) hx hb dX12_fleet_97 (by decide) (fun b1300 => ?_) (fun b1300 => ?_)
                    · have b1300 := zi_le b1300 (zl_0 : (0 : Int32).toInt = 0) (rfl : x1274.toInt = x1274.toInt)
                      refine lv_iload hx hb dX12_fleet_103 (lv_at hl 2 rfl) ?_
                      have J122 : ∀ (H : Heap) (locs : List Loc) (ls : Array Slot) (j1304 : Int32), (zq_hm X (zk, zk) I1243 H) → (va_S (zq_A X) s.heap H locs) → (0 ≤ j1304.toInt ∧ j1304.toInt ≤ 1) → (lv_has ls 9 [(8, .int x1274), (7, .int j1241), (6, .int j1242), (5, .int j1044), (4, .int j1045), (3, .int j1046), (0, .ref h0), (1, .int p1), (2, .int p2)]) → W p l e R s m args below meth c H locs 0 0 Q (F0 m 122 ls [.int j1304]) := by
                        intro H locs ls j1304 hM hS gj1304 hl
                        refine lv_istore (lv' := [(6, .int j1304), (8, .int x1274), (7, .int j1241), (5, .int j1044), (4, .int j1045), (3, .int j1046), (0, .ref h0), (1, .int p1), (2, .int p2)]) hx hb dX12_fleet_122 hl (by decide) rfl (fun ls hl => ?_)
                        refine lv_iload hx hb dX12_fleet_124 (lv_at hl 0 rfl) ?_
                        refine lv_if_eq (tgt := 153) hx hb dX12_fleet_126 (by decide) (fun b1320 => ?_) (fun b1320 => ?_)
                        · have b1320 := zi_eq b1320 (rfl : j1304.toInt = j1304.toInt) (zl_0 : (0 : Int32).toInt = 0)
                          exact J153 I1243 H locs ls j1304 hM hS hR (⟨by omega, by omega⟩) F1244 (lv_sub hl [0, 1, 2, 3, 4, 5, 6, 7, 8] rfl)
                        · have b1320 := zi_ne b1320 (rfl : j1304.toInt = j1304.toInt) (zl_0 : (0 : Int32).toInt = 0)
                          refine lv_aload_n hx hb dX12_fleet_129 rfl (lv_at hl 6 rfl) ?_
                          refine lv_iload hx hb dX12_fleet_130 (lv_at hl 2 rfl) ?_
                          refine zq_pcalli (zq_rV (As := [.int j1241]) (rest := []) E hZ hM k_h0 (c_X12_mostFor l X zk (zk) I1243 L h0 k_h0 j1241 ⟨by omega, by omega⟩ (by omega)) zmX12_331 zM_X12_mostFor (hro (1) 4 (by first | decide | omega) (by decide)) ⟨by decide, by decide⟩ rfl hl.1 rfl rfl (Nat.le_of_ble_eq_true rfl) dX12_fleet_132) hS (fun x1322 H locs h1321 hM hS => ?_)
                          obtain ⟨p1323, p1324, p1325⟩ := h1321
                          have := zi_rng x1322
                          refine lv_if_le (tgt := 153) hx hb dX12_fleet_135 (by decide) (fun b1326 => ?_) (fun b1326 => ?_)
                          · have b1326 := zi_le b1326 (rfl : x1322.toInt = x1322.toInt) (zl_0 : (0 : Int32).toInt = 0)
                            exact J153 I1243 H locs ls j1304 hM hS hR (⟨by omega, by omega⟩) F1244 (lv_sub hl [0, 1, 2, 3, 4, 5, 6, 7, 8] rfl)
                          · have b1326 := zi_nle b1326 (rfl : x1322.toInt = x1322.toInt) (zl_0 : (0 : Int32).toInt = 0)
                            have hM138 : 1 ≤ (I1243 (zq_r X h0 20) 11).toInt := by omega
                            refine lv_aload_n hx hb dX12_fleet_138 rfl (lv_at hl 6 rfl) ?_
                            refine lv_iload hx hb dX12_fleet_139 (lv_at hl 2 rfl) ?_
                            refine lv_iload hx hb dX12_fleet_141 (lv_at hl 1 rfl) ?_
                            refine lv_aload_n hx hb dX12_fleet_143 rfl (lv_at hl 6 rfl) ?_
                            refine lv_iload hx hb dX12_fleet_144 (lv_at hl 2 rfl) ?_
                            refine zq_pcalli (zq_rV (As := [.int j1241]) (rest := [.int x1274, .int j1241, .ref h0]) E hZ hM k_h0 (c_X12_mostFor l X zk (zk) I1243 L h0 k_h0 j1241 ⟨by omega, by omega⟩ (by omega)) zmX12_331 zM_X12_mostFor (hro (1) 4 (by first | decide | omega) (by decide)) ⟨by decide, by decide⟩ rfl hl.1 rfl rfl (Nat.le_of_ble_eq_true rfl) dX12_fleet_146) hS (fun x1328 H locs h1327 hM hS => ?_)
                            obtain ⟨p1329, p1330, p1331⟩ := h1327
                            have := zi_rng x1328
                            refine lv_iconst (v := 0) hx hb dX12_fleet_149 (by decide +kernel) ?_
                            refine zq_callv (zq_rV (As := [.int j1241, .int x1274, .int x1328, .int (0 : Int32)]) (rest := []) E hZ hM k_h0 (c_X12_sails l X zk (zk) I1243 L h0 k_h0 j1241 x1274 x1328 (0 : Int32) ⟨by omega, by omega⟩ ⟨by omega, by omega⟩ ⟨by omega, by omega⟩ (by rw [zl_0]; decide) (by have := zl_0; omega)) zmX12_334 zM_X12_sails (hro (1) 6 (by first | decide | omega) (by decide)) ⟨by decide, by decide⟩ rfl hl.1 rfl rfl (Nat.le_of_ble_eq_true rfl) dX12_fleet_150) hS (fun I1334 H locs h1332 hM hS => ?_)
                            have fr1335 := h1332
                            have := zl_0
                            have hR := zq_fr.call hR fr1335 (zf_sub (by decide +kernel) (fun _ _ q => q.elim))
                            have hWF1336 := zWF.fr F1244 L k_h0 fr1335 (by decide)
                            exact J153 I1334 H locs ls j1304 hM hS hR (⟨by omega, by omega⟩) hWF1336 (lv_sub hl [0, 1, 2, 3, 4, 5, 6, 7, 8] rfl)
                      have J121 : ∀ (H : Heap) (locs : List Loc) (ls : Array Slot), (zq_hm X (zk, zk) I1243 H) → (va_S (zq_A X) s.heap H locs) → (lv_has ls 9 [(8, .int x1274), (7, .int j1241), (6, .int j1242), (5, .int j1044), (4, .int j1045), (3, .int j1046), (0, .ref h0), (1, .int p1), (2, .int p2)]) → W p l e R s m args below meth c H locs 0 0 Q (F0 m 121 ls []) := by
                        intro H locs ls hM hS hl
                        refine lv_iconst (v := 0) hx hb dX12_fleet_121 (by decide +kernel) ?_
                        exact J122 H locs ls (0 : Int32) hM hS (by rw [zl_0]; decide) (lv_sub hl [0, 1, 2, 3, 4, 5, 6, 7, 8] rfl)
                      refine lv_if_eq (tgt := 121) hx hb dX12_fleet_105 (by decide) (fun b1337 => ?_) (fun b1337 => ?_)
                      · have b1337 := zi_eq b1337 (rfl : j1242.toInt = j1242.toInt) (zl_0 : (0 : Int32).toInt = 0)
                        exact J121 H locs ls hM hS (lv_sub hl [0, 1, 2, 3, 4, 5, 6, 7, 8] rfl)
                      · have b1337 := zi_ne b1337 (rfl : j1242.toInt = j1242.toInt) (zl_0 : (0 : Int32).toInt = 0)
                        refine lv_aload_n hx hb dX12_fleet_108 rfl (lv_at hl 6 rfl) ?_
                        refine lv_iload hx hb dX12_fleet_109 (lv_at hl 1 rfl) ?_
                        refine zq_pcalli (zq_rV (As := [.int j1241]) (rest := []) E hZ hM k_h0 (c_X12_isHome l X zk (zk) I1243 L h0 k_h0 j1241 ⟨by omega, by omega⟩ (by omega)) zmX12_342 zM_X12_isHome (hro (1) 2 (by first | decide | omega) (by decide)) ⟨by decide, by decide⟩ rfl hl.1 rfl rfl (Nat.le_of_ble_eq_true rfl) dX12_fleet_111) hS (fun x1339 H locs h1338 hM hS => ?_)
                        have p1340 := h1338
                        refine lv_if_eq (tgt := 121) hx hb dX12_fleet_114 (by decide) (fun b1341 => ?_) (fun b1341 => ?_)
                        · have b1341 := zi_eq b1341 (rfl : x1339.toInt = x1339.toInt) (zl_0 : (0 : Int32).toInt = 0)
                          exact J121 H locs ls hM hS (lv_sub hl [0, 1, 2, 3, 4, 5, 6, 7, 8] rfl)
                        · have b1341 := zi_ne b1341 (rfl : x1339.toInt = x1339.toInt) (zl_0 : (0 : Int32).toInt = 0)
                          refine lv_iconst (v := 1) hx hb dX12_fleet_117 (by decide +kernel) ?_
                          refine lv_goto (tgt := 122) hx hb dX12_fleet_118 (by decide) ?_
                          exact J122 H locs ls (1 : Int32) hM hS (by rw [zl_1]; decide) (lv_sub hl [0, 1, 2, 3, 4, 5, 6, 7, 8] rfl)
                    · have b1300 := zi_nle b1300 (zl_0 : (0 : Int32).toInt = 0) (rfl : x1274.toInt = x1274.toInt)
                      refine lv_goto (tgt := 153) hx hb dX12_fleet_100 (by decide) ?_
                      exact J153 I1243 H locs ls j1242 hM hS hR (⟨by omega, by omega⟩) F1244 (lv_sub hl [2, 0, 1, 3, 4, 5, 6, 7, 8] rfl)
              exact J74 (3 + 1 - (0 : Int32).toInt).toNat I1047 H locs ls (0 : Int32) (1 : Int32) (by omega) hM hS hR (by rw [zl_0]; decide) (by rw [zl_1]; decide) F1048 (lv_sub hl [0, 1, 2, 3, 4, 5, 6, 7] rfl)
        exact J46 (125 + 1 - (0 : Int32).toInt).toNat I119 H locs ls (0 : Int32) (-1 : Int32) (0 : Int32) (by omega) hM hS hR (by rw [zl_0]; decide) (by rw [zl_m1]; decide) (by rw [zl_0]; decide) hWF122 (lv_sub hl [0, 1, 2, 3, 4, 5] rfl)
      · have b116 := zi_eq b116 (rfl : x113.toInt = x113.toInt) (zl_0 : (0 : Int32).toInt = 0)
        refine lv_bipush (v := (-3)) hx hb dX12_fleet_31 (by decide +kernel) ?_
        subst hQ
        exact zq_iret E hr hZ hM hS ⟨hR, (by have := zl_m3; omega)⟩ hlocks dX12_fleet_33
def zw_X12_give : List (Nat × Nat) := [(10, 18), (59, 999), (61, 999)]
set_option maxHeartbeats 8000000 in
set_option maxRecDepth 100000 in
theorem c_X12_give (l : Launch) (X : zq_X) (zk zn : Nat) (I : zq_M) (L : zq_L X)  (h0 : Nat) (k_h0 : zq_k X h0 = 10) (p1 : Int32) (p2 : Int32) (p3 : Int32) (q_0 : zk ≤ 4400 ∧ zn ≤ 4400) (q_1 : zWF X I h0) (q_2 : zk ≤ 2200) : Met l yX12_give (zt_w yX12_give cX12_give 9 (some .int)) (zq_rm (6)) (va_Pc [.ref h0, .int p1, .int p2, .int p3] (zq_W X (zk, zk) I)) (va_Qi (fun (r : Int32) I2 => zq_fr (zf X zw_X12_give (fun _ => False)) I I2 ∧ ((-1) ≤ r.toInt)) (zq_E X (zk, zk)) (zq_A X)) 0 0 (zq_A X) := by
  refine Met.ofW (cc := cX12_give) (maxL := 9) (ret := (some .int)) (by decide) rfl ?_
  intro p e s m args below meth c s₁ B hml hv
  obtain ⟨hargs, hM, hZ⟩ := hv
  have hown : s.vm.findClass RX12 = some m.cls := findClass_of_methodNamed B.named
  have hts := atoms_spec (ws := zt_w yX12_give cX12_give 9 (some .int)) B.pre
  have E : CallFix p m c cX12_give 9 s args (Cond.code yX12_give cX12_give 9 (some .int) :: zt) RX12 := ⟨B.exec, B.bytes, hml, hown, hts⟩
  have hx := B.exec
  have hb := B.bytes
  have hr := B.returns
  have hlocks := B.notSynchronized
  clear B
  have hS : va_S (zq_A X) s.heap s.heap [] := va_S.rf
  have hR : zq_fr (zf X zw_X12_give (fun _ => False)) I I := zq_fr.rf
  have hl := lv_entry ([.ref h0, .int p1, .int p2, .int p3]) (n := 9) (by exact Nat.le_of_ble_eq_true rfl)
  have hg : entryFrame m args 9 = F0 m 0 ((lg_sl ([.ref h0, .int p1, .int p2, .int p3]) ++ List.replicate (9 - (lg_sl ([.ref h0, .int p1, .int p2, .int p3])).length) Slot.unset).toArray) [] := by rw [hargs]; exact lg_entry_eq m ([.ref h0, .int p1, .int p2, .int p3]) 9
  rw [hg]
  clear hg hargs
  generalize (lg_sl ([.ref h0, .int p1, .int p2, .int p3]) ++ List.replicate (9 - (lg_sl ([.ref h0, .int p1, .int p2, .int p3])).length) Slot.unset).toArray = ls at hl ⊢
  have hl : lv_has ls 9 [(0, .ref h0), (1, .int p1), (2, .int p2), (3, .int p3)] := by exact hl
  obtain ⟨R, hRm⟩ : ∃ R : Room, R = (headSpec (zt_w yX12_give cX12_give 9 (some .int)) (zq_rm (6))).room := ⟨_, rfl⟩
  rw [← hRm]
  have hro : ∀ d q : Nat, d + 1 ≤ 6 → q ≤ 45 → zq_rok d q R := fun d q h1 h2 => by rw [hRm]; exact zq_rokI h1 h2
  generalize hQ : MQ below _ args s 0 0 (zq_A X) = Q
  obtain ⟨H, hH⟩ : ∃ H, H = s.heap := ⟨_, rfl⟩
  obtain ⟨locs, hlo⟩ : ∃ x : List Loc, x = [] := ⟨_, rfl⟩
  rw [show W p l e R s m args below meth c s.heap [] 0 0 Q = W p l e R s m args below meth c H locs 0 0 Q by rw [hH, hlo]]
  have hM : zq_hm X (zk, zk) I H := by rw [hH]; exact hM
  have hS : va_S (zq_A X) s.heap H locs := by rw [hH, hlo]; exact hS
  clear hH hlo
  refine lv_aload_n hx hb dX12_give_0 rfl (lv_at hl 0 rfl) ?_
  refine lv_iload_n hx hb dX12_give_1 rfl (lv_at hl 1 rfl) ?_
  refine zq_pcalli (zq_rV (As := [.int p1]) (rest := []) E hZ hM k_h0 (c_X12_isTown l X zk (zk) I L h0 k_h0 p1 (by have := zi_rng p1; omega)) zmX12_299 zM_X12_isTown (hro (0) 2 (by first | decide | omega) (by decide)) ⟨by decide, by decide⟩ rfl hl.1 rfl rfl (Nat.le_of_ble_eq_true rfl) dX12_give_2) hS (fun x102 H locs h101 hM hS => ?_)
  obtain ⟨p103, p104⟩ := h101
  refine lv_if_eq (tgt := 30) hx hb dX12_give_5 (by decide) (fun b105 => ?_) (fun b105 => ?_)
  · have b105 := zi_eq b105 (rfl : x102.toInt = x102.toInt) (zl_0 : (0 : Int32).toInt = 0)
    refine lv_iconst (v := (-1)) hx hb dX12_give_30 (by decide +kernel) ?_
    subst hQ
    exact zq_iret E hr hZ hM hS ⟨hR, (by have := zl_m1; omega)⟩ hlocks dX12_give_31
  · have b105 := zi_ne b105 (rfl : x102.toInt = x102.toInt) (zl_0 : (0 : Int32).toInt = 0)
    refine lv_iload_n hx hb dX12_give_8 rfl (lv_at hl 2 rfl) ?_
    refine lv_i2l hx hb dX12_give_9 rfl ?_
    refine lv_topl (fun y106 ey106 => ?_)
    have ty106 := zi_i2l ey106
    have := zi_rng p2
    refine lv_lconst (v := 1) hx hb dX12_give_10 (by decide +kernel) ?_
    refine W.ldc2 (v := 24) hx hb hown (hts _ (List.mem_cons_of_mem _ zCX12_399)) rfl dX12_give_11 ?_
    refine W.eq (g2 := F0 m 14 ls [.long (24 : Int64), .long (1 : Int64), .long y106]) rfl ?_
    refine zq_pcalli (zq_rS (As := [.long y106, .long (1 : Int64), .long (24 : Int64)]) (rest := []) E hZ hM (c_X12_in l X zk (zk) I L y106 (1 : Int64) (24 : Int64)) zmX12_112 zM_X12_in (hro (0) 6 (by first | decide | omega) (by decide)) hl.1 rfl rfl (Nat.le_of_ble_eq_true rfl) dX12_give_14) hS (fun x108 H locs h107 hM hS => ?_)
    obtain ⟨p109, p110⟩ := h107
    have : (1 : Int64).toInt = 1 := by decide +kernel
    have : (24 : Int64).toInt = 24 := by decide +kernel
    refine lv_if_eq (tgt := 30) hx hb dX12_give_17 (by decide) (fun b111 => ?_) (fun b111 => ?_)
    · have b111 := zi_eq b111 (rfl : x108.toInt = x108.toInt) (zl_0 : (0 : Int32).toInt = 0)
      refine lv_iconst (v := (-1)) hx hb dX12_give_30 (by decide +kernel) ?_
      subst hQ
      exact zq_iret E hr hZ hM hS ⟨hR, (by have := zl_m1; omega)⟩ hlocks dX12_give_31
    · have b111 := zi_ne b111 (rfl : x108.toInt = x108.toInt) (zl_0 : (0 : Int32).toInt = 0)
      refine lv_iload_n hx hb dX12_give_20 rfl (lv_at hl 3 rfl) ?_
      refine lv_i2l hx hb dX12_give_21 rfl ?_
      refine lv_topl (fun y112 ey112 => ?_)
      have ty112 := zi_i2l ey112
      have := zi_rng p3
      refine lv_lconst (v := 0) hx hb dX12_give_22 (by decide +kernel) ?_
      refine lv_lconst (v := 1) hx hb dX12_give_23 (by decide +kernel) ?_
      refine zq_pcalli (zq_rS (As := [.long y112, .long (0 : Int64), .long (1 : Int64)]) (rest := []) E hZ hM (c_X12_in l X zk (zk) I L y112 (0 : Int64) (1 : Int64)) zmX12_112 zM_X12_in (hro (0) 6 (by first | decide | omega) (by decide)) hl.1 rfl rfl (Nat.le_of_ble_eq_true rfl) dX12_give_24) hS (fun x114 H locs h113 hM hS => ?_)
      obtain ⟨p115, p116⟩ := h113
      have : (0 : Int64).toInt = 0 := by decide +kernel
      have : (1 : Int64).toInt = 1 := by decide +kernel
      refine lv_if_ne (tgt := 32) hx hb dX12_give_27 (by decide) (fun b117 => ?_) (fun b117 => ?_)
      · have b117 := zi_ne b117 (rfl : x114.toInt = x114.toInt) (zl_0 : (0 : Int32).toInt = 0)
        refine lv_aload_n hx hb dX12_give_32 rfl (lv_at hl 0 rfl) ?_
        refine zq_callv (zq_rV (As := []) (rest := []) E hZ hM k_h0 (c_X12_keeps l X zk (zk) I L h0 k_h0 (by omega) (by omega)) zmX12_388 zM_X12_keeps (hro (0) 2 (by first | decide | omega) (by decide)) ⟨by decide, by decide⟩ rfl hl.1 rfl rfl (Nat.le_of_ble_eq_true rfl) dX12_give_33) hS (fun I120 H locs h118 hM hS => ?_)
        obtain ⟨fr121, p122⟩ := h118
        have hR := zq_fr.call hR fr121 (zf_sub (by decide +kernel) (fun _ _ q => q.elim))
        have hWF123 := zWF.fr q_1 L k_h0 fr121 (by decide)
        refine lv_iconst (v := 0) hx hb dX12_give_36 (by decide +kernel) ?_
        refine lv_istore (lv' := [(4, .int (0 : Int32)), (0, .ref h0), (1, .int p1), (2, .int p2), (3, .int p3)]) hx hb dX12_give_37 hl (by decide) rfl (fun ls hl => ?_)
        refine lv_iconst (v := (-1)) hx hb dX12_give_39 (by decide +kernel) ?_
        refine lv_istore (lv' := [(5, .int (-1 : Int32)), (4, .int (0 : Int32)), (0, .ref h0), (1, .int p1), (2, .int p2), (3, .int p3)]) hx hb dX12_give_40 hl (by decide) rfl (fun ls hl => ?_)
        refine lv_aload_n hx hb dX12_give_42 rfl (lv_at hl 2 rfl) ?_
        refine lv_iload_n hx hb dX12_give_43 rfl (lv_at hl 3 rfl) ?_
        refine lv_iconst (v := 2) hx hb dX12_give_44 (by decide +kernel) ?_
        refine W.eq (g2 := F0 m 45 ls [.int (2 : Int32), .int p1, .ref h0]) rfl ?_
        refine zq_pcalli (zq_rV (As := [.int p1, .int (2 : Int32)]) (rest := []) E hZ hM k_h0 (c_X12_townOf l X zk (zk) I120 L h0 k_h0 p1 (2 : Int32) ⟨by omega, by omega⟩ (by rw [zl_2]; decide) (by have := zl_2; omega)) zmX12_308 zM_X12_townOf (hro (0) 3 (by first | decide | omega) (by decide)) ⟨by decide, by decide⟩ rfl hl.1 rfl rfl (Nat.le_of_ble_eq_true rfl) dX12_give_45) hS (fun x125 H locs h124 hM hS => ?_)
        obtain ⟨p126, p127, p128, p129⟩ := h124
        have := zl_2
        refine lv_istore (lv' := [(6, .int x125), (5, .int (-1 : Int32)), (4, .int (0 : Int32)), (0, .ref h0), (1, .int p1), (2, .int p2), (3, .int p3)]) hx hb dX12_give_48 hl (by decide) rfl (fun ls hl => ?_)
        have hA9 : I120 (zq_r X h0 20) (27 + 5 * p1.toNatClampNeg) = x125 := by have h9 := p129; rw [show (2 : Int32).toNatClampNeg = 2 from by decide +kernel] at h9; rw [show 27 + 5 * p1.toNatClampNeg = 25 + 5 * p1.toNatClampNeg + 2 by omega, ← h9]
        have hK9 : I120 (zq_r X h0 26) (17 + 5 * p1.toNatClampNeg) = x125 := by rw [p122 _ (by have := zq_cl (i := p1) (by omega); omega), show 10 + (17 + 5 * p1.toNatClampNeg) = 27 + 5 * p1.toNatClampNeg by omega, ← fr121 _ _ (zf_n (zq_lk L.1 k_h0 rfl (by decide) : zq_k X (zq_r X h0 20) = 59) rfl)]; exact hA9
        refine lv_iconst (v := 0) hx hb dX12_give_50 (by decide +kernel) ?_
        refine lv_istore (lv' := [(7, .int (0 : Int32)), (6, .int x125), (5, .int (-1 : Int32)), (4, .int (0 : Int32)), (0, .ref h0), (1, .int p1), (2, .int p2), (3, .int p3)]) hx hb dX12_give_51 hl (by decide) rfl (fun ls hl => ?_)
        have J53 : ∀ (n233 : Nat) (I229 : zq_M) (H : Heap) (locs : List Loc) (ls : Array Slot) (j226 : Int32) (j227 : Int32) (j228 : Int32), 445501 + 1 - j226.toInt ≤ ((n233 : Nat) : Int) → (zq_hm X (zk, zk) I229 H) → (va_S (zq_A X) s.heap H locs) → (zq_fr (zf X zw_X12_give (fun _ => False)) I I229) → (0 ≤ j226.toInt ∧ j226.toInt ≤ 445501) → ((-1) ≤ j227.toInt) → (0 ≤ j228.toInt ∧ j228.toInt ≤ 445500) → (zWF X I229 h0) → (I229 (zq_r X h0 20) (27 + 5 * p1.toNatClampNeg) = x125) → (I229 (zq_r X h0 26) (17 + 5 * p1.toNatClampNeg) = x125) → (lv_has ls 9 [(7, .int j226), (6, .int x125), (5, .int j227), (4, .int j228), (0, .ref h0), (1, .int p1), (2, .int p2), (3, .int p3)]) → W p l e R s m args below meth c H locs 0 0 Q (F0 m 53 ls []) := by
          intro n233
          induction n233 with
          | zero => intro I229 H locs ls j226 j227 j228 mu234 hM hS hR gj226 gj227 gj228 F230 F231 F232 hl; exfalso; have := zi_rng j226; omega
          | succ n233 ih53 =>
            intro I229 H locs ls j226 j227 j228 mu234 hM hS hR gj226 gj227 gj228 F230 F231 F232 hl
            have := zi_rng j227
            refine lv_iload hx hb dX12_give_53 (lv_at hl 0 rfl) ?_
            refine lv_iload hx hb dX12_give_55 (lv_at hl 1 rfl) ?_
            refine lv_icmp_gt (tgt := 98) hx hb dX12_give_57 (by decide) (fun b235 => ?_) (fun b235 => ?_)
            · have b235 := zi_lt b235 (rfl : x125.toInt = x125.toInt) (rfl : j226.toInt = j226.toInt)
              refine lv_iload_n hx hb dX12_give_98 rfl (lv_at hl 7 rfl) ?_
              refine lv_if_ne (tgt := 107) hx hb dX12_give_99 (by decide) (fun b236 => ?_) (fun b236 => ?_)
              · have b236 := zi_ne b236 (rfl : p3.toInt = p3.toInt) (zl_0 : (0 : Int32).toInt = 0)
                refine lv_iload hx hb dX12_give_107 (lv_at hl 3 rfl) ?_
                subst hQ
                exact zq_iret E hr hZ hM hS ⟨hR, (by omega)⟩ hlocks dX12_give_109
              · have b236 := zi_eq b236 (rfl : p3.toInt = p3.toInt) (zl_0 : (0 : Int32).toInt = 0)
                refine lv_iload hx hb dX12_give_102 (lv_at hl 2 rfl) ?_
                refine lv_goto (tgt := 109) hx hb dX12_give_104 (by decide) ?_
                subst hQ
                exact zq_iret E hr hZ hM hS ⟨hR, (by have := zi_rng j227; omega)⟩ hlocks dX12_give_109
            · have b235 := zi_nlt b235 (rfl : x125.toInt = x125.toInt) (rfl : j226.toInt = j226.toInt)
              refine lv_aload_n hx hb dX12_give_60 rfl (lv_at hl 4 rfl) ?_
              refine lv_iload_n hx hb dX12_give_61 rfl (lv_at hl 5 rfl) ?_
              refine lv_iload hx hb dX12_give_62 (lv_at hl 0 rfl) ?_
              refine zq_callv (zq_rV (As := [.int p1, .int j226]) (rest := []) E hZ hM k_h0 (c_X12_teaches l X zk (zk) I229 L h0 k_h0 p1 j226 ⟨by omega, by omega⟩ ⟨by omega, by omega⟩ (by omega) (by rw [F231]; omega)) zmX12_372 zM_X12_teaches (hro (1) 3 (by first | decide | omega) (by decide)) ⟨by decide, by decide⟩ rfl hl.1 rfl rfl (Nat.le_of_ble_eq_true rfl) dX12_give_64) hS (fun I239 H locs h237 hM hS => ?_)
              have fr240 := h237
              have hR := zq_fr.call hR fr240 (zf_sub (by decide +kernel) (fun _ _ q => q.elim))
              have hWF241 := zWF.fr F230 L k_h0 fr240 (by decide)
              have hK242 := (zq_fr.kp fr240 (zf_n (zq_lk L.1 k_h0 rfl (by decide) : zq_k X (zq_r X h0 26) = 61) rfl) F232)
              refine lv_aload_n hx hb dX12_give_67 rfl (lv_at hl 4 rfl) ?_
              refine lv_iload_n hx hb dX12_give_68 rfl (lv_at hl 6 rfl) ?_
              refine zq_calli (zq_rV (As := [.int p2]) (rest := []) E hZ hM k_h0 (c_X12_moneyIn l X zk (zk) I239 L h0 k_h0 p2 ⟨by omega, by omega⟩ (by omega) (hWF241) (by omega)) zmX12_401 zM_X12_moneyIn (hro (5) 3 (by first | decide | omega) (by decide)) ⟨by decide, by decide⟩ rfl hl.1 rfl rfl (Nat.le_of_ble_eq_true rfl) dX12_give_69) hS (fun x244 I245 H locs h243 hM hS => ?_)
              obtain ⟨fr246, p247⟩ := h243
              have hR := zq_fr.call hR fr246 (zf_sub (by decide +kernel) (fun _ _ q => q.elim))
              have hWF248 := zWF.fr hWF241 L k_h0 fr246 (by decide)
              have hK249 := (zq_fr.kp fr246 (zf_n (zq_lk L.1 k_h0 rfl (by decide) : zq_k X (zq_r X h0 26) = 61) rfl) hK242)
              have hA250 : I245 (zq_r X h0 20) (27 + 5 * p1.toNatClampNeg) = x125 := by rw [show 27 + 5 * p1.toNatClampNeg = 10 + (17 + 5 * p1.toNatClampNeg) by omega, p247 _ (by have := zq_cl (i := p1) (by omega); omega)]; exact hK242
              refine lv_istore (lv' := [(8, .int x244), (7, .int j226), (6, .int x125), (5, .int j227), (4, .int j228), (0, .ref h0), (1, .int p1), (2, .int p2), (3, .int p3)]) hx hb dX12_give_72 hl (by decide) rfl (fun ls hl => ?_)
              refine lv_iload hx hb dX12_give_74 (lv_at hl 0 rfl) ?_
              refine W.eq (g2 := F0 m 76 ls [.int x244]) rfl ?_
              refine lv_iload hx hb dX12_give_76 (lv_at hl 3 rfl) ?_
              have J92 : ∀ (ls : Array Slot) (j251 : Int32) (j252 : Int32), ((-1) ≤ j251.toInt) → (0 ≤ j252.toInt ∧ j252.toInt ≤ 445500) → (lv_has ls 9 [(5, .int j251), (4, .int j252), (8, .int x244), (7, .int j226), (6, .int x125), (0, .ref h0), (1, .int p1), (2, .int p2), (3, .int p3)]) → W p l e R s m args below meth c H locs 0 0 Q (F0 m 92 ls []) := by
                intro ls j251 j252 gj251 gj252 hl
                have := zi_rng j251
                obtain ⟨x254, ex254⟩ : ∃ y : Int32, y = j226 + 1 := ⟨_, rfl⟩
                have tx254 := zi_add ex254 (rfl : j226.toInt = j226.toInt) zl_1 ⟨by omega, by omega⟩
                refine lv_iinc (v := x254) (lv' := [(7, .int x254), (5, .int j251), (4, .int j252), (8, .int x244), (6, .int x125), (0, .ref h0), (1, .int p1), (2, .int p2), (3, .int p3)]) hx hb dX12_give_92 hl (k := 3) rfl (by rw [ex254]; rfl) (by decide) rfl (fun ls hl => ?_)
                refine lv_goto (tgt := 53) hx hb dX12_give_95 (by decide) ?_
                exact ih53 I245 H locs ls x254 j251 j252 (by omega) hM hS hR (⟨by omega, by omega⟩) (by have := zi_rng j251; omega) (⟨by omega, by omega⟩) hWF248 hA250 hK249 (lv_sub hl [0, 4, 1, 2, 5, 6, 7, 8] rfl)
              refine lv_icmp_gt (tgt := 84) hx hb dX12_give_78 (by decide) (fun b255 => ?_) (fun b255 => ?_)
              · have b255 := zi_lt b255 (rfl : j227.toInt = j227.toInt) (rfl : x244.toInt = x244.toInt)
                refine lv_iload hx hb dX12_give_84 (lv_at hl 1 rfl) ?_
                refine lv_istore (lv' := [(4, .int j226), (8, .int x244), (7, .int j226), (6, .int x125), (5, .int j227), (0, .ref h0), (1, .int p1), (2, .int p2), (3, .int p3)]) hx hb dX12_give_86 hl (by decide) rfl (fun ls hl => ?_)
                refine lv_iload hx hb dX12_give_88 (lv_at hl 1 rfl) ?_
                refine lv_istore (lv' := [(5, .int x244), (4, .int j226), (8, .int x244), (7, .int j226), (6, .int x125), (0, .ref h0), (1, .int p1), (2, .int p2), (3, .int p3)]) hx hb dX12_give_90 hl (by decide) rfl (fun ls hl => ?_)
                exact J92 ls x244 j226 (by have := zi_rng x244; omega) (⟨by omega, by omega⟩) (lv_sub hl [0, 1, 2, 3, 4, 5, 6, 7, 8] rfl)
              · have b255 := zi_nlt b255 (rfl : j227.toInt = j227.toInt) (rfl : x244.toInt = x244.toInt)
                refine lv_goto (tgt := 92) hx hb dX12_give_81 (by decide) ?_
                exact J92 ls j227 j228 (by have := zi_rng j227; omega) (⟨by omega, by omega⟩) (lv_sub hl [3, 4, 0, 1, 2, 5, 6, 7, 8] rfl)
        exact J53 (445501 + 1 - (0 : Int32).toInt).toNat I120 H locs ls (0 : Int32) (-1 : Int32) (0 : Int32) (by omega) hM hS hR (by rw [zl_0]; decide) (by rw [zl_m1]; decide) (by rw [zl_0]; decide) hWF123 hA9 hK9 (lv_sub hl [0, 1, 2, 3, 4, 5, 6, 7] rfl)
      · have b117 := zi_eq b117 (rfl : x114.toInt = x114.toInt) (zl_0 : (0 : Int32).toInt = 0)
        refine lv_iconst (v := (-1)) hx hb dX12_give_30 (by decide +kernel) ?_
        subst hQ
        exact zq_iret E hr hZ hM hS ⟨hR, (by have := zl_m1; omega)⟩ hlocks dX12_give_31
def zw_X12_fillsFits : List (Nat × Nat) := [(10, 18), (10, 21), (59, 999), (61, 999), (62, 999), (63, 999)]
set_option maxHeartbeats 8000000 in
set_option maxRecDepth 100000 in
theorem c_X12_fillsFits (l : Launch) (X : zq_X) (zk zn : Nat) (I : zq_M) (L : zq_L X)  (h0 : Nat) (k_h0 : zq_k X h0 = 10) (q_0 : zk ≤ 4400 ∧ zn ≤ 4400) (q_1 : zWF X I h0) (q_2 : zk ≤ 2200) : Met l yX12_fillsFits (zt_w yX12_fillsFits cX12_fillsFits 5 none) (zq_rm (5)) (va_Pc [.ref h0] (zq_W X (zk, zk) I)) (va_Qv (fun I2 => zq_fr (zf X zw_X12_fillsFits (fun _ => False)) I I2) (zq_E X (zk, zk)) (zq_A X)) 0 0 (zq_A X) := by
  refine Met.ofW (cc := cX12_fillsFits) (maxL := 5) (ret := none) (by decide) rfl ?_
  intro p e s m args below meth c s₁ B hml hv
  obtain ⟨hargs, hM, hZ⟩ := hv
  have hown : s.vm.findClass RX12 = some m.cls := findClass_of_methodNamed B.named
  have hts := atoms_spec (ws := zt_w yX12_fillsFits cX12_fillsFits 5 none) B.pre
  have E : CallFix p m c cX12_fillsFits 5 s args (Cond.code yX12_fillsFits cX12_fillsFits 5 none :: zt) RX12 := ⟨B.exec, B.bytes, hml, hown, hts⟩
  have hx := B.exec
  have hb := B.bytes
  have hr := B.returns
  have hlocks := B.notSynchronized
  clear B
  have hS : va_S (zq_A X) s.heap s.heap [] := va_S.rf
  have hR : zq_fr (zf X zw_X12_fillsFits (fun _ => False)) I I := zq_fr.rf
  have hl := lv_entry ([.ref h0]) (n := 5) (by exact Nat.le_of_ble_eq_true rfl)
  have hg : entryFrame m args 5 = F0 m 0 ((lg_sl ([.ref h0]) ++ List.replicate (5 - (lg_sl ([.ref h0])).length) Slot.unset).toArray) [] := by rw [hargs]; exact lg_entry_eq m ([.ref h0]) 5
  rw [hg]
  clear hg hargs
  generalize (lg_sl ([.ref h0]) ++ List.replicate (5 - (lg_sl ([.ref h0])).length) Slot.unset).toArray = ls at hl ⊢
  have hl : lv_has ls 5 [(0, .ref h0)] := by exact hl
  obtain ⟨R, hRm⟩ : ∃ R : Room, R = (headSpec (zt_w yX12_fillsFits cX12_fillsFits 5 none) (zq_rm (5))).room := ⟨_, rfl⟩
  rw [← hRm]
  have hro : ∀ d q : Nat, d + 1 ≤ 5 → q ≤ 45 → zq_rok d q R := fun d q h1 h2 => by rw [hRm]; exact zq_rokI h1 h2
  generalize hQ : MQ below _ args s 0 0 (zq_A X) = Q
  obtain ⟨H, hH⟩ : ∃ H, H = s.heap := ⟨_, rfl⟩
  obtain ⟨locs, hlo⟩ : ∃ x : List Loc, x = [] := ⟨_, rfl⟩
  rw [show W p l e R s m args below meth c s.heap [] 0 0 Q = W p l e R s m args below meth c H locs 0 0 Q by rw [hH, hlo]]
  have hM : zq_hm X (zk, zk) I H := by rw [hH]; exact hM
  have hS : va_S (zq_A X) s.heap H locs := by rw [hH, hlo]; exact hS
  clear hH hlo
  refine lv_aload_n hx hb dX12_fillsFits_0 rfl (lv_at hl 0 rfl) ?_
  refine zq_gn E hM k_h0 (zFX12_42 E hZ) (Or.inl ⟨by decide, by decide, by decide, rfl⟩) dX12_fillsFits_1 (fun x101 ex101 gx101 => ?_)
  replace gx101 : (-1) ≤ x101.toInt ∧ x101.toInt ≤ 5 := gx101
  refine lv_istore_n (lv' := [(1, .int x101), (0, .ref h0)]) hx hb dX12_fillsFits_4 rfl hl (by decide) rfl (fun ls hl => ?_)
  refine lv_aload_n hx hb dX12_fillsFits_5 rfl (lv_at hl 1 rfl) ?_
  refine zq_callv (zq_rV (As := []) (rest := []) E hZ hM k_h0 (c_X12_keeps l X zk (zk) I L h0 k_h0 (by omega) (by omega)) zmX12_388 zM_X12_keeps (hro (0) 2 (by first | decide | omega) (by decide)) ⟨by decide, by decide⟩ rfl hl.1 rfl rfl (Nat.le_of_ble_eq_true rfl) dX12_fillsFits_6) hS (fun I104 H locs h102 hM hS => ?_)
  obtain ⟨fr105, p106⟩ := h102
  have hR := zq_fr.call hR fr105 (zf_sub (by decide +kernel) (fun _ _ q => q.elim))
  have hWF107 := zWF.fr q_1 L k_h0 fr105 (by decide)
  refine lv_iconst (v := (-1)) hx hb dX12_fillsFits_9 (by decide +kernel) ?_
  refine lv_istore_n (lv' := [(2, .int (-1 : Int32)), (1, .int x101), (0, .ref h0)]) hx hb dX12_fillsFits_10 rfl hl (by decide) rfl (fun ls hl => ?_)
  have J11 : ∀ (n2179 : Nat) (I2176 : zq_M) (H : Heap) (locs : List Loc) (ls : Array Slot) (zv2178 : Nat) (j2175 : Int32), 6 + 1 - j2175.toInt ≤ ((n2179 : Nat) : Int) → (zq_hm X (zk, zv2178) I2176 H) → (va_S (zq_A X) s.heap H locs) → (zq_fr (zf X zw_X12_fillsFits (fun _ => False)) I I2176) → ((-1) ≤ j2175.toInt ∧ j2175.toInt ≤ 6) → (zWF X I2176 h0) → (((zv2178 : Nat) : Int) ≤ ((zk : Nat) : Int) + 244 * (j2175.toInt + 1)) → (lv_has ls 5 [(2, .int j2175), (1, .int x101), (0, .ref h0)]) → W p l e R s m args below meth c H locs 0 0 Q (F0 m 11 ls []) := by
    intro n2179
    induction n2179 with
    | zero => intro I2176 H locs ls zv2178 j2175 mu2180 hM hS hR gj2175 F2177 hz9 hl; exfalso; have := zi_rng j2175; omega
    | succ n2179 ih11 =>
      intro I2176 H locs ls zv2178 j2175 mu2180 hM hS hR gj2175 F2177 hz9 hl
      refine lv_iload_n hx hb dX12_fillsFits_11 rfl (lv_at hl 0 rfl) ?_
      refine lv_aload_n hx hb dX12_fillsFits_12 rfl (lv_at hl 2 rfl) ?_
      refine zq_gn E hM k_h0 (zFX12_254 E hZ) (Or.inl ⟨by decide, by decide, by decide, rfl⟩) dX12_fillsFits_13 (fun x2181 ex2181 gx2181 => ?_)
      replace gx2181 : 0 ≤ x2181.toInt ∧ x2181.toInt ≤ 6 := gx2181
      refine lv_icmp_ge (tgt := 154) hx hb dX12_fillsFits_16 (by decide) (fun b2182 => ?_) (fun b2182 => ?_)
      · have b2182 := zi_le b2182 (rfl : x2181.toInt = x2181.toInt) (rfl : j2175.toInt = j2175.toInt)
        refine lv_aload_n hx hb dX12_fillsFits_154 rfl (lv_at hl 2 rfl) ?_
        refine lv_iload_n hx hb dX12_fillsFits_155 rfl (lv_at hl 1 rfl) ?_
        refine zq_pn E hM hS k_h0 (zGX12_42 E hZ) ⟨by decide, by decide, by decide, rfl⟩ (show (-1) ≤ x101.toInt ∧ x101.toInt ≤ 5 from ⟨by omega, by omega⟩) dX12_fillsFits_156 (fun I2183 H locs eI2183 hM hS => ?_)
        have hR := zq_fr.putE hR eI2183 (zf_i k_h0 rfl rfl)
        have hWF2184 := zWF.put F2177 L k_h0 eI2183 k_h0 (by decide)
        refine lv_aload_n hx hb dX12_fillsFits_159 rfl (lv_at hl 2 rfl) ?_
        refine zq_callv (zq_rV (As := []) (rest := []) E hZ hM k_h0 (c_X12_laysBack l X zk (zv2178) I2183 L h0 k_h0 (by omega)) zmX12_391 zM_X12_laysBack (hro (0) 2 (by first | decide | omega) (by decide)) ⟨by decide, by decide⟩ rfl hl.1 rfl rfl (Nat.le_of_ble_eq_true rfl) dX12_fillsFits_160) hS (fun I2187 H locs h2185 hM hS => ?_)
        obtain ⟨fr2188, p2189⟩ := h2185
        have hR := zq_fr.call hR fr2188 (zf_sub (by decide +kernel) (fun _ _ q => q.elim))
        have hWF2190 := zWF.fr hWF2184 L k_h0 fr2188 (by decide)
        subst hQ
        exact zq_vret E hr hZ hM hS hR hlocks dX12_fillsFits_163
      · have b2182 := zi_nle b2182 (rfl : x2181.toInt = x2181.toInt) (rfl : j2175.toInt = j2175.toInt)
        refine lv_aload_n hx hb dX12_fillsFits_19 rfl (lv_at hl 2 rfl) ?_
        refine lv_iload_n hx hb dX12_fillsFits_20 rfl (lv_at hl 0 rfl) ?_
        refine zq_pn E hM hS k_h0 (zGX12_42 E hZ) ⟨by decide, by decide, by decide, rfl⟩ (show (-1) ≤ j2175.toInt ∧ j2175.toInt ≤ 5 from ⟨by omega, by omega⟩) dX12_fillsFits_21 (fun I2191 H locs eI2191 hM hS => ?_)
        have hR := zq_fr.putE hR eI2191 (zf_i k_h0 rfl rfl)
        have hWF2192 := zWF.put F2177 L k_h0 eI2191 k_h0 (by decide)
        refine lv_aload_n hx hb dX12_fillsFits_24 rfl (lv_at hl 2 rfl) ?_
        refine zq_callv (zq_rV (As := []) (rest := []) E hZ hM k_h0 (c_X12_begins l X zk (zv2178) I2191 L h0 k_h0 (by omega)) zmX12_260 zM_X12_begins (hro (0) 3 (by first | decide | omega) (by decide)) ⟨by decide, by decide⟩ rfl hl.1 rfl rfl (Nat.le_of_ble_eq_true rfl) dX12_fillsFits_25) hS (fun I2195 H locs h2193 hM hS => ?_)
        have fr2196 := h2193
        have hR := zq_fr.call hR fr2196 (zf_sub (by decide +kernel) (fun _ _ q => q.elim))
        have hWF2197 := zWF.fr hWF2192 L k_h0 fr2196 (by decide)
        refine lv_iconst (v := 0) hx hb dX12_fillsFits_28 (by decide +kernel) ?_
        refine lv_istore_n (lv' := [(3, .int (0 : Int32)), (2, .int j2175), (1, .int x101), (0, .ref h0)]) hx hb dX12_fillsFits_29 rfl hl (by decide) rfl (fun ls hl => ?_)
        have J30 : ∀ (n2547 : Nat) (I2544 : zq_M) (H : Heap) (locs : List Loc) (ls : Array Slot) (zv2546 : Nat) (j2543 : Int32), 61 + 1 - j2543.toInt ≤ ((n2547 : Nat) : Int) → (zq_hm X (zk, zv2546) I2544 H) → (va_S (zq_A X) s.heap H locs) → (zq_fr (zf X zw_X12_fillsFits (fun _ => False)) I I2544) → (0 ≤ j2543.toInt ∧ j2543.toInt ≤ 61) → (zWF X I2544 h0) → (((zv2546 : Nat) : Int) ≤ ((zk : Nat) : Int) + 244 * (j2175.toInt + 1) + 4 * j2543.toInt) → (lv_has ls 5 [(3, .int j2543), (2, .int j2175), (1, .int x101), (0, .ref h0)]) → W p l e R s m args below meth c H locs 0 0 Q (F0 m 30 ls []) := by
          intro n2547
          induction n2547 with
          | zero => intro I2544 H locs ls zv2546 j2543 mu2548 hM hS hR gj2543 F2545 hz9 hl; exfalso; have := zi_rng j2543; omega
          | succ n2547 ih30 =>
            intro I2544 H locs ls zv2546 j2543 mu2548 hM hS hR gj2543 F2545 hz9 hl
            refine lv_iload_n hx hb dX12_fillsFits_30 rfl (lv_at hl 0 rfl) ?_
            refine lv_bipush (v := 60) hx hb dX12_fillsFits_31 (by decide +kernel) ?_
            refine lv_icmp_gt (tgt := 66) hx hb dX12_fillsFits_33 (by decide) (fun b2549 => ?_) (fun b2549 => ?_)
            · have b2549 := zi_lt b2549 (zl_60 : (60 : Int32).toInt = 60) (rfl : j2543.toInt = j2543.toInt)
              refine lv_iconst (v := 1) hx hb dX12_fillsFits_66 (by decide +kernel) ?_
              refine lv_istore_n (lv' := [(3, .int (1 : Int32)), (2, .int j2175), (1, .int x101), (0, .ref h0)]) hx hb dX12_fillsFits_67 rfl hl (by decide) rfl (fun ls hl => ?_)
              refine lv_iconst (v := 0) hx hb dX12_fillsFits_68 (by decide +kernel) ?_
              refine lv_istore (lv' := [(4, .int (0 : Int32)), (3, .int (1 : Int32)), (2, .int j2175), (1, .int x101), (0, .ref h0)]) hx hb dX12_fillsFits_69 hl (by decide) rfl (fun ls hl => ?_)
              have J71 : ∀ (n2660 : Nat) (H : Heap) (locs : List Loc) (ls : Array Slot) (j2658 : Int32) (j2659 : Int32), 10 + 1 - j2658.toInt ≤ ((n2660 : Nat) : Int) → (zq_hm X (zk, zv2546) I2544 H) → (va_S (zq_A X) s.heap H locs) → (0 ≤ j2658.toInt ∧ j2658.toInt ≤ 10) → (0 ≤ j2659.toInt ∧ j2659.toInt ≤ 1) → (lv_has ls 5 [(4, .int j2658), (3, .int j2659), (2, .int j2175), (1, .int x101), (0, .ref h0)]) → W p l e R s m args below meth c H locs 0 0 Q (F0 m 71 ls []) := by
                intro n2660
                induction n2660 with
                | zero => intro H locs ls j2658 j2659 mu2661 hM hS gj2658 gj2659 hl; exfalso; have := zi_rng j2658; omega
                | succ n2660 ih71 =>
                  intro H locs ls j2658 j2659 mu2661 hM hS gj2658 gj2659 hl
                  refine lv_iload hx hb dX12_fillsFits_71 (lv_at hl 0 rfl) ?_
                  refine lv_aload_n hx hb dX12_fillsFits_73 rfl (lv_at hl 4 rfl) ?_
                  refine zq_getr E hM k_h0 (zFX12_39 E hZ) ⟨by decide, by decide, by decide, rfl⟩ dX12_fillsFits_74 ?_
                  have k2662 : zq_k X (zq_r X h0 20) = 59 := zq_lk L.1 k_h0 rfl (by decide)
                  refine lv_bipush (v := 105) hx hb dX12_fillsFits_77 (by decide +kernel) ?_
                  refine zq_ian (n := 106) (j := 105) E hZ hM k2662 ⟨by decide, rfl⟩ (by rw [zl_105]; decide) (by decide +kernel) dX12_fillsFits_79 (fun x2663 ex2663 gx2663 => ?_)
                  replace gx2663 : 0 ≤ x2663.toInt ∧ x2663.toInt ≤ 10 := gx2663
                  refine lv_icmp_ge (tgt := 139) hx hb dX12_fillsFits_80 (by decide) (fun b2664 => ?_) (fun b2664 => ?_)
                  · have b2664 := zi_le b2664 (rfl : x2663.toInt = x2663.toInt) (rfl : j2658.toInt = j2658.toInt)
                    refine lv_aload_n hx hb dX12_fillsFits_139 rfl (lv_at hl 4 rfl) ?_
                    refine zq_getr E hM k_h0 (zFX12_55 E hZ) ⟨by decide, by decide, by decide, rfl⟩ dX12_fillsFits_140 ?_
                    have k2665 : zq_k X (zq_r X h0 27) = 62 := zq_lk L.1 k_h0 rfl (by decide)
                    refine lv_iload_n hx hb dX12_fillsFits_143 rfl (lv_at hl 2 rfl) ?_
                    refine lv_iconst (v := 1) hx hb dX12_fillsFits_144 (by decide +kernel) ?_
                    refine lv_iadd hx hb dX12_fillsFits_145 ?_
                    refine lv_topi (fun x2666 ex2666 => ?_)
                    have tx2666 := zi_add ex2666 (rfl : j2175.toInt = j2175.toInt) (zl_1 : (1 : Int32).toInt = 1) ⟨by omega, by omega⟩
                    refine lv_iload_n hx hb dX12_fillsFits_146 rfl (lv_at hl 1 rfl) ?_
                    refine zq_zsn (n := 7) (j := (x2666.toNatClampNeg)) E hZ hM hS k2665 ⟨by decide, rfl⟩ ⟨by omega, by omega⟩ rfl (show 0 ≤ j2659.toInt ∧ j2659.toInt ≤ 1 from ⟨by omega, by omega⟩) rfl dX12_fillsFits_147 (fun I2667 H locs eI2667 hM hS => ?_)
                    have hR := zq_fr.putE hR eI2667 (zf_ia k2665 (by decide) rfl)
                    have hWF2668 := zWF.put F2545 L k_h0 eI2667 k2665 (by decide)
                    obtain ⟨x2669, ex2669⟩ : ∃ y : Int32, y = j2175 + 1 := ⟨_, rfl⟩
                    have tx2669 := zi_add ex2669 (rfl : j2175.toInt = j2175.toInt) zl_1 ⟨by omega, by omega⟩
                    refine lv_iinc (v := x2669) (lv' := [(2, .int x2669), (4, .int j2658), (3, .int j2659), (1, .int x101), (0, .ref h0)]) hx hb dX12_fillsFits_148 hl (k := 2) rfl (by rw [ex2669]; rfl) (by decide) rfl (fun ls hl => ?_)
                    refine lv_goto (tgt := 11) hx hb dX12_fillsFits_151 (by decide) ?_
                    exact ih11 I2667 H locs ls (zv2546) x2669 (by omega) hM hS hR (⟨by omega, by omega⟩) hWF2668 (by have := zl_0; have := zl_m1; omega) (lv_sub hl [0, 3, 4] rfl)
                  · have b2664 := zi_nle b2664 (rfl : x2663.toInt = x2663.toInt) (rfl : j2658.toInt = j2658.toInt)
                    refine lv_iload_n hx hb dX12_fillsFits_83 rfl (lv_at hl 1 rfl) ?_
                    have J132 : ∀ (H : Heap) (locs : List Loc) (ls : Array Slot) (j2686 : Int32), (zq_hm X (zk, zv2546) I2544 H) → (va_S (zq_A X) s.heap H locs) → (0 ≤ j2686.toInt ∧ j2686.toInt ≤ 1) → (lv_has ls 5 [(4, .int j2658), (3, .int j2659), (2, .int j2175), (1, .int x101), (0, .ref h0)]) → W p l e R s m args below meth c H locs 0 0 Q (F0 m 132 ls [.int j2686]) := by
                      intro H locs ls j2686 hM hS gj2686 hl
                      refine lv_istore_n (lv' := [(3, .int j2686), (4, .int j2658), (2, .int j2175), (1, .int x101), (0, .ref h0)]) hx hb dX12_fillsFits_132 rfl hl (by decide) rfl (fun ls hl => ?_)
                      obtain ⟨x2688, ex2688⟩ : ∃ y : Int32, y = j2658 + 1 := ⟨_, rfl⟩
                      have tx2688 := zi_add ex2688 (rfl : j2658.toInt = j2658.toInt) zl_1 ⟨by omega, by omega⟩
                      refine lv_iinc (v := x2688) (lv' := [(4, .int x2688), (3, .int j2686), (2, .int j2175), (1, .int x101), (0, .ref h0)]) hx hb dX12_fillsFits_133 hl (k := 1) rfl (by rw [ex2688]; rfl) (by decide) rfl (fun ls hl => ?_)
                      refine lv_goto (tgt := 71) hx hb dX12_fillsFits_136 (by decide) ?_
                      exact ih71 H locs ls x2688 j2686 (by omega) hM hS (⟨by omega, by omega⟩) (⟨by omega, by omega⟩) (lv_sub hl [0, 1, 2, 3, 4] rfl)
                    have J131 : ∀ (H : Heap) (locs : List Loc) (ls : Array Slot), (zq_hm X (zk, zv2546) I2544 H) → (va_S (zq_A X) s.heap H locs) → (lv_has ls 5 [(4, .int j2658), (3, .int j2659), (2, .int j2175), (1, .int x101), (0, .ref h0)]) → W p l e R s m args below meth c H locs 0 0 Q (F0 m 131 ls []) := by
                      intro H locs ls hM hS hl
                      refine lv_iconst (v := 0) hx hb dX12_fillsFits_131 (by decide +kernel) ?_
                      exact J132 H locs ls (0 : Int32) hM hS (by rw [zl_0]; decide) (lv_sub hl [0, 1, 2, 3, 4] rfl)
                    refine lv_if_eq (tgt := 131) hx hb dX12_fillsFits_84 (by decide) (fun b2689 => ?_) (fun b2689 => ?_)
                    · have b2689 := zi_eq b2689 (rfl : j2659.toInt = j2659.toInt) (zl_0 : (0 : Int32).toInt = 0)
                      exact J131 H locs ls hM hS (lv_sub hl [0, 1, 2, 3, 4] rfl)
                    · have b2689 := zi_ne b2689 (rfl : j2659.toInt = j2659.toInt) (zl_0 : (0 : Int32).toInt = 0)
                      refine lv_aload_n hx hb dX12_fillsFits_87 rfl (lv_at hl 4 rfl) ?_
                      refine zq_getr E hM k_h0 (zFX12_59 E hZ) ⟨by decide, by decide, by decide, rfl⟩ dX12_fillsFits_88 ?_
                      have k2690 : zq_k X (zq_r X h0 28) = 63 := zq_lk L.1 k_h0 rfl (by decide)
                      refine lv_iload_n hx hb dX12_fillsFits_91 rfl (lv_at hl 2 rfl) ?_
                      refine lv_iconst (v := 1) hx hb dX12_fillsFits_92 (by decide +kernel) ?_
                      refine lv_iadd hx hb dX12_fillsFits_93 ?_
                      refine lv_topi (fun x2691 ex2691 => ?_)
                      have tx2691 := zi_add ex2691 (rfl : j2175.toInt = j2175.toInt) (zl_1 : (1 : Int32).toInt = 1) ⟨by omega, by omega⟩
                      refine lv_aload_n hx hb dX12_fillsFits_94 rfl (lv_at hl 4 rfl) ?_
                      refine zq_getr E hM k_h0 (zFX12_39 E hZ) ⟨by decide, by decide, by decide, rfl⟩ dX12_fillsFits_95 ?_
                      have k2692 : zq_k X (zq_r X h0 20) = 59 := zq_lk L.1 k_h0 rfl (by decide)
                      refine lv_bipush (v := 85) hx hb dX12_fillsFits_98 (by decide +kernel) ?_
                      refine lv_iconst (v := 2) hx hb dX12_fillsFits_100 (by decide +kernel) ?_
                      refine W.eq (g2 := F0 m 101 ls [.int (2 : Int32), .int (85 : Int32), .ref (zq_r X h0 20), .int x2691, .ref (zq_r X h0 28)]) rfl ?_
                      refine lv_iload hx hb dX12_fillsFits_101 (lv_at hl 0 rfl) ?_
                      refine lv_imul hx hb dX12_fillsFits_103 ?_
                      refine lv_topi (fun x2693 ex2693 => ?_)
                      have tx2693 := zi_mul ex2693 (zl_2 : (2 : Int32).toInt = 2) (rfl : j2658.toInt = j2658.toInt) ⟨by omega, by omega⟩
                      refine lv_iadd hx hb dX12_fillsFits_104 ?_
                      refine lv_topi (fun x2694 ex2694 => ?_)
                      have tx2694 := zi_add ex2694 (zl_85 : (85 : Int32).toInt = 85) (rfl : x2693.toInt = x2693.toInt) ⟨by omega, by omega⟩
                      refine zq_ian (n := 106) (j := (x2694.toNatClampNeg)) E hZ hM k2692 ⟨by decide, rfl⟩ ⟨by omega, by omega⟩ rfl dX12_fillsFits_105 (fun x2695 ex2695 gx2695 => ?_)
                      have hclx2694 := zq_cl (i := x2694) (by omega)
                      have hc2696 : x2694.toNatClampNeg = 85 ∨ x2694.toNatClampNeg = 87 ∨ x2694.toNatClampNeg = 89 ∨ x2694.toNatClampNeg = 91 ∨ x2694.toNatClampNeg = 93 ∨ x2694.toNatClampNeg = 95 ∨ x2694.toNatClampNeg = 97 ∨ x2694.toNatClampNeg = 99 ∨ x2694.toNatClampNeg = 101 ∨ x2694.toNatClampNeg = 103 := by omega
                      replace gx2695 : 0 ≤ x2695.toInt ∧ x2695.toInt ≤ 60 := by
                        rcases hc2696 with q9 | q9 | q9 | q9 | q9 | q9 | q9 | q9 | q9 | q9
                        · rw [q9] at gx2695; exact gx2695
                        · rw [q9] at gx2695; exact gx2695
                        · rw [q9] at gx2695; exact gx2695
                        · rw [q9] at gx2695; exact gx2695
                        · rw [q9] at gx2695; exact gx2695
                        · rw [q9] at gx2695; exact gx2695
                        · rw [q9] at gx2695; exact gx2695
                        · rw [q9] at gx2695; exact gx2695
                        · rw [q9] at gx2695; exact gx2695
                        · rw [q9] at gx2695; exact gx2695
                      refine zq_pcalli (zq_rS (As := [.int x2691, .int x2695]) (rest := [.ref (zq_r X h0 28)]) E hZ hM (c_X12_spot l X zk (zv2546) I2544 L x2691 x2695 ⟨by omega, by omega⟩ ⟨by omega, by omega⟩) zmX12_430 zM_X12_spot (hro (0) 2 (by first | decide | omega) (by decide)) hl.1 rfl rfl (Nat.le_of_ble_eq_true rfl) dX12_fillsFits_106) hS (fun x2698 H locs h2697 hM hS => ?_)
                      have p2699 := h2697
                      refine zq_ian (n := 427) (j := (x2698.toNatClampNeg)) E hZ hM k2690 ⟨by decide, rfl⟩ ⟨by omega, by omega⟩ rfl dX12_fillsFits_109 (fun x2700 ex2700 gx2700 => ?_)
                      clear gx2700
                      refine lv_aload_n hx hb dX12_fillsFits_110 rfl (lv_at hl 4 rfl) ?_
                      refine zq_getr E hM k_h0 (zFX12_39 E hZ) ⟨by decide, by decide, by decide, rfl⟩ dX12_fillsFits_111 ?_
                      have k2701 : zq_k X (zq_r X h0 20) = 59 := zq_lk L.1 k_h0 rfl (by decide)
                      refine lv_bipush (v := 85) hx hb dX12_fillsFits_114 (by decide +kernel) ?_
                      refine lv_iconst (v := 2) hx hb dX12_fillsFits_116 (by decide +kernel) ?_
                      refine W.eq (g2 := F0 m 117 ls [.int (2 : Int32), .int (85 : Int32), .ref (zq_r X h0 20), .int x2700]) rfl ?_
                      refine lv_iload hx hb dX12_fillsFits_117 (lv_at hl 0 rfl) ?_
                      refine lv_imul hx hb dX12_fillsFits_119 ?_
                      refine lv_topi (fun x2702 ex2702 => ?_)
                      have tx2702 := zi_mul ex2702 (zl_2 : (2 : Int32).toInt = 2) (rfl : j2658.toInt = j2658.toInt) ⟨by omega, by omega⟩
                      refine lv_iadd hx hb dX12_fillsFits_120 ?_
                      refine lv_topi (fun x2703 ex2703 => ?_)
                      have tx2703 := zi_add ex2703 (zl_85 : (85 : Int32).toInt = 85) (rfl : x2702.toInt = x2702.toInt) ⟨by omega, by omega⟩
                      refine lv_iconst (v := 1) hx hb dX12_fillsFits_121 (by decide +kernel) ?_
                      refine lv_iadd hx hb dX12_fillsFits_122 ?_
                      refine lv_topi (fun x2704 ex2704 => ?_)
                      have tx2704 := zi_add ex2704 (rfl : x2703.toInt = x2703.toInt) (zl_1 : (1 : Int32).toInt = 1) ⟨by omega, by omega⟩
                      refine zq_ian (n := 106) (j := (x2704.toNatClampNeg)) E hZ hM k2701 ⟨by decide, rfl⟩ ⟨by omega, by omega⟩ rfl dX12_fillsFits_123 (fun x2705 ex2705 gx2705 => ?_)
                      clear gx2705
                      refine lv_icmp_ne (tgt := 131) hx hb dX12_fillsFits_124 (by decide) (fun b2706 => ?_) (fun b2706 => ?_)
                      · have b2706 := zi_ne b2706 (rfl : x2700.toInt = x2700.toInt) (rfl : x2705.toInt = x2705.toInt)
                        exact J131 H locs ls hM hS (lv_sub hl [0, 1, 2, 3, 4] rfl)
                      · have b2706 := zi_eq b2706 (rfl : x2700.toInt = x2700.toInt) (rfl : x2705.toInt = x2705.toInt)
                        refine lv_iconst (v := 1) hx hb dX12_fillsFits_127 (by decide +kernel) ?_
                        refine lv_goto (tgt := 132) hx hb dX12_fillsFits_128 (by decide) ?_
                        exact J132 H locs ls (1 : Int32) hM hS (by rw [zl_1]; decide) (lv_sub hl [0, 1, 2, 3, 4] rfl)
              exact J71 (10 + 1 - (0 : Int32).toInt).toNat H locs ls (0 : Int32) (1 : Int32) (by omega) hM hS (by rw [zl_0]; decide) (by rw [zl_1]; decide) (lv_sub hl [0, 1, 2, 3, 4] rfl)
            · have b2549 := zi_nlt b2549 (zl_60 : (60 : Int32).toInt = 60) (rfl : j2543.toInt = j2543.toInt)
              refine lv_aload_n hx hb dX12_fillsFits_36 rfl (lv_at hl 3 rfl) ?_
              refine zq_getr E hM k_h0 (zFX12_59 E hZ) ⟨by decide, by decide, by decide, rfl⟩ dX12_fillsFits_37 ?_
              have k2707 : zq_k X (zq_r X h0 28) = 63 := zq_lk L.1 k_h0 rfl (by decide)
              refine lv_iload_n hx hb dX12_fillsFits_40 rfl (lv_at hl 1 rfl) ?_
              refine lv_iconst (v := 1) hx hb dX12_fillsFits_41 (by decide +kernel) ?_
              refine lv_iadd hx hb dX12_fillsFits_42 ?_
              refine lv_topi (fun x2708 ex2708 => ?_)
              have tx2708 := zi_add ex2708 (rfl : j2175.toInt = j2175.toInt) (zl_1 : (1 : Int32).toInt = 1) ⟨by omega, by omega⟩
              refine lv_iload_n hx hb dX12_fillsFits_43 rfl (lv_at hl 0 rfl) ?_
              refine zq_pcalli (zq_rS (As := [.int x2708, .int j2543]) (rest := [.ref (zq_r X h0 28)]) E hZ hM (c_X12_spot l X zk (zv2546) I2544 L x2708 j2543 ⟨by omega, by omega⟩ ⟨by omega, by omega⟩) zmX12_430 zM_X12_spot (hro (0) 2 (by first | decide | omega) (by decide)) hl.1 rfl rfl (Nat.le_of_ble_eq_true rfl) dX12_fillsFits_44) hS (fun x2710 H locs h2709 hM hS => ?_)
              have p2711 := h2709
              refine lv_aload_n hx hb dX12_fillsFits_47 rfl (lv_at hl 3 rfl) ?_
              refine zq_getr E hM k_h0 (zFX12_39 E hZ) ⟨by decide, by decide, by decide, rfl⟩ dX12_fillsFits_48 ?_
              have k2712 : zq_k X (zq_r X h0 20) = 59 := zq_lk L.1 k_h0 rfl (by decide)
              refine W.eq (g2 := F0 m 51 ls [.ref (zq_r X h0 20), .int x2710, .ref (zq_r X h0 28)]) rfl ?_
              refine lv_bipush (v := 10) hx hb dX12_fillsFits_51 (by decide +kernel) ?_
              refine zq_ian (n := 106) (j := 10) E hZ hM k2712 ⟨by decide, rfl⟩ (by rw [zl_10]; decide) (by decide +kernel) dX12_fillsFits_53 (fun x2713 ex2713 gx2713 => ?_)
              clear gx2713
              refine zq_isn (n := 427) (j := (x2710.toNatClampNeg)) E hZ hM hS k2707 ⟨by decide, rfl⟩ ⟨by omega, by omega⟩ rfl (zq_any _) dX12_fillsFits_54 (fun I2714 H locs eI2714 hM hS => ?_)
              have hR := zq_fr.putE hR eI2714 (zf_ia k2707 (by decide) rfl)
              have hWF2715 := zWF.put F2545 L k_h0 eI2714 k2707 (by decide)
              refine lv_aload_n hx hb dX12_fillsFits_55 rfl (lv_at hl 3 rfl) ?_
              refine zq_calli (zq_rV (As := []) (rest := []) E hZ hM k_h0 (c_X12_passes l X zk (zv2546) I2714 L h0 k_h0 (by omega) (hWF2715) (by omega)) zmX12_363 zM_X12_passes (hro (4) 3 (by first | decide | omega) (by decide)) ⟨by decide, by decide⟩ rfl hl.1 rfl rfl (Nat.le_of_ble_eq_true rfl) dX12_fillsFits_56) hS (fun x2717 I2718 H locs h2716 hM hS => ?_)
              have fr2719 := h2716
              have hR := zq_fr.call hR fr2719 (zf_sub (by decide +kernel) (fun _ _ q => q.elim))
              have hWF2720 := zWF.fr hWF2715 L k_h0 fr2719 (by decide)
              refine lv_pop hx hb dX12_fillsFits_59 rfl ?_
              obtain ⟨x2721, ex2721⟩ : ∃ y : Int32, y = j2543 + 1 := ⟨_, rfl⟩
              have tx2721 := zi_add ex2721 (rfl : j2543.toInt = j2543.toInt) zl_1 ⟨by omega, by omega⟩
              refine lv_iinc (v := x2721) (lv' := [(3, .int x2721), (2, .int j2175), (1, .int x101), (0, .ref h0)]) hx hb dX12_fillsFits_60 hl (k := 0) rfl (by rw [ex2721]; rfl) (by decide) rfl (fun ls hl => ?_)
              refine lv_goto (tgt := 30) hx hb dX12_fillsFits_63 (by decide) ?_
              exact ih30 I2718 H locs ls ((zv2546 + 4)) x2721 (by omega) hM hS hR (⟨by omega, by omega⟩) hWF2720 (by have := zl_0; have := zl_m1; omega) (lv_sub hl [0, 1, 2, 3] rfl)
        exact J30 (61 + 1 - (0 : Int32).toInt).toNat I2195 H locs ls (zv2178) (0 : Int32) (by omega) hM hS hR (by rw [zl_0]; decide) hWF2197 (by have := zl_0; have := zl_m1; omega) (lv_sub hl [0, 1, 2, 3] rfl)
  exact J11 (6 + 1 - (-1 : Int32).toInt).toNat I104 H locs ls (zk) (-1 : Int32) (by omega) hM hS hR (by rw [zl_m1]; decide) hWF107 (by have := zl_0; have := zl_m1; omega) (lv_sub hl [0, 1, 2] rfl)
def zw_X12_ruled : List (Nat × Nat) := [(10, 18), (10, 21), (59, 999), (61, 999), (62, 999), (63, 999)]
set_option maxHeartbeats 8000000 in
set_option maxRecDepth 100000 in
theorem c_X12_ruled (l : Launch) (X : zq_X) (zk zn : Nat) (I : zq_M) (L : zq_L X)  (h0 : Nat) (k_h0 : zq_k X h0 = 10) (p1 : Int32) (q_0 : zk ≤ 4400 ∧ zn ≤ 4400) (q_1 : zWF X I h0) (q_2 : zk ≤ 2200) : Met l yX12_ruled (zt_w yX12_ruled cX12_ruled 5 (some .int)) (zq_rm (6)) (va_Pc [.ref h0, .int p1] (zq_W X (zk, zk) I)) (va_Qi (fun (r : Int32) I2 => zq_fr (zf X zw_X12_ruled (fun _ => False)) I I2) (zq_E X (zk, zk)) (zq_A X)) 0 0 (zq_A X) := by
  refine Met.ofW (cc := cX12_ruled) (maxL := 5) (ret := (some .int)) (by decide) rfl ?_
  intro p e s m args below meth c s₁ B hml hv
  obtain ⟨hargs, hM, hZ⟩ := hv
  have hown : s.vm.findClass RX12 = some m.cls := findClass_of_methodNamed B.named
  have hts := atoms_spec (ws := zt_w yX12_ruled cX12_ruled 5 (some .int)) B.pre
  have E : CallFix p m c cX12_ruled 5 s args (Cond.code yX12_ruled cX12_ruled 5 (some .int) :: zt) RX12 := ⟨B.exec, B.bytes, hml, hown, hts⟩
  have hx := B.exec
  have hb := B.bytes
  have hr := B.returns
  have hlocks := B.notSynchronized
  clear B
  have hS : va_S (zq_A X) s.heap s.heap [] := va_S.rf
  have hR : zq_fr (zf X zw_X12_ruled (fun _ => False)) I I := zq_fr.rf
  have hl := lv_entry ([.ref h0, .int p1]) (n := 5) (by exact Nat.le_of_ble_eq_true rfl)
  have hg : entryFrame m args 5 = F0 m 0 ((lg_sl ([.ref h0, .int p1]) ++ List.replicate (5 - (lg_sl ([.ref h0, .int p1])).length) Slot.unset).toArray) [] := by rw [hargs]; exact lg_entry_eq m ([.ref h0, .int p1]) 5
  rw [hg]
  clear hg hargs
  generalize (lg_sl ([.ref h0, .int p1]) ++ List.replicate (5 - (lg_sl ([.ref h0, .int p1])).length) Slot.unset).toArray = ls at hl ⊢
  have hl : lv_has ls 5 [(0, .ref h0), (1, .int p1)] := by exact hl
  obtain ⟨R, hRm⟩ : ∃ R : Room, R = (headSpec (zt_w yX12_ruled cX12_ruled 5 (some .int)) (zq_rm (6))).room := ⟨_, rfl⟩
  rw [← hRm]
  have hro : ∀ d q : Nat, d + 1 ≤ 6 → q ≤ 45 → zq_rok d q R := fun d q h1 h2 => by rw [hRm]; exact zq_rokI h1 h2
  generalize hQ : MQ below _ args s 0 0 (zq_A X) = Q
  obtain ⟨H, hH⟩ : ∃ H, H = s.heap := ⟨_, rfl⟩
  obtain ⟨locs, hlo⟩ : ∃ x : List Loc, x = [] := ⟨_, rfl⟩
  rw [show W p l e R s m args below meth c s.heap [] 0 0 Q = W p l e R s m args below meth c H locs 0 0 Q by rw [hH, hlo]]
  have hM : zq_hm X (zk, zk) I H := by rw [hH]; exact hM
  have hS : va_S (zq_A X) s.heap H locs := by rw [hH, hlo]; exact hS
  clear hH hlo
  refine lv_aload_n hx hb dX12_ruled_0 rfl (lv_at hl 0 rfl) ?_
  refine zq_pcalli (zq_rV (As := []) (rest := []) E hZ hM k_h0 (c_X12_isTrade l X zk (zk) I L h0 k_h0 (by omega)) zmX12_357 zM_X12_isTrade (hro (0) 1 (by first | decide | omega) (by decide)) ⟨by decide, by decide⟩ rfl hl.1 rfl rfl (Nat.le_of_ble_eq_true rfl) dX12_ruled_1) hS (fun x102 H locs h101 hM hS => ?_)
  have p103 := h101
  refine lv_if_eq (tgt := 17) hx hb dX12_ruled_4 (by decide) (fun b104 => ?_) (fun b104 => ?_)
  · have b104 := zi_eq b104 (rfl : x102.toInt = x102.toInt) (zl_0 : (0 : Int32).toInt = 0)
    refine lv_bipush (v := (-3)) hx hb dX12_ruled_17 (by decide +kernel) ?_
    subst hQ
    exact zq_iret E hr hZ hM hS hR hlocks dX12_ruled_19
  · have b104 := zi_ne b104 (rfl : x102.toInt = x102.toInt) (zl_0 : (0 : Int32).toInt = 0)
    refine lv_iload_n hx hb dX12_ruled_7 rfl (lv_at hl 1 rfl) ?_
    refine lv_i2l hx hb dX12_ruled_8 rfl ?_
    refine lv_topl (fun y105 ey105 => ?_)
    have ty105 := zi_i2l ey105
    have := zi_rng p1
    refine lv_lconst (v := 0) hx hb dX12_ruled_9 (by decide +kernel) ?_
    refine lv_lconst (v := 1) hx hb dX12_ruled_10 (by decide +kernel) ?_
    refine zq_pcalli (zq_rS (As := [.long y105, .long (0 : Int64), .long (1 : Int64)]) (rest := []) E hZ hM (c_X12_in l X zk (zk) I L y105 (0 : Int64) (1 : Int64)) zmX12_112 zM_X12_in (hro (0) 6 (by first | decide | omega) (by decide)) hl.1 rfl rfl (Nat.le_of_ble_eq_true rfl) dX12_ruled_11) hS (fun x107 H locs h106 hM hS => ?_)
    obtain ⟨p108, p109⟩ := h106
    have : (0 : Int64).toInt = 0 := by decide +kernel
    have : (1 : Int64).toInt = 1 := by decide +kernel
    refine lv_if_ne (tgt := 20) hx hb dX12_ruled_14 (by decide) (fun b110 => ?_) (fun b110 => ?_)
    · have b110 := zi_ne b110 (rfl : x107.toInt = x107.toInt) (zl_0 : (0 : Int32).toInt = 0)
      refine lv_aload_n hx hb dX12_ruled_20 rfl (lv_at hl 0 rfl) ?_
      refine zq_callv (zq_rV (As := []) (rest := []) E hZ hM k_h0 (c_X12_fillsFits l X zk (zk) I L h0 k_h0 (by omega) (q_1) (by omega)) zmX12_433 zM_X12_fillsFits (hro (5) 5 (by first | decide | omega) (by decide)) ⟨by decide, by decide⟩ rfl hl.1 rfl rfl (Nat.le_of_ble_eq_true rfl) dX12_ruled_21) hS (fun I113 H locs h111 hM hS => ?_)
      have fr114 := h111
      have hR := zq_fr.call hR fr114 (zf_sub (by decide +kernel) (fun _ _ q => q.elim))
      have hWF115 := zWF.fr q_1 L k_h0 fr114 (by decide)
      refine lv_iconst (v := 0) hx hb dX12_ruled_24 (by decide +kernel) ?_
      refine lv_istore_n (lv' := [(2, .int (0 : Int32)), (0, .ref h0), (1, .int p1)]) hx hb dX12_ruled_25 rfl hl (by decide) rfl (fun ls hl => ?_)
      refine lv_bipush (v := (-2)) hx hb dX12_ruled_26 (by decide +kernel) ?_
      refine lv_istore_n (lv' := [(3, .int (-2 : Int32)), (2, .int (0 : Int32)), (0, .ref h0), (1, .int p1)]) hx hb dX12_ruled_28 rfl hl (by decide) rfl (fun ls hl => ?_)
      refine lv_aload_n hx hb dX12_ruled_29 rfl (lv_at hl 2 rfl) ?_
      refine zq_gn E hM k_h0 (zFX12_254 E hZ) (Or.inl ⟨by decide, by decide, by decide, rfl⟩) dX12_ruled_30 (fun x116 ex116 gx116 => ?_)
      replace gx116 : 0 ≤ x116.toInt ∧ x116.toInt ≤ 6 := gx116
      refine lv_istore (lv' := [(4, .int x116), (3, .int (-2 : Int32)), (2, .int (0 : Int32)), (0, .ref h0), (1, .int p1)]) hx hb dX12_ruled_33 hl (by decide) rfl (fun ls hl => ?_)
      have J35 : ∀ (n160 : Nat) (ls : Array Slot) (j157 : Int32) (j158 : Int32) (j159 : Int32), j157.toInt + 1 - (-1) ≤ ((n160 : Nat) : Int) → ((-1) ≤ j157.toInt ∧ j157.toInt ≤ 6) → ((-2) ≤ j158.toInt ∧ j158.toInt ≤ 5) → (lv_has ls 5 [(4, .int j157), (3, .int j158), (2, .int j159), (0, .ref h0), (1, .int p1)]) → W p l e R s m args below meth c H locs 0 0 Q (F0 m 35 ls []) := by
        intro n160
        induction n160 with
        | zero => intro ls j157 j158 j159 mu161 gj157 gj158 hl; exfalso; have := zi_rng j157; omega
        | succ n160 ih35 =>
          intro ls j157 j158 j159 mu161 gj157 gj158 hl
          refine lv_iload hx hb dX12_ruled_35 (lv_at hl 0 rfl) ?_
          refine lv_if_lt (tgt := 67) hx hb dX12_ruled_37 (by decide) (fun b162 => ?_) (fun b162 => ?_)
          · have b162 := zi_lt b162 (rfl : j157.toInt = j157.toInt) (zl_0 : (0 : Int32).toInt = 0)
            refine lv_iload_n hx hb dX12_ruled_67 rfl (lv_at hl 4 rfl) ?_
            refine lv_if_ne (tgt := 75) hx hb dX12_ruled_68 (by decide) (fun b163 => ?_) (fun b163 => ?_)
            · have b163 := zi_ne b163 (rfl : p1.toInt = p1.toInt) (zl_0 : (0 : Int32).toInt = 0)
              refine lv_iload_n hx hb dX12_ruled_75 rfl (lv_at hl 1 rfl) ?_
              subst hQ
              exact zq_iret E hr hZ hM hS hR hlocks dX12_ruled_76
            · have b163 := zi_eq b163 (rfl : p1.toInt = p1.toInt) (zl_0 : (0 : Int32).toInt = 0)
              refine lv_iload_n hx hb dX12_ruled_71 rfl (lv_at hl 2 rfl) ?_
              refine lv_goto (tgt := 76) hx hb dX12_ruled_72 (by decide) ?_
              subst hQ
              exact zq_iret E hr hZ hM hS hR hlocks dX12_ruled_76
          · have b162 := zi_nlt b162 (rfl : j157.toInt = j157.toInt) (zl_0 : (0 : Int32).toInt = 0)
            refine lv_aload_n hx hb dX12_ruled_40 rfl (lv_at hl 3 rfl) ?_
            refine zq_getr E hM k_h0 (zFX12_55 E hZ) ⟨by decide, by decide, by decide, rfl⟩ dX12_ruled_41 ?_
            have k164 : zq_k X (zq_r X h0 27) = 62 := zq_lk L.1 k_h0 rfl (by decide)
            refine lv_iload hx hb dX12_ruled_44 (lv_at hl 0 rfl) ?_
            refine zq_zan (n := 7) (j := (j157.toNatClampNeg)) E hZ hM k164 ⟨by decide, rfl⟩ ⟨by omega, by omega⟩ rfl dX12_ruled_46 (fun x165 ex165 gx165 => ?_)
            replace gx165 : 0 ≤ x165.toInt ∧ x165.toInt ≤ 1 := gx165
            have J61 : ∀ (ls : Array Slot) (j168 : Int32) (j169 : Int32), ((-2) ≤ j169.toInt ∧ j169.toInt ≤ 5) → (lv_has ls 5 [(2, .int j168), (3, .int j169), (4, .int j157), (0, .ref h0), (1, .int p1)]) → W p l e R s m args below meth c H locs 0 0 Q (F0 m 61 ls []) := by
              intro ls j168 j169 gj169 hl
              obtain ⟨x171, ex171⟩ : ∃ y : Int32, y = j157 + (-1) := ⟨_, rfl⟩
              have tx171 := zi_add ex171 (rfl : j157.toInt = j157.toInt) zl_m1 ⟨by omega, by omega⟩
              refine lv_iinc (v := x171) (lv' := [(4, .int x171), (2, .int j168), (3, .int j169), (0, .ref h0), (1, .int p1)]) hx hb dX12_ruled_61 hl (k := 2) rfl (by rw [ex171]; rfl) (by decide) rfl (fun ls hl => ?_)
              refine lv_goto (tgt := 35) hx hb dX12_ruled_64 (by decide) ?_
              exact ih35 ls x171 j169 j168 (by omega) (⟨by omega, by omega⟩) (⟨by omega, by omega⟩) (lv_sub hl [0, 2, 1, 3, 4] rfl)
            refine lv_if_ne (tgt := 53) hx hb dX12_ruled_47 (by decide) (fun b172 => ?_) (fun b172 => ?_)
            · have b172 := zi_ne b172 (rfl : x165.toInt = x165.toInt) (zl_0 : (0 : Int32).toInt = 0)
              refine lv_iload hx hb dX12_ruled_53 (lv_at hl 0 rfl) ?_
              refine lv_iconst (v := 1) hx hb dX12_ruled_55 (by decide +kernel) ?_
              refine lv_isub hx hb dX12_ruled_56 ?_
              refine lv_topi (fun x173 ex173 => ?_)
              have tx173 := zi_sub ex173 (rfl : j157.toInt = j157.toInt) (zl_1 : (1 : Int32).toInt = 1) ⟨by omega, by omega⟩
              refine lv_istore_n (lv' := [(3, .int x173), (4, .int j157), (2, .int j159), (0, .ref h0), (1, .int p1)]) hx hb dX12_ruled_57 rfl hl (by decide) rfl (fun ls hl => ?_)
              obtain ⟨x174, ex174⟩ : ∃ y : Int32, y = j159 + 1 := ⟨_, rfl⟩
              refine lv_iinc (v := x174) (lv' := [(2, .int x174), (3, .int x173), (4, .int j157), (0, .ref h0), (1, .int p1)]) hx hb dX12_ruled_58 hl (k := 2) rfl (by rw [ex174]; rfl) (by decide) rfl (fun ls hl => ?_)
              exact J61 ls x174 x173 (⟨by omega, by omega⟩) (lv_sub hl [0, 1, 2, 3, 4] rfl)
            · have b172 := zi_eq b172 (rfl : x165.toInt = x165.toInt) (zl_0 : (0 : Int32).toInt = 0)
              refine lv_goto (tgt := 61) hx hb dX12_ruled_50 (by decide) ?_
              exact J61 ls j159 j158 (⟨by omega, by omega⟩) (lv_sub hl [2, 1, 0, 3, 4] rfl)
      exact J35 (x116.toInt + 1 - (-1)).toNat ls x116 (-2 : Int32) (0 : Int32) (by omega) (⟨by omega, by omega⟩) (by rw [zl_m2]; decide) (lv_sub hl [0, 1, 2, 3, 4] rfl)
    · have b110 := zi_eq b110 (rfl : x107.toInt = x107.toInt) (zl_0 : (0 : Int32).toInt = 0)
      refine lv_bipush (v := (-3)) hx hb dX12_ruled_17 (by decide +kernel) ?_
      subst hQ
      exact zq_iret E hr hZ hM hS hR hlocks dX12_ruled_19
def zw_X12_look : List (Nat × Nat) := [(10, 18), (10, 21), (59, 999), (61, 999), (62, 999), (63, 999)]
set_option maxHeartbeats 8000000 in
set_option maxRecDepth 100000 in
theorem c_X12_look (l : Launch) (X : zq_X) (zk zn : Nat) (I : zq_M) (L : zq_L X)  (h0 : Nat) (k_h0 : zq_k X h0 = 10) (p1 : Int32) (q_0 : zk ≤ 4400 ∧ zn ≤ 4400) (q_1 : zWF X I h0) (q_2 : zk ≤ 2200) : Met l yX12_look (zt_w yX12_look cX12_look 4 (some .int)) (zq_rm (6)) (va_Pc [.ref h0, .int p1] (zq_W X (zk, zk) I)) (va_Qi (fun (r : Int32) I2 => zq_fr (zf X zw_X12_look (fun _ => False)) I I2 ∧ ((-2) ≤ r.toInt)) (zq_E X (zk, zk)) (zq_A X)) 0 0 (zq_A X) := by
  refine Met.ofW (cc := cX12_look) (maxL := 4) (ret := (some .int)) (by decide) rfl ?_
  intro p e s m args below meth c s₁ B hml hv
  obtain ⟨hargs, hM, hZ⟩ := hv
  have hown : s.vm.findClass RX12 = some m.cls := findClass_of_methodNamed B.named
  have hts := atoms_spec (ws := zt_w yX12_look cX12_look 4 (some .int)) B.pre
  have E : CallFix p m c cX12_look 4 s args (Cond.code yX12_look cX12_look 4 (some .int) :: zt) RX12 := ⟨B.exec, B.bytes, hml, hown, hts⟩
  have hx := B.exec
  have hb := B.bytes
  have hr := B.returns
  have hlocks := B.notSynchronized
  clear B
  have hS : va_S (zq_A X) s.heap s.heap [] := va_S.rf
  have hR : zq_fr (zf X zw_X12_look (fun _ => False)) I I := zq_fr.rf
  have hl := lv_entry ([.ref h0, .int p1]) (n := 4) (by exact Nat.le_of_ble_eq_true rfl)
  have hg : entryFrame m args 4 = F0 m 0 ((lg_sl ([.ref h0, .int p1]) ++ List.replicate (4 - (lg_sl ([.ref h0, .int p1])).length) Slot.unset).toArray) [] := by rw [hargs]; exact lg_entry_eq m ([.ref h0, .int p1]) 4
  rw [hg]
  clear hg hargs
  generalize (lg_sl ([.ref h0, .int p1]) ++ List.replicate (4 - (lg_sl ([.ref h0, .int p1])).length) Slot.unset).toArray = ls at hl ⊢
  have hl : lv_has ls 4 [(0, .ref h0), (1, .int p1)] := by exact hl
  obtain ⟨R, hRm⟩ : ∃ R : Room, R = (headSpec (zt_w yX12_look cX12_look 4 (some .int)) (zq_rm (6))).room := ⟨_, rfl⟩
  rw [← hRm]
  have hro : ∀ d q : Nat, d + 1 ≤ 6 → q ≤ 45 → zq_rok d q R := fun d q h1 h2 => by rw [hRm]; exact zq_rokI h1 h2
  generalize hQ : MQ below _ args s 0 0 (zq_A X) = Q
  obtain ⟨H, hH⟩ : ∃ H, H = s.heap := ⟨_, rfl⟩
  obtain ⟨locs, hlo⟩ : ∃ x : List Loc, x = [] := ⟨_, rfl⟩
  rw [show W p l e R s m args below meth c s.heap [] 0 0 Q = W p l e R s m args below meth c H locs 0 0 Q by rw [hH, hlo]]
  have hM : zq_hm X (zk, zk) I H := by rw [hH]; exact hM
  have hS : va_S (zq_A X) s.heap H locs := by rw [hH, hlo]; exact hS
  clear hH hlo
  refine lv_aload_n hx hb dX12_look_0 rfl (lv_at hl 0 rfl) ?_
  refine zq_pcalli (zq_rV (As := []) (rest := []) E hZ hM k_h0 (c_X12_isTrade l X zk (zk) I L h0 k_h0 (by omega)) zmX12_357 zM_X12_isTrade (hro (0) 1 (by first | decide | omega) (by decide)) ⟨by decide, by decide⟩ rfl hl.1 rfl rfl (Nat.le_of_ble_eq_true rfl) dX12_look_1) hS (fun x102 H locs h101 hM hS => ?_)
  have p103 := h101
  refine lv_if_eq (tgt := 17) hx hb dX12_look_4 (by decide) (fun b104 => ?_) (fun b104 => ?_)
  · have b104 := zi_eq b104 (rfl : x102.toInt = x102.toInt) (zl_0 : (0 : Int32).toInt = 0)
    refine lv_iconst (v := (-1)) hx hb dX12_look_17 (by decide +kernel) ?_
    subst hQ
    exact zq_iret E hr hZ hM hS ⟨hR, (by have := zl_m1; omega)⟩ hlocks dX12_look_18
  · have b104 := zi_ne b104 (rfl : x102.toInt = x102.toInt) (zl_0 : (0 : Int32).toInt = 0)
    refine lv_iload_n hx hb dX12_look_7 rfl (lv_at hl 1 rfl) ?_
    refine lv_i2l hx hb dX12_look_8 rfl ?_
    refine lv_topl (fun y105 ey105 => ?_)
    have ty105 := zi_i2l ey105
    have := zi_rng p1
    refine lv_lconst (v := 0) hx hb dX12_look_9 (by decide +kernel) ?_
    refine lv_lconst (v := 1) hx hb dX12_look_10 (by decide +kernel) ?_
    refine zq_pcalli (zq_rS (As := [.long y105, .long (0 : Int64), .long (1 : Int64)]) (rest := []) E hZ hM (c_X12_in l X zk (zk) I L y105 (0 : Int64) (1 : Int64)) zmX12_112 zM_X12_in (hro (0) 6 (by first | decide | omega) (by decide)) hl.1 rfl rfl (Nat.le_of_ble_eq_true rfl) dX12_look_11) hS (fun x107 H locs h106 hM hS => ?_)
    obtain ⟨p108, p109⟩ := h106
    have : (0 : Int64).toInt = 0 := by decide +kernel
    have : (1 : Int64).toInt = 1 := by decide +kernel
    refine lv_if_ne (tgt := 19) hx hb dX12_look_14 (by decide) (fun b110 => ?_) (fun b110 => ?_)
    · have b110 := zi_ne b110 (rfl : x107.toInt = x107.toInt) (zl_0 : (0 : Int32).toInt = 0)
      refine lv_aload_n hx hb dX12_look_19 rfl (lv_at hl 0 rfl) ?_
      refine zq_callv (zq_rV (As := []) (rest := []) E hZ hM k_h0 (c_X12_fillsFits l X zk (zk) I L h0 k_h0 (by omega) (q_1) (by omega)) zmX12_433 zM_X12_fillsFits (hro (5) 5 (by first | decide | omega) (by decide)) ⟨by decide, by decide⟩ rfl hl.1 rfl rfl (Nat.le_of_ble_eq_true rfl) dX12_look_20) hS (fun I113 H locs h111 hM hS => ?_)
      have fr114 := h111
      have hR := zq_fr.call hR fr114 (zf_sub (by decide +kernel) (fun _ _ q => q.elim))
      have hWF115 := zWF.fr q_1 L k_h0 fr114 (by decide)
      refine lv_iconst (v := 0) hx hb dX12_look_23 (by decide +kernel) ?_
      refine lv_istore_n (lv' := [(2, .int (0 : Int32)), (0, .ref h0), (1, .int p1)]) hx hb dX12_look_24 rfl hl (by decide) rfl (fun ls hl => ?_)
      refine lv_iconst (v := 1) hx hb dX12_look_25 (by decide +kernel) ?_
      refine lv_istore_n (lv' := [(3, .int (1 : Int32)), (2, .int (0 : Int32)), (0, .ref h0), (1, .int p1)]) hx hb dX12_look_26 rfl hl (by decide) rfl (fun ls hl => ?_)
      have J27 : ∀ (n170 : Nat) (H : Heap) (locs : List Loc) (ls : Array Slot) (j168 : Int32) (j169 : Int32), 61 + 1 - j168.toInt ≤ ((n170 : Nat) : Int) → (zq_hm X (zk, zk) I113 H) → (va_S (zq_A X) s.heap H locs) → (1 ≤ j168.toInt ∧ j168.toInt ≤ 61) → (0 ≤ j169.toInt ∧ j169.toInt ≤ 60) → (lv_has ls 4 [(3, .int j168), (2, .int j169), (0, .ref h0), (1, .int p1)]) → W p l e R s m args below meth c H locs 0 0 Q (F0 m 27 ls []) := by
        intro n170
        induction n170 with
        | zero => intro H locs ls j168 j169 mu171 hM hS gj168 gj169 hl; exfalso; have := zi_rng j168; omega
        | succ n170 ih27 =>
          intro H locs ls j168 j169 mu171 hM hS gj168 gj169 hl
          refine lv_iload_n hx hb dX12_look_27 rfl (lv_at hl 0 rfl) ?_
          refine lv_bipush (v := 60) hx hb dX12_look_28 (by decide +kernel) ?_
          refine lv_icmp_gt (tgt := 54) hx hb dX12_look_30 (by decide) (fun b172 => ?_) (fun b172 => ?_)
          · have b172 := zi_lt b172 (zl_60 : (60 : Int32).toInt = 60) (rfl : j168.toInt = j168.toInt)
            refine lv_aload_n hx hb dX12_look_54 rfl (lv_at hl 2 rfl) ?_
            refine lv_iload_n hx hb dX12_look_55 rfl (lv_at hl 1 rfl) ?_
            refine zq_pcalli (zq_rV (As := [.int j169]) (rest := []) E hZ hM k_h0 (c_X12_alikeAt l X zk (zk) I113 L h0 k_h0 j169 ⟨by omega, by omega⟩ (by omega)) zmX12_436 zM_X12_alikeAt (hro (1) 6 (by first | decide | omega) (by decide)) ⟨by decide, by decide⟩ rfl hl.1 rfl rfl (Nat.le_of_ble_eq_true rfl) dX12_look_56) hS (fun x174 H locs h173 hM hS => ?_)
            have p175 := h173
            have := zi_rng x174
            refine lv_if_ne (tgt := 67) hx hb dX12_look_59 (by decide) (fun b176 => ?_) (fun b176 => ?_)
            · have b176 := zi_ne b176 (rfl : x174.toInt = x174.toInt) (zl_0 : (0 : Int32).toInt = 0)
              refine lv_iload_n hx hb dX12_look_67 rfl (lv_at hl 3 rfl) ?_
              refine lv_if_ne (tgt := 75) hx hb dX12_look_68 (by decide) (fun b177 => ?_) (fun b177 => ?_)
              · have b177 := zi_ne b177 (rfl : p1.toInt = p1.toInt) (zl_0 : (0 : Int32).toInt = 0)
                refine lv_aload_n hx hb dX12_look_75 rfl (lv_at hl 2 rfl) ?_
                refine lv_iload_n hx hb dX12_look_76 rfl (lv_at hl 1 rfl) ?_
                refine zq_pcalli (zq_rV (As := [.int j169]) (rest := []) E hZ hM k_h0 (c_X12_alikeAt l X zk (zk) I113 L h0 k_h0 j169 ⟨by omega, by omega⟩ (by omega)) zmX12_436 zM_X12_alikeAt (hro (1) 6 (by first | decide | omega) (by decide)) ⟨by decide, by decide⟩ rfl hl.1 rfl rfl (Nat.le_of_ble_eq_true rfl) dX12_look_77) hS (fun x179 H locs h178 hM hS => ?_)
                have p180 := h178
                have := zi_rng x179
                subst hQ
                exact zq_iret E hr hZ hM hS ⟨hR, (by have := zi_rng x179; omega)⟩ hlocks dX12_look_80
              · have b177 := zi_eq b177 (rfl : p1.toInt = p1.toInt) (zl_0 : (0 : Int32).toInt = 0)
                refine lv_iload_n hx hb dX12_look_71 rfl (lv_at hl 1 rfl) ?_
                refine lv_goto (tgt := 80) hx hb dX12_look_72 (by decide) ?_
                subst hQ
                exact zq_iret E hr hZ hM hS ⟨hR, (by omega)⟩ hlocks dX12_look_80
            · have b176 := zi_eq b176 (rfl : x174.toInt = x174.toInt) (zl_0 : (0 : Int32).toInt = 0)
              refine lv_bipush (v := (-2)) hx hb dX12_look_62 (by decide +kernel) ?_
              refine lv_goto (tgt := 80) hx hb dX12_look_64 (by decide) ?_
              subst hQ
              exact zq_iret E hr hZ hM hS ⟨hR, (by have := zl_m2; omega)⟩ hlocks dX12_look_80
          · have b172 := zi_nlt b172 (zl_60 : (60 : Int32).toInt = 60) (rfl : j168.toInt = j168.toInt)
            refine lv_aload_n hx hb dX12_look_33 rfl (lv_at hl 2 rfl) ?_
            refine lv_iload_n hx hb dX12_look_34 rfl (lv_at hl 0 rfl) ?_
            refine zq_pcalli (zq_rV (As := [.int j168]) (rest := []) E hZ hM k_h0 (c_X12_alikeAt l X zk (zk) I113 L h0 k_h0 j168 ⟨by omega, by omega⟩ (by omega)) zmX12_436 zM_X12_alikeAt (hro (1) 6 (by first | decide | omega) (by decide)) ⟨by decide, by decide⟩ rfl hl.1 rfl rfl (Nat.le_of_ble_eq_true rfl) dX12_look_35) hS (fun x182 H locs h181 hM hS => ?_)
            have p183 := h181
            have := zi_rng x182
            refine lv_aload_n hx hb dX12_look_38 rfl (lv_at hl 2 rfl) ?_
            refine lv_iload_n hx hb dX12_look_39 rfl (lv_at hl 1 rfl) ?_
            refine zq_pcalli (zq_rV (As := [.int j169]) (rest := [.int x182]) E hZ hM k_h0 (c_X12_alikeAt l X zk (zk) I113 L h0 k_h0 j169 ⟨by omega, by omega⟩ (by omega)) zmX12_436 zM_X12_alikeAt (hro (1) 6 (by first | decide | omega) (by decide)) ⟨by decide, by decide⟩ rfl hl.1 rfl rfl (Nat.le_of_ble_eq_true rfl) dX12_look_40) hS (fun x185 H locs h184 hM hS => ?_)
            have p186 := h184
            have := zi_rng x185
            have J48 : ∀ (ls : Array Slot) (j187 : Int32), (0 ≤ j187.toInt ∧ j187.toInt ≤ 60) → (lv_has ls 4 [(3, .int j168), (2, .int j187), (0, .ref h0), (1, .int p1)]) → W p l e R s m args below meth c H locs 0 0 Q (F0 m 48 ls []) := by
              intro ls j187 gj187 hl
              obtain ⟨x189, ex189⟩ : ∃ y : Int32, y = j168 + 1 := ⟨_, rfl⟩
              have tx189 := zi_add ex189 (rfl : j168.toInt = j168.toInt) zl_1 ⟨by omega, by omega⟩
              refine lv_iinc (v := x189) (lv' := [(3, .int x189), (2, .int j187), (0, .ref h0), (1, .int p1)]) hx hb dX12_look_48 hl (k := 0) rfl (by rw [ex189]; rfl) (by decide) rfl (fun ls hl => ?_)
              refine lv_goto (tgt := 27) hx hb dX12_look_51 (by decide) ?_
              exact ih27 H locs ls x189 j187 (by omega) hM hS (⟨by omega, by omega⟩) (⟨by omega, by omega⟩) (lv_sub hl [0, 1, 2, 3] rfl)
            refine lv_icmp_ge (tgt := 48) hx hb dX12_look_43 (by decide) (fun b190 => ?_) (fun b190 => ?_)
            · have b190 := zi_le b190 (rfl : x185.toInt = x185.toInt) (rfl : x182.toInt = x182.toInt)
              exact J48 ls j169 (⟨by omega, by omega⟩) (lv_sub hl [0, 1, 2, 3] rfl)
            · have b190 := zi_nle b190 (rfl : x185.toInt = x185.toInt) (rfl : x182.toInt = x182.toInt)
              refine lv_iload_n hx hb dX12_look_46 rfl (lv_at hl 0 rfl) ?_
              refine lv_istore_n (lv' := [(2, .int j168), (3, .int j168), (0, .ref h0), (1, .int p1)]) hx hb dX12_look_47 rfl hl (by decide) rfl (fun ls hl => ?_)
              exact J48 ls j168 (⟨by omega, by omega⟩) (lv_sub hl [1, 0, 2, 3] rfl)
      exact J27 (61 + 1 - (1 : Int32).toInt).toNat H locs ls (1 : Int32) (0 : Int32) (by omega) hM hS (by rw [zl_1]; decide) (by rw [zl_0]; decide) (lv_sub hl [0, 1, 2, 3] rfl)
    · have b110 := zi_eq b110 (rfl : x107.toInt = x107.toInt) (zl_0 : (0 : Int32).toInt = 0)
      refine lv_iconst (v := (-1)) hx hb dX12_look_17 (by decide +kernel) ?_
      subst hQ
      exact zq_iret E hr hZ hM hS ⟨hR, (by have := zl_m1; omega)⟩ hlocks dX12_look_18
def zw_X12_seed : List (Nat × Nat) := [(10, 22)]
set_option maxHeartbeats 8000000 in
set_option maxRecDepth 100000 in
theorem c_X12_seed (l : Launch) (X : zq_X) (zk zn : Nat) (I : zq_M) (L : zq_L X)  (h0 : Nat) (k_h0 : zq_k X h0 = 10) (p1 : Int32)  : Met l yX12_seed (zt_w yX12_seed cX12_seed 3 (some .int)) (zq_rm (0)) (va_Pc [.ref h0, .int p1] (zq_W X (zk, zn) I)) (va_Qi (fun (r : Int32) I2 => zq_fr (zf X zw_X12_seed (fun _ => False)) I I2 ∧ ((p1.toInt < 0 ∧ r.toInt = -1 ∧ I2 h0 22 = I h0 22) ∨ (0 ≤ p1.toInt ∧ r = I h0 22 ∧ I2 h0 22 = p1))) (zq_E X (zk, zn)) (zq_A X)) 0 0 (zq_A X) := by
  refine Met.ofW (cc := cX12_seed) (maxL := 3) (ret := (some .int)) (by decide) rfl ?_
  intro p e s m args below meth c s₁ B hml hv
  obtain ⟨hargs, hM, hZ⟩ := hv
  have hown : s.vm.findClass RX12 = some m.cls := findClass_of_methodNamed B.named
  have hts := atoms_spec (ws := zt_w yX12_seed cX12_seed 3 (some .int)) B.pre
  have E : CallFix p m c cX12_seed 3 s args (Cond.code yX12_seed cX12_seed 3 (some .int) :: zt) RX12 := ⟨B.exec, B.bytes, hml, hown, hts⟩
  have hx := B.exec
  have hb := B.bytes
  have hr := B.returns
  have hlocks := B.notSynchronized
  clear B
  have hS : va_S (zq_A X) s.heap s.heap [] := va_S.rf
  have hR : zq_fr (zf X zw_X12_seed (fun _ => False)) I I := zq_fr.rf
  have hl := lv_entry ([.ref h0, .int p1]) (n := 3) (by exact Nat.le_of_ble_eq_true rfl)
  have hg : entryFrame m args 3 = F0 m 0 ((lg_sl ([.ref h0, .int p1]) ++ List.replicate (3 - (lg_sl ([.ref h0, .int p1])).length) Slot.unset).toArray) [] := by rw [hargs]; exact lg_entry_eq m ([.ref h0, .int p1]) 3
  rw [hg]
  clear hg hargs
  generalize (lg_sl ([.ref h0, .int p1]) ++ List.replicate (3 - (lg_sl ([.ref h0, .int p1])).length) Slot.unset).toArray = ls at hl ⊢
  have hl : lv_has ls 3 [(0, .ref h0), (1, .int p1)] := by exact hl
  obtain ⟨R, hRm⟩ : ∃ R : Room, R = (headSpec (zt_w yX12_seed cX12_seed 3 (some .int)) (zq_rm (0))).room := ⟨_, rfl⟩
  rw [← hRm]
  generalize hQ : MQ below _ args s 0 0 (zq_A X) = Q
  obtain ⟨H, hH⟩ : ∃ H, H = s.heap := ⟨_, rfl⟩
  obtain ⟨locs, hlo⟩ : ∃ x : List Loc, x = [] := ⟨_, rfl⟩
  rw [show W p l e R s m args below meth c s.heap [] 0 0 Q = W p l e R s m args below meth c H locs 0 0 Q by rw [hH, hlo]]
  have hM : zq_hm X (zk, zn) I H := by rw [hH]; exact hM
  have hS : va_S (zq_A X) s.heap H locs := by rw [hH, hlo]; exact hS
  clear hH hlo
  refine lv_iload_n hx hb dX12_seed_0 rfl (lv_at hl 1 rfl) ?_
  refine lv_if_ge (tgt := 6) hx hb dX12_seed_1 (by decide) (fun b101 => ?_) (fun b101 => ?_)
  · have b101 := zi_le b101 (zl_0 : (0 : Int32).toInt = 0) (rfl : p1.toInt = p1.toInt)
    refine lv_aload_n hx hb dX12_seed_6 rfl (lv_at hl 0 rfl) ?_
    refine zq_gn E hM k_h0 (zFX12_439 E hZ) (Or.inl ⟨by decide, by decide, by decide, rfl⟩) dX12_seed_7 (fun x102 ex102 gx102 => ?_)
    clear gx102
    refine lv_istore_n (lv' := [(2, .int x102), (0, .ref h0), (1, .int p1)]) hx hb dX12_seed_10 rfl hl (by decide) rfl (fun ls hl => ?_)
    refine lv_aload_n hx hb dX12_seed_11 rfl (lv_at hl 1 rfl) ?_
    refine lv_iload_n hx hb dX12_seed_12 rfl (lv_at hl 2 rfl) ?_
    refine zq_pn E hM hS k_h0 (zGX12_439 E hZ) ⟨by decide, by decide, by decide, rfl⟩ (zq_any _) dX12_seed_13 (fun I103 H locs eI103 hM hS => ?_)
    have hR := zq_fr.putE hR eI103 (zf_i k_h0 rfl rfl)
    refine lv_iload_n hx hb dX12_seed_16 rfl (lv_at hl 0 rfl) ?_
    subst hQ
    exact zq_iret E hr hZ hM hS ⟨hR, (Or.inr ⟨by omega, (ex102).symm, zq_kv eI103⟩)⟩ hlocks dX12_seed_17
  · have b101 := zi_nle b101 (zl_0 : (0 : Int32).toInt = 0) (rfl : p1.toInt = p1.toInt)
    refine lv_iconst (v := (-1)) hx hb dX12_seed_4 (by decide +kernel) ?_
    subst hQ
    exact zq_iret E hr hZ hM hS ⟨hR, (Or.inl ⟨by omega, by decide +kernel, rfl⟩)⟩ hlocks dX12_seed_5
def zw_X12_image : List (Nat × Nat) := [(64, 999), (65, 999), (66, 999), (67, 999)]
set_option maxHeartbeats 8000000 in
set_option maxRecDepth 100000 in
theorem c_X12_image (l : Launch) (X : zq_X) (zk zn : Nat) (I : zq_M) (L : zq_L X)  (h0 : Nat) (k_h0 : zq_k X h0 = 10) (p1 : Int32) (q_0 : zk ≤ 4400 ∧ zn ≤ 4400) : Met l yX12_image (zt_w yX12_image cX12_image 3 (some .int)) (zq_rm (1)) (va_Pc [.ref h0, .int p1] (zq_W X (zk, zk) I)) (va_Qi (fun (r : Int32) I2 => zq_fr (zf X zw_X12_image (fun _ => False)) I I2 ∧ (((p1.toInt < 0 ∨ 3 < p1.toInt) ∧ (∀ i, I2 (zq_r X h0 32) i = I (zq_r X h0 32) i) ∧ (∀ i, I2 (zq_r X h0 33) i = I (zq_r X h0 33) i)) ∨ (0 ≤ p1.toInt ∧ p1.toInt ≤ 3 ∧ (I2 (zq_r X h0 32) p1.toNatClampNeg = I h0 22 ∧ (∀ i, i ≠ p1.toNatClampNeg → I2 (zq_r X h0 32) i = I (zq_r X h0 32) i)) ∧ (I2 (zq_r X h0 33) p1.toNatClampNeg = 1 ∧ (∀ i, i ≠ p1.toNatClampNeg → I2 (zq_r X h0 33) i = I (zq_r X h0 33) i)))) ∧ ((-1) ≤ r.toInt ∧ r.toInt ≤ 4500)) (zq_E X (zk, zk)) (zq_A X)) 0 0 (zq_A X) := by
  refine Met.ofW (cc := cX12_image) (maxL := 3) (ret := (some .int)) (by decide) rfl ?_
  intro p e s m args below meth c s₁ B hml hv
  obtain ⟨hargs, hM, hZ⟩ := hv
  have hown : s.vm.findClass RX12 = some m.cls := findClass_of_methodNamed B.named
  have hts := atoms_spec (ws := zt_w yX12_image cX12_image 3 (some .int)) B.pre
  have E : CallFix p m c cX12_image 3 s args (Cond.code yX12_image cX12_image 3 (some .int) :: zt) RX12 := ⟨B.exec, B.bytes, hml, hown, hts⟩
  have hx := B.exec
  have hb := B.bytes
  have hr := B.returns
  have hlocks := B.notSynchronized
  clear B
  have hS : va_S (zq_A X) s.heap s.heap [] := va_S.rf
  have hR : zq_fr (zf X zw_X12_image (fun _ => False)) I I := zq_fr.rf
  have hl := lv_entry ([.ref h0, .int p1]) (n := 3) (by exact Nat.le_of_ble_eq_true rfl)
  have hg : entryFrame m args 3 = F0 m 0 ((lg_sl ([.ref h0, .int p1]) ++ List.replicate (3 - (lg_sl ([.ref h0, .int p1])).length) Slot.unset).toArray) [] := by rw [hargs]; exact lg_entry_eq m ([.ref h0, .int p1]) 3
  rw [hg]
  clear hg hargs
  generalize (lg_sl ([.ref h0, .int p1]) ++ List.replicate (3 - (lg_sl ([.ref h0, .int p1])).length) Slot.unset).toArray = ls at hl ⊢
  have hl : lv_has ls 3 [(0, .ref h0), (1, .int p1)] := by exact hl
  obtain ⟨R, hRm⟩ : ∃ R : Room, R = (headSpec (zt_w yX12_image cX12_image 3 (some .int)) (zq_rm (1))).room := ⟨_, rfl⟩
  rw [← hRm]
  have hro : ∀ d q : Nat, d + 1 ≤ 1 → q ≤ 45 → zq_rok d q R := fun d q h1 h2 => by rw [hRm]; exact zq_rokI h1 h2
  generalize hQ : MQ below _ args s 0 0 (zq_A X) = Q
  obtain ⟨H, hH⟩ : ∃ H, H = s.heap := ⟨_, rfl⟩
  obtain ⟨locs, hlo⟩ : ∃ x : List Loc, x = [] := ⟨_, rfl⟩
  rw [show W p l e R s m args below meth c s.heap [] 0 0 Q = W p l e R s m args below meth c H locs 0 0 Q by rw [hH, hlo]]
  have hM : zq_hm X (zk, zk) I H := by rw [hH]; exact hM
  have hS : va_S (zq_A X) s.heap H locs := by rw [hH, hlo]; exact hS
  clear hH hlo
  refine lv_iload_n hx hb dX12_image_0 rfl (lv_at hl 1 rfl) ?_
  refine lv_i2l hx hb dX12_image_1 rfl ?_
  refine lv_topl (fun y101 ey101 => ?_)
  have ty101 := zi_i2l ey101
  have := zi_rng p1
  refine lv_lconst (v := 0) hx hb dX12_image_2 (by decide +kernel) ?_
  refine W.ldc2 (v := 3) hx hb hown (hts _ (List.mem_cons_of_mem _ zCX12_386)) rfl dX12_image_3 ?_
  refine W.eq (g2 := F0 m 6 ls [.long (3 : Int64), .long (0 : Int64), .long y101]) rfl ?_
  refine zq_pcalli (zq_rS (As := [.long y101, .long (0 : Int64), .long (3 : Int64)]) (rest := []) E hZ hM (c_X12_in l X zk (zk) I L y101 (0 : Int64) (3 : Int64)) zmX12_112 zM_X12_in (hro (0) 6 (by first | decide | omega) (by decide)) hl.1 rfl rfl (Nat.le_of_ble_eq_true rfl) dX12_image_6) hS (fun x103 H locs h102 hM hS => ?_)
  obtain ⟨p104, p105⟩ := h102
  have : (0 : Int64).toInt = 0 := by decide +kernel
  have : (3 : Int64).toInt = 3 := by decide +kernel
  refine lv_if_ne (tgt := 14) hx hb dX12_image_9 (by decide) (fun b106 => ?_) (fun b106 => ?_)
  · have b106 := zi_ne b106 (rfl : x103.toInt = x103.toInt) (zl_0 : (0 : Int32).toInt = 0)
    refine lv_aload_n hx hb dX12_image_14 rfl (lv_at hl 0 rfl) ?_
    refine zq_getr E hM k_h0 (zFX12_71 E hZ) ⟨by decide, by decide, by decide, rfl⟩ dX12_image_15 ?_
    have k107 : zq_k X (zq_r X h0 33) = 67 := zq_lk L.1 k_h0 rfl (by decide)
    refine lv_iload_n hx hb dX12_image_18 rfl (lv_at hl 1 rfl) ?_
    refine lv_iconst (v := 1) hx hb dX12_image_19 (by decide +kernel) ?_
    refine zq_zsn (n := 4) (j := (p1.toNatClampNeg)) E hZ hM hS k107 ⟨by decide, rfl⟩ ⟨by omega, by omega⟩ rfl (show 0 ≤ (1 : Int32).toInt ∧ (1 : Int32).toInt ≤ 1 by decide +kernel) rfl dX12_image_20 (fun I108 H locs eI108 hM hS => ?_)
    have hR := zq_fr.putE hR eI108 (zf_ia k107 (by decide) rfl)
    have hM21 : I108 (zq_r X h0 33) p1.toNatClampNeg = 1 ∧ (∀ i, i ≠ p1.toNatClampNeg → I108 (zq_r X h0 33) i = I (zq_r X h0 33) i) := ⟨zq_kv eI108, fun i hi => zq_kp eI108 (Or.inr hi) rfl⟩
    refine lv_aload_n hx hb dX12_image_21 rfl (lv_at hl 0 rfl) ?_
    refine zq_getr E hM k_h0 (zFX12_65 E hZ) ⟨by decide, by decide, by decide, rfl⟩ dX12_image_22 ?_
    have k109 : zq_k X (zq_r X h0 31) = 65 := zq_lk L.1 k_h0 rfl (by decide)
    refine lv_iload_n hx hb dX12_image_25 rfl (lv_at hl 1 rfl) ?_
    refine lv_aload_n hx hb dX12_image_26 rfl (lv_at hl 0 rfl) ?_
    refine W.eq (g2 := F0 m 27 ls [.ref h0, .int p1, .ref (zq_r X h0 31)]) rfl ?_
    refine zq_gn E hM k_h0 (zFX12_42 E hZ) (Or.inl ⟨by decide, by decide, by decide, rfl⟩) dX12_image_27 (fun x110 ex110 gx110 => ?_)
    replace gx110 : (-1) ≤ x110.toInt ∧ x110.toInt ≤ 5 := gx110
    refine zq_isn (n := 4) (j := (p1.toNatClampNeg)) E hZ hM hS k109 ⟨by decide, rfl⟩ ⟨by omega, by omega⟩ rfl (show (-1) ≤ x110.toInt ∧ x110.toInt ≤ 5 from ⟨by omega, by omega⟩) dX12_image_30 (fun I111 H locs eI111 hM hS => ?_)
    have hR := zq_fr.putE hR eI111 (zf_ia k109 (by decide) rfl)
    have hO112 : I111 (zq_r X h0 33) p1.toNatClampNeg = 1 ∧ (∀ i, i ≠ p1.toNatClampNeg → I111 (zq_r X h0 33) i = I (zq_r X h0 33) i) := by have e9 : ∀ j, I111 (zq_r X h0 33) j = _ := fun j => zq_kp eI111 (Or.inl (zq_kne (zq_lk L.1 k_h0 rfl (by decide) : zq_k X (zq_r X h0 33) = 67) k109 (by decide))) rfl; simp only [e9]; exact hM21
    refine lv_aload_n hx hb dX12_image_31 rfl (lv_at hl 0 rfl) ?_
    refine zq_getr E hM k_h0 (zFX12_68 E hZ) ⟨by decide, by decide, by decide, rfl⟩ dX12_image_32 ?_
    have k113 : zq_k X (zq_r X h0 32) = 66 := zq_lk L.1 k_h0 rfl (by decide)
    refine lv_iload_n hx hb dX12_image_35 rfl (lv_at hl 1 rfl) ?_
    refine lv_aload_n hx hb dX12_image_36 rfl (lv_at hl 0 rfl) ?_
    refine zq_gn E hM k_h0 (zFX12_439 E hZ) (Or.inl ⟨by decide, by decide, by decide, rfl⟩) dX12_image_37 (fun x114 ex114 gx114 => ?_)
    clear gx114
    refine zq_isn (n := 4) (j := (p1.toNatClampNeg)) E hZ hM hS k113 ⟨by decide, rfl⟩ ⟨by omega, by omega⟩ rfl (zq_any _) dX12_image_40 (fun I115 H locs eI115 hM hS => ?_)
    have hR := zq_fr.putE hR eI115 (zf_ia k113 (by decide) rfl)
    have hO116 : I115 (zq_r X h0 33) p1.toNatClampNeg = 1 ∧ (∀ i, i ≠ p1.toNatClampNeg → I115 (zq_r X h0 33) i = I (zq_r X h0 33) i) := by have e9 : ∀ j, I115 (zq_r X h0 33) j = _ := fun j => zq_kp eI115 (Or.inl (zq_kne (zq_lk L.1 k_h0 rfl (by decide) : zq_k X (zq_r X h0 33) = 67) k113 (by decide))) rfl; simp only [e9]; exact hO112
    have hX41 : I115 (zq_r X h0 32) p1.toNatClampNeg = I h0 22 ∧ (∀ i, i ≠ p1.toNatClampNeg → I115 (zq_r X h0 32) i = I (zq_r X h0 32) i) := ⟨(zq_kv eI115).trans ((zq_kb eI108 (Or.inl (zq_kne k_h0 k107 (by decide))) (zq_kb eI111 (Or.inl (zq_kne k_h0 k109 (by decide))) (zq_kb eI115 (Or.inl (zq_kne k_h0 k113 (by decide))) (zq_kp eI115 (Or.inl (zq_kne k_h0 k113 (by decide))) ex114))))).symm, fun i hi => zq_kp eI115 (Or.inr hi) (zq_kp eI111 (Or.inl (zq_kne (zq_lk L.1 k_h0 rfl (by decide) : zq_k X (zq_r X h0 32) = 66) k109 (by decide))) (zq_kp eI108 (Or.inl (zq_kne (zq_lk L.1 k_h0 rfl (by decide) : zq_k X (zq_r X h0 32) = 66) k107 (by decide))) rfl))⟩
    refine lv_iconst (v := 0) hx hb dX12_image_41 (by decide +kernel) ?_
    refine lv_istore_n (lv' := [(2, .int (0 : Int32)), (0, .ref h0), (1, .int p1)]) hx hb dX12_image_42 rfl hl (by decide) rfl (fun ls hl => ?_)
    have J43 : ∀ (n177 : Nat) (I174 : zq_M) (H : Heap) (locs : List Loc) (ls : Array Slot) (j173 : Int32), 106 + 1 - j173.toInt ≤ ((n177 : Nat) : Int) → (zq_hm X (zk, zk) I174 H) → (va_S (zq_A X) s.heap H locs) → (zq_fr (zf X zw_X12_image (fun _ => False)) I I174) → (0 ≤ j173.toInt ∧ j173.toInt ≤ 106) → (I174 (zq_r X h0 33) p1.toNatClampNeg = 1 ∧ (∀ i, i ≠ p1.toNatClampNeg → I174 (zq_r X h0 33) i = I (zq_r X h0 33) i)) → (I174 (zq_r X h0 32) p1.toNatClampNeg = I h0 22 ∧ (∀ i, i ≠ p1.toNatClampNeg → I174 (zq_r X h0 32) i = I (zq_r X h0 32) i)) → (lv_has ls 3 [(2, .int j173), (0, .ref h0), (1, .int p1)]) → W p l e R s m args below meth c H locs 0 0 Q (F0 m 43 ls []) := by
      intro n177
      induction n177 with
      | zero => intro I174 H locs ls j173 mu178 hM hS hR gj173 F175 F176 hl; exfalso; have := zi_rng j173; omega
      | succ n177 ih43 =>
        intro I174 H locs ls j173 mu178 hM hS hR gj173 F175 F176 hl
        refine lv_iload_n hx hb dX12_image_43 rfl (lv_at hl 0 rfl) ?_
        refine lv_bipush (v := 106) hx hb dX12_image_44 (by decide +kernel) ?_
        refine lv_icmp_ge (tgt := 72) hx hb dX12_image_46 (by decide) (fun b179 => ?_) (fun b179 => ?_)
        · have b179 := zi_le b179 (zl_106 : (106 : Int32).toInt = 106) (rfl : j173.toInt = j173.toInt)
          refine lv_aload_n hx hb dX12_image_72 rfl (lv_at hl 1 rfl) ?_
          refine zq_getr E hM k_h0 (zFX12_39 E hZ) ⟨by decide, by decide, by decide, rfl⟩ dX12_image_73 ?_
          have k180 : zq_k X (zq_r X h0 20) = 59 := zq_lk L.1 k_h0 rfl (by decide)
          refine lv_bipush (v := 12) hx hb dX12_image_76 (by decide +kernel) ?_
          refine zq_ian (n := 106) (j := 12) E hZ hM k180 ⟨by decide, rfl⟩ (by rw [zl_12]; decide) (by decide +kernel) dX12_image_78 (fun x181 ex181 gx181 => ?_)
          replace gx181 : 0 ≤ x181.toInt ∧ x181.toInt ≤ ((zk : Nat) : Int) := gx181
          subst hQ
          exact zq_iret E hr hZ hM hS ⟨hR, (Or.inr ⟨by omega, by omega, F176, F175⟩), (by omega)⟩ hlocks dX12_image_79
        · have b179 := zi_nle b179 (zl_106 : (106 : Int32).toInt = 106) (rfl : j173.toInt = j173.toInt)
          refine lv_aload_n hx hb dX12_image_49 rfl (lv_at hl 1 rfl) ?_
          refine zq_getr E hM k_h0 (zFX12_62 E hZ) ⟨by decide, by decide, by decide, rfl⟩ dX12_image_50 ?_
          have k182 : zq_k X (zq_r X h0 30) = 64 := zq_lk L.1 k_h0 rfl (by decide)
          refine lv_bipush (v := 106) hx hb dX12_image_53 (by decide +kernel) ?_
          refine lv_iload_n hx hb dX12_image_55 rfl (lv_at hl 2 rfl) ?_
          refine lv_imul hx hb dX12_image_56 ?_
          refine lv_topi (fun x183 ex183 => ?_)
          have tx183 := zi_mul ex183 (zl_106 : (106 : Int32).toInt = 106) (rfl : p1.toInt = p1.toInt) ⟨by omega, by omega⟩
          refine lv_iload_n hx hb dX12_image_57 rfl (lv_at hl 0 rfl) ?_
          refine lv_iadd hx hb dX12_image_58 ?_
          refine lv_topi (fun x184 ex184 => ?_)
          have tx184 := zi_add ex184 (rfl : x183.toInt = x183.toInt) (rfl : j173.toInt = j173.toInt) ⟨by omega, by omega⟩
          refine lv_aload_n hx hb dX12_image_59 rfl (lv_at hl 1 rfl) ?_
          refine zq_getr E hM k_h0 (zFX12_39 E hZ) ⟨by decide, by decide, by decide, rfl⟩ dX12_image_60 ?_
          have k185 : zq_k X (zq_r X h0 20) = 59 := zq_lk L.1 k_h0 rfl (by decide)
          refine W.eq (g2 := F0 m 63 ls [.ref (zq_r X h0 20), .int x184, .ref (zq_r X h0 30)]) rfl ?_
          refine lv_iload_n hx hb dX12_image_63 rfl (lv_at hl 0 rfl) ?_
          refine zq_ian (n := 106) (j := (j173.toNatClampNeg)) E hZ hM k185 ⟨by decide, rfl⟩ ⟨by omega, by omega⟩ rfl dX12_image_64 (fun x186 ex186 gx186 => ?_)
          refine zq_isn (n := 424) (j := (x184.toNatClampNeg)) E hZ hM hS k182 ⟨by decide, rfl⟩ ⟨by omega, by omega⟩ rfl (zk_f gx186 (by have := zq_cl (i := x184) (by omega); have := zq_cl (i := j173) (by omega); omega) (by omega)) dX12_image_65 (fun I187 H locs eI187 hM hS => ?_)
          have hR := zq_fr.putE hR eI187 (zf_ia k182 (by decide) rfl)
          have hO188 : I187 (zq_r X h0 33) p1.toNatClampNeg = 1 ∧ (∀ i, i ≠ p1.toNatClampNeg → I187 (zq_r X h0 33) i = I (zq_r X h0 33) i) := by have e9 : ∀ j, I187 (zq_r X h0 33) j = _ := fun j => zq_kp eI187 (Or.inl (zq_kne (zq_lk L.1 k_h0 rfl (by decide) : zq_k X (zq_r X h0 33) = 67) k182 (by decide))) rfl; simp only [e9]; exact F175
          have hO189 : I187 (zq_r X h0 32) p1.toNatClampNeg = I h0 22 ∧ (∀ i, i ≠ p1.toNatClampNeg → I187 (zq_r X h0 32) i = I (zq_r X h0 32) i) := by have e9 : ∀ j, I187 (zq_r X h0 32) j = _ := fun j => zq_kp eI187 (Or.inl (zq_kne (zq_lk L.1 k_h0 rfl (by decide) : zq_k X (zq_r X h0 32) = 66) k182 (by decide))) rfl; simp only [e9]; exact F176
          obtain ⟨x190, ex190⟩ : ∃ y : Int32, y = j173 + 1 := ⟨_, rfl⟩
          have tx190 := zi_add ex190 (rfl : j173.toInt = j173.toInt) zl_1 ⟨by omega, by omega⟩
          refine lv_iinc (v := x190) (lv' := [(2, .int x190), (0, .ref h0), (1, .int p1)]) hx hb dX12_image_66 hl (k := 0) rfl (by rw [ex190]; rfl) (by decide) rfl (fun ls hl => ?_)
          refine lv_goto (tgt := 43) hx hb dX12_image_69 (by decide) ?_
          exact ih43 I187 H locs ls x190 (by omega) hM hS hR (⟨by omega, by omega⟩) hO188 hO189 (lv_sub hl [0, 1, 2] rfl)
    exact J43 (106 + 1 - (0 : Int32).toInt).toNat I115 H locs ls (0 : Int32) (by omega) hM hS hR (by rw [zl_0]; decide) hO116 hX41 (lv_sub hl [0, 1, 2] rfl)
  · have b106 := zi_eq b106 (rfl : x103.toInt = x103.toInt) (zl_0 : (0 : Int32).toInt = 0)
    refine lv_iconst (v := (-1)) hx hb dX12_image_12 (by decide +kernel) ?_
    subst hQ
    exact zq_iret E hr hZ hM hS ⟨hR, (Or.inl ⟨by omega, fun _ => rfl, fun _ => rfl⟩), (by have := zl_m1; omega)⟩ hlocks dX12_image_13
def zw_X12_back : List (Nat × Nat) := [(10, 21), (10, 22), (10, 25), (59, 999)]
set_option maxHeartbeats 8000000 in
set_option maxRecDepth 100000 in
theorem c_X12_back (l : Launch) (X : zq_X) (zk zn : Nat) (I : zq_M) (L : zq_L X)  (h0 : Nat) (k_h0 : zq_k X h0 = 10) (p1 : Int32) (q_0 : zk ≤ 4400 ∧ zn ≤ 4400) : Met l yX12_back (zt_w yX12_back cX12_back 3 (some .int)) (zq_rm (1)) (va_Pc [.ref h0, .int p1] (zq_W X (zk, zk) I)) (va_Qi (fun (r : Int32) I2 => zq_fr (zf X zw_X12_back (fun _ => False)) I I2 ∧ ((I2 h0 22 = I h0 22 ∧ ((p1.toInt < 0 ∨ 3 < p1.toInt) ∨ (I (zq_r X h0 33) p1.toNatClampNeg).toInt = 0)) ∨ (0 ≤ p1.toInt ∧ p1.toInt ≤ 3 ∧ ¬ (I (zq_r X h0 33) p1.toNatClampNeg).toInt = 0 ∧ I2 h0 22 = I (zq_r X h0 32) p1.toNatClampNeg)) ∧ ((-1) ≤ r.toInt ∧ r.toInt ≤ 4500)) (zq_E X (zk, zk)) (zq_A X)) 0 0 (zq_A X) := by
  refine Met.ofW (cc := cX12_back) (maxL := 3) (ret := (some .int)) (by decide) rfl ?_
  intro p e s m args below meth c s₁ B hml hv
  obtain ⟨hargs, hM, hZ⟩ := hv
  have hown : s.vm.findClass RX12 = some m.cls := findClass_of_methodNamed B.named
  have hts := atoms_spec (ws := zt_w yX12_back cX12_back 3 (some .int)) B.pre
  have E : CallFix p m c cX12_back 3 s args (Cond.code yX12_back cX12_back 3 (some .int) :: zt) RX12 := ⟨B.exec, B.bytes, hml, hown, hts⟩
  have hx := B.exec
  have hb := B.bytes
  have hr := B.returns
  have hlocks := B.notSynchronized
  clear B
  have hS : va_S (zq_A X) s.heap s.heap [] := va_S.rf
  have hR : zq_fr (zf X zw_X12_back (fun _ => False)) I I := zq_fr.rf
  have hl := lv_entry ([.ref h0, .int p1]) (n := 3) (by exact Nat.le_of_ble_eq_true rfl)
  have hg : entryFrame m args 3 = F0 m 0 ((lg_sl ([.ref h0, .int p1]) ++ List.replicate (3 - (lg_sl ([.ref h0, .int p1])).length) Slot.unset).toArray) [] := by rw [hargs]; exact lg_entry_eq m ([.ref h0, .int p1]) 3
  rw [hg]
  clear hg hargs
  generalize (lg_sl ([.ref h0, .int p1]) ++ List.replicate (3 - (lg_sl ([.ref h0, .int p1])).length) Slot.unset).toArray = ls at hl ⊢
  have hl : lv_has ls 3 [(0, .ref h0), (1, .int p1)] := by exact hl
  obtain ⟨R, hRm⟩ : ∃ R : Room, R = (headSpec (zt_w yX12_back cX12_back 3 (some .int)) (zq_rm (1))).room := ⟨_, rfl⟩
  rw [← hRm]
  have hro : ∀ d q : Nat, d + 1 ≤ 1 → q ≤ 45 → zq_rok d q R := fun d q h1 h2 => by rw [hRm]; exact zq_rokI h1 h2
  generalize hQ : MQ below _ args s 0 0 (zq_A X) = Q
  obtain ⟨H, hH⟩ : ∃ H, H = s.heap := ⟨_, rfl⟩
  obtain ⟨locs, hlo⟩ : ∃ x : List Loc, x = [] := ⟨_, rfl⟩
  rw [show W p l e R s m args below meth c s.heap [] 0 0 Q = W p l e R s m args below meth c H locs 0 0 Q by rw [hH, hlo]]
  have hM : zq_hm X (zk, zk) I H := by rw [hH]; exact hM
  have hS : va_S (zq_A X) s.heap H locs := by rw [hH, hlo]; exact hS
  clear hH hlo
  refine lv_iload_n hx hb dX12_back_0 rfl (lv_at hl 1 rfl) ?_
  refine lv_i2l hx hb dX12_back_1 rfl ?_
  refine lv_topl (fun y101 ey101 => ?_)
  have ty101 := zi_i2l ey101
  have := zi_rng p1
  refine lv_lconst (v := 0) hx hb dX12_back_2 (by decide +kernel) ?_
  refine W.ldc2 (v := 3) hx hb hown (hts _ (List.mem_cons_of_mem _ zCX12_386)) rfl dX12_back_3 ?_
  refine W.eq (g2 := F0 m 6 ls [.long (3 : Int64), .long (0 : Int64), .long y101]) rfl ?_
  refine zq_pcalli (zq_rS (As := [.long y101, .long (0 : Int64), .long (3 : Int64)]) (rest := []) E hZ hM (c_X12_in l X zk (zk) I L y101 (0 : Int64) (3 : Int64)) zmX12_112 zM_X12_in (hro (0) 6 (by first | decide | omega) (by decide)) hl.1 rfl rfl (Nat.le_of_ble_eq_true rfl) dX12_back_6) hS (fun x103 H locs h102 hM hS => ?_)
  obtain ⟨p104, p105⟩ := h102
  have : (0 : Int64).toInt = 0 := by decide +kernel
  have : (3 : Int64).toInt = 3 := by decide +kernel
  refine lv_if_eq (tgt := 21) hx hb dX12_back_9 (by decide) (fun b106 => ?_) (fun b106 => ?_)
  · have b106 := zi_eq b106 (rfl : x103.toInt = x103.toInt) (zl_0 : (0 : Int32).toInt = 0)
    refine lv_iconst (v := (-1)) hx hb dX12_back_21 (by decide +kernel) ?_
    subst hQ
    exact zq_iret E hr hZ hM hS ⟨hR, (Or.inl ⟨rfl, Or.inl (by omega)⟩), (by have := zl_m1; omega)⟩ hlocks dX12_back_22
  · have b106 := zi_ne b106 (rfl : x103.toInt = x103.toInt) (zl_0 : (0 : Int32).toInt = 0)
    refine lv_aload_n hx hb dX12_back_12 rfl (lv_at hl 0 rfl) ?_
    refine zq_getr E hM k_h0 (zFX12_71 E hZ) ⟨by decide, by decide, by decide, rfl⟩ dX12_back_13 ?_
    have k107 : zq_k X (zq_r X h0 33) = 67 := zq_lk L.1 k_h0 rfl (by decide)
    refine lv_iload_n hx hb dX12_back_16 rfl (lv_at hl 1 rfl) ?_
    refine zq_zan (n := 4) (j := (p1.toNatClampNeg)) E hZ hM k107 ⟨by decide, rfl⟩ ⟨by omega, by omega⟩ rfl dX12_back_17 (fun x108 ex108 gx108 => ?_)
    replace gx108 : 0 ≤ x108.toInt ∧ x108.toInt ≤ 1 := gx108
    refine lv_if_ne (tgt := 23) hx hb dX12_back_18 (by decide) (fun b109 => ?_) (fun b109 => ?_)
    · have b109 := zi_ne b109 (rfl : x108.toInt = x108.toInt) (zl_0 : (0 : Int32).toInt = 0)
      refine lv_aload_n hx hb dX12_back_23 rfl (lv_at hl 0 rfl) ?_
      refine lv_aload_n hx hb dX12_back_24 rfl (lv_at hl 0 rfl) ?_
      refine zq_getr E hM k_h0 (zFX12_65 E hZ) ⟨by decide, by decide, by decide, rfl⟩ dX12_back_25 ?_
      have k110 : zq_k X (zq_r X h0 31) = 65 := zq_lk L.1 k_h0 rfl (by decide)
      refine lv_iload_n hx hb dX12_back_28 rfl (lv_at hl 1 rfl) ?_
      refine zq_ian (n := 4) (j := (p1.toNatClampNeg)) E hZ hM k110 ⟨by decide, rfl⟩ ⟨by omega, by omega⟩ rfl dX12_back_29 (fun x111 ex111 gx111 => ?_)
      replace gx111 : (-1) ≤ x111.toInt ∧ x111.toInt ≤ 5 := gx111
      refine zq_pn E hM hS k_h0 (zGX12_42 E hZ) ⟨by decide, by decide, by decide, rfl⟩ (show (-1) ≤ x111.toInt ∧ x111.toInt ≤ 5 from ⟨by omega, by omega⟩) dX12_back_30 (fun I112 H locs eI112 hM hS => ?_)
      have hR := zq_fr.putE hR eI112 (zf_i k_h0 rfl rfl)
      refine lv_aload_n hx hb dX12_back_33 rfl (lv_at hl 0 rfl) ?_
      refine lv_aload_n hx hb dX12_back_34 rfl (lv_at hl 0 rfl) ?_
      refine zq_getr E hM k_h0 (zFX12_68 E hZ) ⟨by decide, by decide, by decide, rfl⟩ dX12_back_35 ?_
      have k113 : zq_k X (zq_r X h0 32) = 66 := zq_lk L.1 k_h0 rfl (by decide)
      refine W.eq (g2 := F0 m 38 ls [.ref (zq_r X h0 32), .ref h0]) rfl ?_
      refine lv_iload_n hx hb dX12_back_38 rfl (lv_at hl 1 rfl) ?_
      refine zq_ian (n := 4) (j := (p1.toNatClampNeg)) E hZ hM k113 ⟨by decide, rfl⟩ ⟨by omega, by omega⟩ rfl dX12_back_39 (fun x114 ex114 gx114 => ?_)
      clear gx114
      refine zq_pn E hM hS k_h0 (zGX12_439 E hZ) ⟨by decide, by decide, by decide, rfl⟩ (zq_any _) dX12_back_40 (fun I115 H locs eI115 hM hS => ?_)
      have hR := zq_fr.putE hR eI115 (zf_i k_h0 rfl rfl)
      refine lv_aload_n hx hb dX12_back_43 rfl (lv_at hl 0 rfl) ?_
      refine lv_iconst (v := 0) hx hb dX12_back_44 (by decide +kernel) ?_
      refine zq_pn E hM hS k_h0 (zGX12_263 E hZ) ⟨by decide, by decide, by decide, rfl⟩ (show 0 ≤ (0 : Int32).toInt ∧ (0 : Int32).toInt ≤ 20 by decide +kernel) dX12_back_45 (fun I116 H locs eI116 hM hS => ?_)
      have hR := zq_fr.putE hR eI116 (zf_i k_h0 rfl rfl)
      have hX48 : I116 h0 22 = I (zq_r X h0 32) p1.toNatClampNeg := ((zq_kp eI116 (Or.inr (by decide)) (zq_kv eI115))).trans ((zq_kb eI112 (Or.inl (zq_kne (zq_lk L.1 k_h0 rfl (by decide) : zq_k X (zq_r X h0 32) = 66) k_h0 (by decide))) ex114)).symm
      refine lv_iconst (v := 0) hx hb dX12_back_48 (by decide +kernel) ?_
      refine lv_istore_n (lv' := [(2, .int (0 : Int32)), (0, .ref h0), (1, .int p1)]) hx hb dX12_back_49 rfl hl (by decide) rfl (fun ls hl => ?_)
      have J50 : ∀ (n168 : Nat) (I166 : zq_M) (H : Heap) (locs : List Loc) (ls : Array Slot) (j165 : Int32), 106 + 1 - j165.toInt ≤ ((n168 : Nat) : Int) → (zq_hm X (zk, zk) I166 H) → (va_S (zq_A X) s.heap H locs) → (zq_fr (zf X zw_X12_back (fun _ => False)) I I166) → (0 ≤ j165.toInt ∧ j165.toInt ≤ 106) → (I166 h0 22 = I (zq_r X h0 32) p1.toNatClampNeg) → (lv_has ls 3 [(2, .int j165), (0, .ref h0), (1, .int p1)]) → W p l e R s m args below meth c H locs 0 0 Q (F0 m 50 ls []) := by
        intro n168
        induction n168 with
        | zero => intro I166 H locs ls j165 mu169 hM hS hR gj165 F167 hl; exfalso; have := zi_rng j165; omega
        | succ n168 ih50 =>
          intro I166 H locs ls j165 mu169 hM hS hR gj165 F167 hl
          refine lv_iload_n hx hb dX12_back_50 rfl (lv_at hl 0 rfl) ?_
          refine lv_bipush (v := 106) hx hb dX12_back_51 (by decide +kernel) ?_
          refine lv_icmp_ge (tgt := 79) hx hb dX12_back_53 (by decide) (fun b170 => ?_) (fun b170 => ?_)
          · have b170 := zi_le b170 (zl_106 : (106 : Int32).toInt = 106) (rfl : j165.toInt = j165.toInt)
            refine lv_aload_n hx hb dX12_back_79 rfl (lv_at hl 1 rfl) ?_
            refine zq_getr E hM k_h0 (zFX12_39 E hZ) ⟨by decide, by decide, by decide, rfl⟩ dX12_back_80 ?_
            have k171 : zq_k X (zq_r X h0 20) = 59 := zq_lk L.1 k_h0 rfl (by decide)
            refine lv_bipush (v := 12) hx hb dX12_back_83 (by decide +kernel) ?_
            refine zq_ian (n := 106) (j := 12) E hZ hM k171 ⟨by decide, rfl⟩ (by rw [zl_12]; decide) (by decide +kernel) dX12_back_85 (fun x172 ex172 gx172 => ?_)
            replace gx172 : 0 ≤ x172.toInt ∧ x172.toInt ≤ ((zk : Nat) : Int) := gx172
            subst hQ
            exact zq_iret E hr hZ hM hS ⟨hR, (Or.inr ⟨by omega, by omega, by rw [ex108]; omega, F167⟩), (by omega)⟩ hlocks dX12_back_86
          · have b170 := zi_nle b170 (zl_106 : (106 : Int32).toInt = 106) (rfl : j165.toInt = j165.toInt)
            refine lv_aload_n hx hb dX12_back_56 rfl (lv_at hl 1 rfl) ?_
            refine zq_getr E hM k_h0 (zFX12_39 E hZ) ⟨by decide, by decide, by decide, rfl⟩ dX12_back_57 ?_
            have k173 : zq_k X (zq_r X h0 20) = 59 := zq_lk L.1 k_h0 rfl (by decide)
            refine lv_iload_n hx hb dX12_back_60 rfl (lv_at hl 0 rfl) ?_
            refine lv_aload_n hx hb dX12_back_61 rfl (lv_at hl 1 rfl) ?_
            refine zq_getr E hM k_h0 (zFX12_62 E hZ) ⟨by decide, by decide, by decide, rfl⟩ dX12_back_62 ?_
            have k174 : zq_k X (zq_r X h0 30) = 64 := zq_lk L.1 k_h0 rfl (by decide)
            refine lv_bipush (v := 106) hx hb dX12_back_65 (by decide +kernel) ?_
            refine lv_iload_n hx hb dX12_back_67 rfl (lv_at hl 2 rfl) ?_
            refine lv_imul hx hb dX12_back_68 ?_
            refine lv_topi (fun x175 ex175 => ?_)
            have tx175 := zi_mul ex175 (zl_106 : (106 : Int32).toInt = 106) (rfl : p1.toInt = p1.toInt) ⟨by omega, by omega⟩
            refine lv_iload_n hx hb dX12_back_69 rfl (lv_at hl 0 rfl) ?_
            refine W.eq (g2 := F0 m 70 ls [.int j165, .int x175, .ref (zq_r X h0 30), .int j165, .ref (zq_r X h0 20)]) rfl ?_
            refine lv_iadd hx hb dX12_back_70 ?_
            refine lv_topi (fun x176 ex176 => ?_)
            have tx176 := zi_add ex176 (rfl : x175.toInt = x175.toInt) (rfl : j165.toInt = j165.toInt) ⟨by omega, by omega⟩
            refine zq_ian (n := 424) (j := (x176.toNatClampNeg)) E hZ hM k174 ⟨by decide, rfl⟩ ⟨by omega, by omega⟩ rfl dX12_back_71 (fun x177 ex177 gx177 => ?_)
            refine zq_isn (n := 106) (j := (j165.toNatClampNeg)) E hZ hM hS k173 ⟨by decide, rfl⟩ ⟨by omega, by omega⟩ rfl (zk_g gx177 (by have := zq_cl (i := j165) (by omega); have := zq_cl (i := x176) (by omega); omega) (by omega)) dX12_back_72 (fun I178 H locs eI178 hM hS => ?_)
            have hR := zq_fr.putE hR eI178 (zf_ia k173 (by decide) rfl)
            have hK179 := (zq_kp eI178 (Or.inl (zq_kne k_h0 k173 (by decide))) F167)
            obtain ⟨x180, ex180⟩ : ∃ y : Int32, y = j165 + 1 := ⟨_, rfl⟩
            have tx180 := zi_add ex180 (rfl : j165.toInt = j165.toInt) zl_1 ⟨by omega, by omega⟩
            refine lv_iinc (v := x180) (lv' := [(2, .int x180), (0, .ref h0), (1, .int p1)]) hx hb dX12_back_73 hl (k := 0) rfl (by rw [ex180]; rfl) (by decide) rfl (fun ls hl => ?_)
            refine lv_goto (tgt := 50) hx hb dX12_back_76 (by decide) ?_
            exact ih50 I178 H locs ls x180 (by omega) hM hS hR (⟨by omega, by omega⟩) hK179 (lv_sub hl [0, 1, 2] rfl)
      exact J50 (106 + 1 - (0 : Int32).toInt).toNat I116 H locs ls (0 : Int32) (by omega) hM hS hR (by rw [zl_0]; decide) hX48 (lv_sub hl [0, 1, 2] rfl)
    · have b109 := zi_eq b109 (rfl : x108.toInt = x108.toInt) (zl_0 : (0 : Int32).toInt = 0)
      refine lv_iconst (v := (-1)) hx hb dX12_back_21 (by decide +kernel) ?_
      subst hQ
      exact zq_iret E hr hZ hM hS ⟨hR, (Or.inl ⟨rfl, Or.inr (by rw [ex108]; omega)⟩), (by have := zl_m1; omega)⟩ hlocks dX12_back_22
def zw_X12_four : List (Nat × Nat) := [(10, 1), (50, 999)]
set_option maxHeartbeats 8000000 in
set_option maxRecDepth 100000 in
theorem c_X12_four (l : Launch) (X : zq_X) (zk zn : Nat) (I : zq_M) (L : zq_L X)  (h0 : Nat) (k_h0 : zq_k X h0 = 10) (p1 : Int32) (q_0 : zk ≤ 4400 ∧ zn ≤ 4400) (q_1 : (I h0 1).toInt ≤ 396) : Met l yX12_four (zt_w yX12_four cX12_four 3 none) (zq_rm (0)) (va_Pc [.ref h0, .int p1] (zq_W X (zk, zn) I)) (va_Qv (fun I2 => zq_fr (zf X zw_X12_four (fun _ => False)) I I2 ∧ ((I2 h0 1).toInt = (I h0 1).toInt + 4)) (zq_E X (zk, zn)) (zq_A X)) 0 0 (zq_A X) := by
  refine Met.ofW (cc := cX12_four) (maxL := 3) (ret := none) (by decide) rfl ?_
  intro p e s m args below meth c s₁ B hml hv
  obtain ⟨hargs, hM, hZ⟩ := hv
  have hown : s.vm.findClass RX12 = some m.cls := findClass_of_methodNamed B.named
  have hts := atoms_spec (ws := zt_w yX12_four cX12_four 3 none) B.pre
  have E : CallFix p m c cX12_four 3 s args (Cond.code yX12_four cX12_four 3 none :: zt) RX12 := ⟨B.exec, B.bytes, hml, hown, hts⟩
  have hx := B.exec
  have hb := B.bytes
  have hr := B.returns
  have hlocks := B.notSynchronized
  clear B
  have hS : va_S (zq_A X) s.heap s.heap [] := va_S.rf
  have hR : zq_fr (zf X zw_X12_four (fun _ => False)) I I := zq_fr.rf
  have hl := lv_entry ([.ref h0, .int p1]) (n := 3) (by exact Nat.le_of_ble_eq_true rfl)
  have hg : entryFrame m args 3 = F0 m 0 ((lg_sl ([.ref h0, .int p1]) ++ List.replicate (3 - (lg_sl ([.ref h0, .int p1])).length) Slot.unset).toArray) [] := by rw [hargs]; exact lg_entry_eq m ([.ref h0, .int p1]) 3
  rw [hg]
  clear hg hargs
  generalize (lg_sl ([.ref h0, .int p1]) ++ List.replicate (3 - (lg_sl ([.ref h0, .int p1])).length) Slot.unset).toArray = ls at hl ⊢
  have hl : lv_has ls 3 [(0, .ref h0), (1, .int p1)] := by exact hl
  obtain ⟨R, hRm⟩ : ∃ R : Room, R = (headSpec (zt_w yX12_four cX12_four 3 none) (zq_rm (0))).room := ⟨_, rfl⟩
  rw [← hRm]
  generalize hQ : MQ below _ args s 0 0 (zq_A X) = Q
  obtain ⟨H, hH⟩ : ∃ H, H = s.heap := ⟨_, rfl⟩
  obtain ⟨locs, hlo⟩ : ∃ x : List Loc, x = [] := ⟨_, rfl⟩
  rw [show W p l e R s m args below meth c s.heap [] 0 0 Q = W p l e R s m args below meth c H locs 0 0 Q by rw [hH, hlo]]
  have hM : zq_hm X (zk, zn) I H := by rw [hH]; exact hM
  have hS : va_S (zq_A X) s.heap H locs := by rw [hH, hlo]; exact hS
  clear hH hlo
  refine lv_bipush (v := 24) hx hb dX12_four_0 (by decide +kernel) ?_
  refine lv_istore_n (lv' := [(2, .int (24 : Int32)), (0, .ref h0), (1, .int p1)]) hx hb dX12_four_2 rfl hl (by decide) rfl (fun ls hl => ?_)
  have J3 : ∀ (n147 : Nat) (I146 : zq_M) (H : Heap) (locs : List Loc) (ls : Array Slot) (j145 : Int32), j145.toInt + 1 - (-8) ≤ ((n147 : Nat) : Int) → (zq_hm X (zk, zn) I146 H) → (va_S (zq_A X) s.heap H locs) → (zq_fr (zf X zw_X12_four (fun _ => False)) I I146) → ((-8) ≤ j145.toInt ∧ j145.toInt ≤ 24) → (8 * (I146 h0 1).toInt + j145.toInt = 8 * (I h0 1).toInt + 24 ∧ j145.toInt % 8 = 0) → (lv_has ls 3 [(2, .int j145), (0, .ref h0), (1, .int p1)]) → W p l e R s m args below meth c H locs 0 0 Q (F0 m 3 ls []) := by
    intro n147
    induction n147 with
    | zero => intro I146 H locs ls j145 mu148 hM hS hR gj145 hf3 hl; exfalso; have := zi_rng j145; omega
    | succ n147 ih3 =>
      intro I146 H locs ls j145 mu148 hM hS hR gj145 hf3 hl
      refine lv_iload_n hx hb dX12_four_3 rfl (lv_at hl 0 rfl) ?_
      refine lv_if_lt (tgt := 36) hx hb dX12_four_4 (by decide) (fun b149 => ?_) (fun b149 => ?_)
      · have b149 := zi_lt b149 (rfl : j145.toInt = j145.toInt) (zl_0 : (0 : Int32).toInt = 0)
        subst hQ
        exact zq_vret E hr hZ hM hS ⟨hR, (by omega)⟩ hlocks dX12_four_36
      · have b149 := zi_nlt b149 (rfl : j145.toInt = j145.toInt) (zl_0 : (0 : Int32).toInt = 0)
        refine lv_aload_n hx hb dX12_four_7 rfl (lv_at hl 1 rfl) ?_
        refine zq_getr E hM k_h0 (zFX12_7 E hZ) ⟨by decide, by decide, by decide, rfl⟩ dX12_four_8 ?_
        have k150 : zq_k X (zq_r X h0 0) = 50 := zq_lk L.1 k_h0 rfl (by decide)
        refine lv_aload_n hx hb dX12_four_11 rfl (lv_at hl 1 rfl) ?_
        refine zq_gn E hM k_h0 (zFX12_74 E hZ) (Or.inl ⟨by decide, by decide, by decide, rfl⟩) dX12_four_12 (fun x151 ex151 gx151 => ?_)
        replace gx151 : 0 ≤ x151.toInt ∧ x151.toInt ≤ 400 := gx151
        have := congrArg Int32.toInt ex151
        refine lv_iload_n hx hb dX12_four_15 rfl (lv_at hl 2 rfl) ?_
        refine lv_iload_n hx hb dX12_four_16 rfl (lv_at hl 0 rfl) ?_
        refine lv_ishr hx hb dX12_four_17 ?_
        refine lv_topi (fun x152 ex152 => ?_)
        refine lv_i2b hx hb dX12_four_18 rfl ?_
        refine lv_topi (fun x153 ex153 => ?_)
        refine zq_bsn (n := 400) (j := (x151.toNatClampNeg)) E hZ hM hS k150 ⟨by decide, rfl⟩ ⟨by omega, by omega⟩ rfl (fun _ => rfl) dX12_four_19 (fun x155 I154 H locs eI154 hM hS => ?_)
        have hR := zq_fr.putE hR eI154 (zf_ia k150 (by decide) rfl)
        refine W.eq (g2 := F0 m 20 ls []) rfl ?_
        refine lv_aload_n hx hb dX12_four_20 rfl (lv_at hl 1 rfl) ?_
        refine lv_dup hx hb dX12_four_21 rfl ?_
        refine zq_gk (v := x151) E hM k_h0 (zFX12_74 E hZ) (Or.inl ⟨by decide, by decide, by decide, rfl⟩) (zq_kp eI154 (Or.inl (zq_kne k_h0 k150 (by decide))) ex151) dX12_four_22 ?_
        refine lv_iconst (v := 1) hx hb dX12_four_25 (by decide +kernel) ?_
        refine lv_iadd hx hb dX12_four_26 ?_
        refine lv_topi (fun x156 ex156 => ?_)
        have tx156 := zi_add ex156 (rfl : x151.toInt = x151.toInt) (zl_1 : (1 : Int32).toInt = 1) ⟨by omega, by omega⟩
        refine zq_pn E hM hS k_h0 (zGX12_74 E hZ) ⟨by decide, by decide, by decide, rfl⟩ (show 0 ≤ x156.toInt ∧ x156.toInt ≤ 400 from ⟨by omega, by omega⟩) dX12_four_27 (fun I157 H locs eI157 hM hS => ?_)
        have hR := zq_fr.putE hR eI157 (zf_i k_h0 rfl rfl)
        obtain ⟨x158, ex158⟩ : ∃ y : Int32, y = j145 + (-8) := ⟨_, rfl⟩
        have tx158 := zi_add ex158 (rfl : j145.toInt = j145.toInt) zl_m8 ⟨by omega, by omega⟩
        refine lv_iinc (v := x158) (lv' := [(2, .int x158), (0, .ref h0), (1, .int p1)]) hx hb dX12_four_30 hl (k := 0) rfl (by rw [ex158]; rfl) (by decide) rfl (fun ls hl => ?_)
        refine lv_goto (tgt := 3) hx hb dX12_four_33 (by decide) ?_
        exact ih3 I157 H locs ls x158 (by omega) hM hS hR (⟨by omega, by omega⟩) (by rw [(zq_kv eI157)]; omega) (lv_sub hl [0, 1, 2] rfl)
  exact J3 ((24 : Int32).toInt + 1 - (-8)).toNat I H locs ls (24 : Int32) (by omega) hM hS hR (by rw [zl_24]; decide) (by have := zl_24; omega) (lv_sub hl [0, 1, 2] rfl)
def zw_X12_feed : List (Nat × Nat) := [(10, 1), (50, 999)]
set_option maxHeartbeats 8000000 in
set_option maxRecDepth 100000 in
theorem c_X12_feed (l : Launch) (X : zq_X) (zk zn : Nat) (I : zq_M) (L : zq_L X)  (h0 : Nat) (k_h0 : zq_k X h0 = 10) (p1 : Int32) (p2 : Int32) (p3 : Int32) (p4 : Int32) (p5 : Int32) (q_0 : zk ≤ 4400 ∧ zn ≤ 4400) : Met l yX12_feed (zt_w yX12_feed cX12_feed 6 (some .int)) (zq_rm (1)) (va_Pc [.ref h0, .int p1, .int p2, .int p3, .int p4, .int p5] (zq_W X (zk, zn) I)) (va_Qi (fun (r : Int32) I2 => zq_fr (zf X zw_X12_feed (fun _ => False)) I I2 ∧ ((-1) ≤ r.toInt ∧ r.toInt ≤ 400)) (zq_E X (zk, zn)) (zq_A X)) 0 0 (zq_A X) := by
  refine Met.ofW (cc := cX12_feed) (maxL := 6) (ret := (some .int)) (by decide) rfl ?_
  intro p e s m args below meth c s₁ B hml hv
  obtain ⟨hargs, hM, hZ⟩ := hv
  have hown : s.vm.findClass RX12 = some m.cls := findClass_of_methodNamed B.named
  have hts := atoms_spec (ws := zt_w yX12_feed cX12_feed 6 (some .int)) B.pre
  have E : CallFix p m c cX12_feed 6 s args (Cond.code yX12_feed cX12_feed 6 (some .int) :: zt) RX12 := ⟨B.exec, B.bytes, hml, hown, hts⟩
  have hx := B.exec
  have hb := B.bytes
  have hr := B.returns
  have hlocks := B.notSynchronized
  clear B
  have hS : va_S (zq_A X) s.heap s.heap [] := va_S.rf
  have hR : zq_fr (zf X zw_X12_feed (fun _ => False)) I I := zq_fr.rf
  have hl := lv_entry ([.ref h0, .int p1, .int p2, .int p3, .int p4, .int p5]) (n := 6) (by exact Nat.le_of_ble_eq_true rfl)
  have hg : entryFrame m args 6 = F0 m 0 ((lg_sl ([.ref h0, .int p1, .int p2, .int p3, .int p4, .int p5]) ++ List.replicate (6 - (lg_sl ([.ref h0, .int p1, .int p2, .int p3, .int p4, .int p5])).length) Slot.unset).toArray) [] := by rw [hargs]; exact lg_entry_eq m ([.ref h0, .int p1, .int p2, .int p3, .int p4, .int p5]) 6
  rw [hg]
  clear hg hargs
  generalize (lg_sl ([.ref h0, .int p1, .int p2, .int p3, .int p4, .int p5]) ++ List.replicate (6 - (lg_sl ([.ref h0, .int p1, .int p2, .int p3, .int p4, .int p5])).length) Slot.unset).toArray = ls at hl ⊢
  have hl : lv_has ls 6 [(0, .ref h0), (1, .int p1), (2, .int p2), (3, .int p3), (4, .int p4), (5, .int p5)] := by exact hl
  obtain ⟨R, hRm⟩ : ∃ R : Room, R = (headSpec (zt_w yX12_feed cX12_feed 6 (some .int)) (zq_rm (1))).room := ⟨_, rfl⟩
  rw [← hRm]
  have hro : ∀ d q : Nat, d + 1 ≤ 1 → q ≤ 45 → zq_rok d q R := fun d q h1 h2 => by rw [hRm]; exact zq_rokI h1 h2
  generalize hQ : MQ below _ args s 0 0 (zq_A X) = Q
  obtain ⟨H, hH⟩ : ∃ H, H = s.heap := ⟨_, rfl⟩
  obtain ⟨locs, hlo⟩ : ∃ x : List Loc, x = [] := ⟨_, rfl⟩
  rw [show W p l e R s m args below meth c s.heap [] 0 0 Q = W p l e R s m args below meth c H locs 0 0 Q by rw [hH, hlo]]
  have hM : zq_hm X (zk, zn) I H := by rw [hH]; exact hM
  have hS : va_S (zq_A X) s.heap H locs := by rw [hH, hlo]; exact hS
  clear hH hlo
  refine lv_aload_n hx hb dX12_feed_0 rfl (lv_at hl 0 rfl) ?_
  refine zq_gn E hM k_h0 (zFX12_74 E hZ) (Or.inl ⟨by decide, by decide, by decide, rfl⟩) dX12_feed_1 (fun x101 ex101 gx101 => ?_)
  replace gx101 : 0 ≤ x101.toInt ∧ x101.toInt ≤ 400 := gx101
  have := congrArg Int32.toInt ex101
  refine lv_bipush (v := 20) hx hb dX12_feed_4 (by decide +kernel) ?_
  refine lv_iadd hx hb dX12_feed_6 ?_
  refine lv_topi (fun x102 ex102 => ?_)
  have tx102 := zi_add ex102 (rfl : x101.toInt = x101.toInt) (zl_20 : (20 : Int32).toInt = 20) ⟨by omega, by omega⟩
  refine lv_sipush (v := 400) hx hb dX12_feed_7 (by decide +kernel) ?_
  refine lv_icmp_le (tgt := 15) hx hb dX12_feed_10 (by decide) (fun b103 => ?_) (fun b103 => ?_)
  · have b103 := zi_le b103 (rfl : x102.toInt = x102.toInt) (zl_400 : (400 : Int32).toInt = 400)
    refine lv_aload_n hx hb dX12_feed_15 rfl (lv_at hl 0 rfl) ?_
    refine lv_iload_n hx hb dX12_feed_16 rfl (lv_at hl 1 rfl) ?_
    refine zq_callv (zq_rV (As := [.int p1]) (rest := []) E hZ hM k_h0 (c_X12_four l X zk (zn) I L h0 k_h0 p1 (by have := zi_rng p1; omega) (by have := zi_rng p1; omega)) zmX12_77 zM_X12_four (hro (0) 3 (by first | decide | omega) (by decide)) ⟨by decide, by decide⟩ rfl hl.1 rfl rfl (Nat.le_of_ble_eq_true rfl) dX12_feed_17) hS (fun I106 H locs h104 hM hS => ?_)
    obtain ⟨fr107, p108⟩ := h104
    have hR := zq_fr.call hR fr107 (zf_sub (by decide +kernel) (fun _ _ q => q.elim))
    refine lv_aload_n hx hb dX12_feed_20 rfl (lv_at hl 0 rfl) ?_
    refine lv_iload_n hx hb dX12_feed_21 rfl (lv_at hl 2 rfl) ?_
    refine zq_callv (zq_rV (As := [.int p2]) (rest := []) E hZ hM k_h0 (c_X12_four l X zk (zn) I106 L h0 k_h0 p2 (by have := zi_rng p2; omega) (by have := zi_rng p2; omega)) zmX12_77 zM_X12_four (hro (0) 3 (by first | decide | omega) (by decide)) ⟨by decide, by decide⟩ rfl hl.1 rfl rfl (Nat.le_of_ble_eq_true rfl) dX12_feed_22) hS (fun I111 H locs h109 hM hS => ?_)
    obtain ⟨fr112, p113⟩ := h109
    have hR := zq_fr.call hR fr112 (zf_sub (by decide +kernel) (fun _ _ q => q.elim))
    refine lv_aload_n hx hb dX12_feed_25 rfl (lv_at hl 0 rfl) ?_
    refine lv_iload_n hx hb dX12_feed_26 rfl (lv_at hl 3 rfl) ?_
    refine zq_callv (zq_rV (As := [.int p3]) (rest := []) E hZ hM k_h0 (c_X12_four l X zk (zn) I111 L h0 k_h0 p3 (by have := zi_rng p3; omega) (by have := zi_rng p3; omega)) zmX12_77 zM_X12_four (hro (0) 3 (by first | decide | omega) (by decide)) ⟨by decide, by decide⟩ rfl hl.1 rfl rfl (Nat.le_of_ble_eq_true rfl) dX12_feed_27) hS (fun I116 H locs h114 hM hS => ?_)
    obtain ⟨fr117, p118⟩ := h114
    have hR := zq_fr.call hR fr117 (zf_sub (by decide +kernel) (fun _ _ q => q.elim))
    refine W.eq (g2 := F0 m 30 ls []) rfl ?_
    refine lv_aload_n hx hb dX12_feed_30 rfl (lv_at hl 0 rfl) ?_
    refine lv_iload hx hb dX12_feed_31 (lv_at hl 4 rfl) ?_
    refine zq_callv (zq_rV (As := [.int p4]) (rest := []) E hZ hM k_h0 (c_X12_four l X zk (zn) I116 L h0 k_h0 p4 (by have := zi_rng p4; omega) (by have := zi_rng p4; omega)) zmX12_77 zM_X12_four (hro (0) 3 (by first | decide | omega) (by decide)) ⟨by decide, by decide⟩ rfl hl.1 rfl rfl (Nat.le_of_ble_eq_true rfl) dX12_feed_33) hS (fun I121 H locs h119 hM hS => ?_)
    obtain ⟨fr122, p123⟩ := h119
    have hR := zq_fr.call hR fr122 (zf_sub (by decide +kernel) (fun _ _ q => q.elim))
    refine lv_aload_n hx hb dX12_feed_36 rfl (lv_at hl 0 rfl) ?_
    refine lv_iload hx hb dX12_feed_37 (lv_at hl 5 rfl) ?_
    refine zq_callv (zq_rV (As := [.int p5]) (rest := []) E hZ hM k_h0 (c_X12_four l X zk (zn) I121 L h0 k_h0 p5 (by have := zi_rng p5; omega) (by have := zi_rng p5; omega)) zmX12_77 zM_X12_four (hro (0) 3 (by first | decide | omega) (by decide)) ⟨by decide, by decide⟩ rfl hl.1 rfl rfl (Nat.le_of_ble_eq_true rfl) dX12_feed_39) hS (fun I126 H locs h124 hM hS => ?_)
    obtain ⟨fr127, p128⟩ := h124
    have hR := zq_fr.call hR fr127 (zf_sub (by decide +kernel) (fun _ _ q => q.elim))
    refine lv_aload_n hx hb dX12_feed_42 rfl (lv_at hl 0 rfl) ?_
    refine zq_gn E hM k_h0 (zFX12_74 E hZ) (Or.inl ⟨by decide, by decide, by decide, rfl⟩) dX12_feed_43 (fun x129 ex129 gx129 => ?_)
    replace gx129 : 0 ≤ x129.toInt ∧ x129.toInt ≤ 400 := gx129
    have := congrArg Int32.toInt ex129
    subst hQ
    exact zq_iret E hr hZ hM hS ⟨hR, (by omega)⟩ hlocks dX12_feed_46
  · have b103 := zi_nle b103 (rfl : x102.toInt = x102.toInt) (zl_400 : (400 : Int32).toInt = 400)
    refine lv_iconst (v := (-1)) hx hb dX12_feed_13 (by decide +kernel) ?_
    subst hQ
    exact zq_iret E hr hZ hM hS ⟨hR, (by have := zl_m1; omega)⟩ hlocks dX12_feed_14
