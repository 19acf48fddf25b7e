/-! THE LAW'S LOOP, AND ITS START -/
section ZF
variable {p : Program} {l : Launch} {e : Env} {s : State} {m : MethodId} {below : List Frame} {meth : Method} {c : Code} {w0 : Cond} {X : zq_X} {b a0 m0 Ln : Nat} {xs : Nat → Int32}
set_option maxHeartbeats 4000000 in
theorem zl_loop (C : zlE p m c s b X a0 m0 Ln xs w0) (hr : meth.sig.returnType = ret) (hlocks : meth.locks = false) : ∀ (n ct : Nat) (i : Int32) (ls : Array Slot) (I : zq_M) (H : Heap) (locs : List Loc), 513 ≤ n + ct → ct ≤ 512 → i.toInt = 6 * (ct : Int) → lv_has ls 4 [(3, .int i), (2, .ref m0), (1, .ref a0), (0, .ref b)] → zq_hm X (4 * ct, 4 * ct) I H → va_S (zq_A X) s.heap H locs → zJ X a0 m0 I ct →
    W p l e room_1 s m #[Value.ref b] below meth c H locs 500 15578 (lw_Z below #[Value.ref b] s) (F0 m 18 ls []) := by
  intro n
  induction n with
  | zero => intro ct i ls I H locs h1 h2; exact absurd h1 (by omega)
  | succ n ih =>
  intro ct i ls I H locs h1 h2 hi hl hM hS hJ
  refine lv_iload_n C.E.1 C.E.2.1 dL_law_18 rfl (lv_at hl 0 rfl) ?_
  refine lv_aload_n C.E.1 C.E.2.1 dL_law_19 rfl (lv_at hl 3 rfl) ?_
  refine va_slen C.E.1 C.E.2.1 C.hX C.hbl C.bA hS dL_law_20 ?_
  refine lv_bipush (v := 6) C.E.1 C.E.2.1 dL_law_21 (by decide +kernel) ?_
  refine lv_isub C.E.1 C.E.2.1 dL_law_23 ?_
  have hLn := C.hLn
  have e1 : (Int32.ofNat Ln).toInt = (Ln : Int) := Int32.toInt_ofNat_of_lt (by omega)
  have e2 : (Int32.ofNat Ln - 6).toInt = (Ln : Int) - 6 := zi_sub rfl e1 (by decide : (6 : Int32).toInt = 6) (by omega)
  refine lv_icmp_gt (tgt := 1252) C.E.1 C.E.2.1 dL_law_24 (by decide) (fun hgt => ?_) (fun hgt => ?_)
  · refine lv_iconst (v := 1) C.E.1 C.E.2.1 dL_law_1252 (by decide +kernel) ?_
    refine va_forget (fun q hq => C.hA _ (hS.2.2 q hq)) ?_
    exact W.widen (k := 600000) (n := 7302250) (by decide) (by decide) (lw_ret C.E.1 C.E.2.1 hr hlocks dL_law_1253)
  · have hle : 6 * ct + 6 ≤ Ln := by
      have h3 : ¬ (Int32.ofNat Ln - 6).toInt < i.toInt := fun q => hgt (Int32.lt_iff_toInt_lt.mpr q)
      rw [e2, hi] at h3
      omega
    have D : zlI ls b a0 m0 Ln i ct := ⟨hl, hi, hle⟩
    have nx : ∀ (I2 : zq_M) (H : Heap) (locs : List Loc), zq_hm X (4 * (ct + 1), 4 * (ct + 1)) I2 H → va_S (zq_A X) s.heap H locs → zJ X a0 m0 I2 (ct + 1) → W p l e room_1 s m #[Value.ref b] below meth c H locs 500 15578 (lw_Z below #[Value.ref b] s) (F0 m 1246 ls []) := by
      intro I2 H locs hM hS hJ
      refine lv_iinc (k := 0) (v := i + 6) C.E.1 C.E.2.1 dL_law_1246 hl rfl rfl (by decide) rfl (fun ls2 hl2 => ?_)
      refine lv_goto (tgt := 18) C.E.1 C.E.2.1 dL_law_1249 (by decide) ?_
      exact ih (ct + 1) (i + 6) ls2 I2 H locs (by omega) (by omega) (by rw [zi_add (c := i + 6) rfl hi (by decide : (6 : Int32).toInt = 6) (by omega)]; omega) hl2 hM hS hJ
    refine lv_aload_n C.E.1 C.E.2.1 dL_law_27 rfl (lv_at hl 3 rfl) ?_
    refine lv_iload_n C.E.1 C.E.2.1 dL_law_28 rfl (lv_at hl 0 rfl) ?_
    refine va_sld C.E.1 C.E.2.1 C.hX C.hbl C.bA hS (zq_in ⟨by omega, by omega⟩) dL_law_29 ?_
    refine lv_bipush (v := 31) C.E.1 C.E.2.1 dL_law_30 (by decide +kernel) ?_
    refine lv_iand C.E.1 C.E.2.1 dL_law_32 ?_
    obtain ⟨v, ev⟩ : ∃ v : Int32, v = xs i.toNatClampNeg &&& 31 := ⟨_, rfl⟩
    rw [← ev]
    have hv := zi_and 5 (by decide) (by decide) ev
    replace hv : 0 ≤ v.toInt ∧ v.toInt < 32 := hv
    rcases (show v.toInt = 0 ∨ v.toInt = 1 ∨ v.toInt = 2 ∨ v.toInt = 3 ∨ v.toInt = 4 ∨ v.toInt = 5 ∨ v.toInt = 6 ∨ v.toInt = 7 ∨ v.toInt = 8 ∨ v.toInt = 9 ∨ v.toInt = 10 ∨ v.toInt = 11 ∨ v.toInt = 12 ∨ v.toInt = 13 ∨ v.toInt = 14 ∨ v.toInt = 15 ∨ v.toInt = 16 ∨ v.toInt = 17 ∨ v.toInt = 18 ∨ v.toInt = 19 ∨ v.toInt = 20 ∨ v.toInt = 21 ∨ v.toInt = 22 ∨ v.toInt = 23 ∨ v.toInt = 24 ∨ v.toInt = 25 ∨ v.toInt = 26 ∨ v.toInt = 27 ∨ v.toInt = 28 ∨ v.toInt = 29 ∨ v.toInt = 30 ∨ v.toInt = 31 by omega) with hv | hv | hv | hv | hv | hv | hv | hv | hv | hv | hv | hv | hv | hv | hv | hv | hv | hv | hv | hv | hv | hv | hv | hv | hv | hv | hv | hv | hv | hv | hv | hv
    · refine lv_tableIn (tgt := 176) C.E.1 C.E.2.1 dL_law_33 (by omega) (by omega) (by rw [hv]; rfl) (by decide) ?_
      exact zl_c0 C D hM hS hJ nx
    · refine lv_tableIn (tgt := 239) C.E.1 C.E.2.1 dL_law_33 (by omega) (by omega) (by rw [hv]; rfl) (by decide) ?_
      exact zl_c1 C D hM hS hJ nx
    · refine lv_tableIn (tgt := 262) C.E.1 C.E.2.1 dL_law_33 (by omega) (by omega) (by rw [hv]; rfl) (by decide) ?_
      exact zl_c2 C D hM hS hJ nx
    · refine lv_tableIn (tgt := 275) C.E.1 C.E.2.1 dL_law_33 (by omega) (by omega) (by rw [hv]; rfl) (by decide) ?_
      exact zl_c3 C D hM hS hJ nx
    · refine lv_tableIn (tgt := 288) C.E.1 C.E.2.1 dL_law_33 (by omega) (by omega) (by rw [hv]; rfl) (by decide) ?_
      exact zl_c4 C D hM hS hJ nx
    · refine lv_tableIn (tgt := 311) C.E.1 C.E.2.1 dL_law_33 (by omega) (by omega) (by rw [hv]; rfl) (by decide) ?_
      exact zl_c5 C D hM hS hJ nx
    · refine lv_tableIn (tgt := 344) C.E.1 C.E.2.1 dL_law_33 (by omega) (by omega) (by rw [hv]; rfl) (by decide) ?_
      exact zl_c6 C D hM hS hJ nx
    · refine lv_tableIn (tgt := 377) C.E.1 C.E.2.1 dL_law_33 (by omega) (by omega) (by rw [hv]; rfl) (by decide) ?_
      exact zl_c7 C D hM hS hJ nx
    · refine lv_tableIn (tgt := 390) C.E.1 C.E.2.1 dL_law_33 (by omega) (by omega) (by rw [hv]; rfl) (by decide) ?_
      exact zl_c8 C D hM hS hJ nx
    · refine lv_tableIn (tgt := 459) C.E.1 C.E.2.1 dL_law_33 (by omega) (by omega) (by rw [hv]; rfl) (by decide) ?_
      exact zl_c9 C D hM hS hJ nx
    · refine lv_tableIn (tgt := 492) C.E.1 C.E.2.1 dL_law_33 (by omega) (by omega) (by rw [hv]; rfl) (by decide) ?_
      exact zl_c10 C D hM hS hJ nx
    · refine lv_tableIn (tgt := 515) C.E.1 C.E.2.1 dL_law_33 (by omega) (by omega) (by rw [hv]; rfl) (by decide) ?_
      exact zl_c11 C D hM hS hJ nx
    · refine lv_tableIn (tgt := 548) C.E.1 C.E.2.1 dL_law_33 (by omega) (by omega) (by rw [hv]; rfl) (by decide) ?_
      exact zl_c12 C D hM hS hJ nx
    · refine lv_tableIn (tgt := 561) C.E.1 C.E.2.1 dL_law_33 (by omega) (by omega) (by rw [hv]; rfl) (by decide) ?_
      exact zl_c13 C D hM hS hJ nx
    · refine lv_tableIn (tgt := 604) C.E.1 C.E.2.1 dL_law_33 (by omega) (by omega) (by rw [hv]; rfl) (by decide) ?_
      exact zl_c14 C D hM hS hJ nx
    · refine lv_tableIn (tgt := 663) C.E.1 C.E.2.1 dL_law_33 (by omega) (by omega) (by rw [hv]; rfl) (by decide) ?_
      exact zl_c15 C D hM hS hJ nx
    · refine lv_tableIn (tgt := 722) C.E.1 C.E.2.1 dL_law_33 (by omega) (by omega) (by rw [hv]; rfl) (by decide) ?_
      exact zl_c16 C D hM hS hJ nx
    · refine lv_tableIn (tgt := 765) C.E.1 C.E.2.1 dL_law_33 (by omega) (by omega) (by rw [hv]; rfl) (by decide) ?_
      exact zl_c17 C D hM hS hJ nx
    · refine lv_tableIn (tgt := 798) C.E.1 C.E.2.1 dL_law_33 (by omega) (by omega) (by rw [hv]; rfl) (by decide) ?_
      exact zl_c18 C D hM hS hJ nx
    · refine lv_tableIn (tgt := 841) C.E.1 C.E.2.1 dL_law_33 (by omega) (by omega) (by rw [hv]; rfl) (by decide) ?_
      exact zl_c19 C D hM hS hJ nx
    · refine lv_tableIn (tgt := 874) C.E.1 C.E.2.1 dL_law_33 (by omega) (by omega) (by rw [hv]; rfl) (by decide) ?_
      exact zl_c20 C D hM hS hJ nx
    · refine lv_tableIn (tgt := 917) C.E.1 C.E.2.1 dL_law_33 (by omega) (by omega) (by rw [hv]; rfl) (by decide) ?_
      exact zl_c21 C D hM hS hJ nx
    · refine lv_tableIn (tgt := 950) C.E.1 C.E.2.1 dL_law_33 (by omega) (by omega) (by rw [hv]; rfl) (by decide) ?_
      exact zl_c22 C D hM hS hJ nx
    · refine lv_tableIn (tgt := 963) C.E.1 C.E.2.1 dL_law_33 (by omega) (by omega) (by rw [hv]; rfl) (by decide) ?_
      exact zl_c23 C D hM hS hJ nx
    · refine lv_tableIn (tgt := 1032) C.E.1 C.E.2.1 dL_law_33 (by omega) (by omega) (by rw [hv]; rfl) (by decide) ?_
      exact zl_c24 C D hM hS hJ nx
    · refine lv_tableIn (tgt := 1065) C.E.1 C.E.2.1 dL_law_33 (by omega) (by omega) (by rw [hv]; rfl) (by decide) ?_
      exact zl_c25 C D hM hS hJ nx
    · refine lv_tableIn (tgt := 1088) C.E.1 C.E.2.1 dL_law_33 (by omega) (by omega) (by rw [hv]; rfl) (by decide) ?_
      exact zl_c26 C D hM hS hJ nx
    · refine lv_tableIn (tgt := 1111) C.E.1 C.E.2.1 dL_law_33 (by omega) (by omega) (by rw [hv]; rfl) (by decide) ?_
      exact zl_c27 C D hM hS hJ nx
    · refine lv_tableIn (tgt := 1134) C.E.1 C.E.2.1 dL_law_33 (by omega) (by omega) (by rw [hv]; rfl) (by decide) ?_
      exact zl_c28 C D hM hS hJ nx
    · refine lv_tableIn (tgt := 1177) C.E.1 C.E.2.1 dL_law_33 (by omega) (by omega) (by rw [hv]; rfl) (by decide) ?_
      exact zl_c29 C D hM hS hJ nx
    · refine lv_tableIn (tgt := 1200) C.E.1 C.E.2.1 dL_law_33 (by omega) (by omega) (by rw [hv]; rfl) (by decide) ?_
      exact zl_c30 C D hM hS hJ nx
    · refine lv_tableIn (tgt := 1223) C.E.1 C.E.2.1 dL_law_33 (by omega) (by omega) (by rw [hv]; rfl) (by decide) ?_
      exact zl_c31 C D hM hS hJ nx
theorem zl_hm {D : va_G} {ac : Nat → ClassId} {P2 P3 P4 : Nat → Prop} {rf : Nat → Nat} {h0 H : Heap} (h : zl_s (zXm D ac P2 P3 P4 rf h0) 500 H) : zq_hm (zXm D ac P2 P3 P4 rf h0) (4 * 0, 4 * 0) (zI0 (zXm D ac P2 P3 P4 rf h0)) H := by
  obtain ⟨h1, h2, h3⟩ := h
  refine ⟨fun a k hk g1 g2 => ?_, fun a k hk g1 => ?_, fun a j => zl_rg _ j, fun a ha _ => h3 a ha⟩
  · subst hk
    obtain ⟨r1, r2⟩ := zX.hi (D := D) (ac := ac) (P2 := P2) (P3 := P3) (P4 := P4) (rf := rf) (h0 := h0) (a := a) ⟨g1, fun q => by omega⟩
    exact (h2 a r1 (by show a < h0.size + 500; omega)).1 g1 g2
  · subst hk
    obtain ⟨r1, r2⟩ := zX.hi (D := D) (ac := ac) (P2 := P2) (P3 := P3) (P4 := P4) (rf := rf) (h0 := h0) (a := a) ⟨by omega, fun q => by omega⟩
    exact (h2 a r1 (by show a < h0.size + 500; omega)).2 g1
set_option maxHeartbeats 4000000 in
theorem zl_start {D : va_G} {ac : Nat → ClassId} {P2 P3 P4 : Nat → Prop} {rf : Nat → Nat} (l : Launch) (hled : ∀ a, zLay (zXm D ac P2 P3 P4 rf s.heap) a 2 → zcM l (zXm D ac P2 P3 P4 rf s.heap) yX1_init cX1_init 1 3 2 a 20 516) (E : CallFix p m c cL_law 4 s #[Value.ref b] (w0 :: zt) RL) (hr : meth.sig.returnType = ret) (hlocks : meth.locks = false) (hK : zcK (zXm D ac P2 P3 P4 rf s.heap) s) (hX : va_X b Ln xs s s.heap) (hbl : b < s.heap.size) (hLn : Ln ≤ 3072) {ls : Array Slot} (hl : lv_has ls 4 [(0, .ref b)]) :
    W p l e room_1 s m #[Value.ref b] below meth c s.heap [] 0 0 (lw_Z below #[Value.ref b] s) (F0 m 0 ls []) := by
  obtain ⟨X, eX⟩ : ∃ X, X = zXm D ac P2 P3 P4 rf s.heap := ⟨_, rfl⟩
  have hh : zq_h0 X = s.heap := by rw [eX]; rfl
  have h9 : zLay X (zq_h0 X).size 9 := by rw [eX]; exact zX.l9
  have h10 : zLay X ((zq_h0 X).size + 481) 10 := by rw [eX]; exact zX.l10
  have hL : zq_L X := by rw [eX]; exact zX.L
  have hA : ∀ q, zq_A X q → s.heap.size ≤ q := by rw [eX]; exact fun q h => zX.A2 h
  have hhm : ∀ H, zl_s X 500 H → zq_hm X (4 * 0, 4 * 0) (zI0 X) H := by rw [eX]; exact fun H h => zl_hm h
  have ka : zq_k X (zq_h0 X).size = 9 := (h9 0 (by decide +kernel)).1
  have km : zq_k X ((zq_h0 X).size + 481) = 10 := (h10 0 (by decide +kernel)).1
  rw [← eX] at hled hK
  clear eX
  have hc : zl_s X 0 s.heap := ⟨by rw [hh]; rfl, fun q h1 h2 => absurd h1 (by omega), fun q _ => by rw [hh]⟩
  have hS : va_S (zcA (zq_h0 X).size) s.heap s.heap [] := va_S.rf
  refine zl_make (k2 := 9) (N2 := 12) (c2 := 480) (n2 := 10158) (d := 4) (maxL := 2) E hK hc hS (c_X11_init l X ((zq_h0 X).size + 0) h9 hled) rfl rfl iz_X11 tyX11 tyX11_ok zdv_X11 zcl_L_7 zci_X11 zcn_X11 zcm_L_9 zcx_X11 zcc_X11 ⟨rfl, rfl⟩ (by decide +kernel) (by decide) hl.1 (Nat.le_of_ble_eq_true rfl) dL_law_0 dL_law_3 dL_law_4 (fun H locs hc hS => ?_)
  refine lv_astore_n (i := 1) E.1 E.2.1 dL_law_7 rfl hl (by decide) rfl (fun ls hl => ?_)
  refine zl_make (k2 := 10) (N2 := 34) (c2 := 18) (n2 := 5374) (d := 1) (maxL := 1) E hK hc hS (c_X12_init l X ((zq_h0 X).size + (0 + 1 + 480)) h10) rfl rfl iz_X12 tyX12 tyX12_ok zdv_X12 zcl_L_10 zci_X12 zcn_X12 zcm_L_12 zcx_X12 zcc_X12 ⟨rfl, rfl⟩ (by decide +kernel) (by decide) hl.1 (Nat.le_of_ble_eq_true rfl) dL_law_8 dL_law_11 dL_law_12 (fun H locs hc hS => ?_)
  refine lv_astore_n (i := 2) E.1 E.2.1 dL_law_15 rfl hl (by decide) rfl (fun ls hl => ?_)
  refine lv_iconst (v := 0) E.1 E.2.1 dL_law_16 (by decide +kernel) ?_
  refine lv_istore_n (i := 3) E.1 E.2.1 dL_law_17 rfl hl (by decide) rfl (fun ls hl => ?_)
  refine va_forget (fun q hq => by rw [← hh]; exact hS.2.2 q hq) ?_
  have C : zlE p m c s b X (zq_h0 X).size ((zq_h0 X).size + 481) Ln xs w0 := ⟨E, hK.1, hL, ka, km, zTz.of hL ka km, hX, hbl, hA, hLn⟩
  have hS2 : va_S (zq_A X) s.heap H [] := ⟨hS.1, fun q hq _ => by rw [hc.2.2 q (by rw [hh]; exact hq), hh], fun q hq => by cases hq⟩
  exact zl_loop C hr hlocks 513 0 0 ls (zI0 X) H [] (by omega) (by omega) (by decide) hl (hhm H hc) hS2 (zJ.start hL ka km)
end ZF
