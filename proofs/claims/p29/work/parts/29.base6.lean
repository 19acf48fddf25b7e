section ZQ7
variable {p : Program} {l : Launch} {e : Env} {R : Room} {s : State} {m : MethodId} {args : Array Value} {below : List Frame} {meth : Method} {c : Code} {H : Heap} {locs : List Loc} {cells slots : Nat} {Q : State → Prop}
variable {cc bytes : ByteArray} {nL pc n maxL d : Nat} {ls : Array Slot} {rest st0 As : List Value} {w0 : Cond} {Ts : List Cond} {own C : String} {X : zq_X} {z z2 : zq_Z} {I : zq_M} {a k j index : Nat} {y : MethodName} {ret : Option FieldType}
/-- a static that nobody writes -/
theorem zq_gets {Cs nm ds : String} {v : Value} (E : CallFix p m c cc nL s args Ts own) (hM : zq_hm X z I H) (hv : va_Z Cs nm ds v (zq_A X) s (zq_h0 X)) (hl : Cond.fieldLink own index Cs nm ds ∈ Ts) (hdg : decode cc pc = .ok (.getstatic index, 3))
    (kk : W p l e R s m args below meth c H locs cells slots Q (F0 m (pc + 3) ls (v :: rest))) : W p l e R s m args below meth c H locs cells slots Q (F0 m pc ls rest) := by
  obtain ⟨cf, kf, fi, f, a, cell, h1, h2, h3, h4, h5, h6, h7, h8⟩ := hv.kept hM.2.2.2
  exact W.gets E.1 E.2.1 E.2.2.2.1 (E.2.2.2.2 _ hl) h1 h2 h3 h4 h5 (fun e => by rw [e] at h6; cases h6) h7 rfl hdg kk
/-- a Word that a static holds -/
theorem zq_getw {nm : String} (E : CallFix p m c cc nL s args Ts own) (hZ : zq_K X s) (hM : zq_hm X z I H) (hn : nm ∈ zq_wn) (hl : Cond.fieldLink own index RX9 nm "LPondIceTrade$Word;" ∈ Ts) (hdg : decode cc pc = .ok (.getstatic index, 3))
    (kk : ∀ w, zq_k X w = 12 → W p l e R s m args below meth c H locs cells slots Q (F0 m (pc + 3) ls (.ref w :: rest))) : W p l e R s m args below meth c H locs cells slots Q (F0 m pc ls rest) := by
  obtain ⟨w, hw, hv⟩ := hZ.2.2.2.2.2.1 nm hn
  exact zq_gets E hM hv hl hdg (kk w hw)
theorem zq_getc {o nm ds : String} {v : Value} {q : Nat} (E : CallFix p m c cc nL s args Ts own) (hM : zq_hm X z I H) (hv : va_OF o nm ds v q (zq_A X) s (zq_h0 X)) (hl : Cond.fieldLink own index o nm ds ∈ Ts) (hdg : decode cc pc = .ok (.getfield index, 3))
    (kk : W p l e R s m args below meth c H locs cells slots Q (F0 m (pc + 3) ls (v :: rest))) : W p l e R s m args below meth c H locs cells slots Q (F0 m pc ls (.ref q :: rest)) := by
  obtain ⟨cf, k, fi, f, cell, h1, h2, h3, h4, h5, h6⟩ := hv.kept hM.2.2.2
  exact W.getf E.1 E.2.1 E.2.2.2.1 (E.2.2.2.2 _ hl) h1 h2 h3 h4 (v := v) h5 rfl rfl hdg kk
theorem zq_wval (E : CallFix p m c cc nL s args Ts own) (hZ : zq_K X s) (hM : zq_hm X z I H) (hk : zq_k X a = 12) (hl : Cond.fieldLink own index RX9 "value" "I" ∈ Ts) (hdg : decode cc pc = .ok (.getfield index, 3))
    (kk : ∀ v : Int32, W p l e R s m args below meth c H locs cells slots Q (F0 m (pc + 3) ls (.int v :: rest))) : W p l e R s m args below meth c H locs cells slots Q (F0 m pc ls (.ref a :: rest)) := by
  obtain ⟨-, ⟨v, hv⟩, -⟩ := hZ.2.2.2.2.2.2.1 a hk
  exact zq_getc E hM hv hl hdg (kk v)
theorem zq_wtext (E : CallFix p m c cc nL s args Ts own) (hZ : zq_K X s) (hM : zq_hm X z I H) (hk : zq_k X a = 12) (hl : Cond.fieldLink own index RX9 "text" "Ljava/lang/String;" ∈ Ts) (hdg : decode cc pc = .ok (.getfield index, 3))
    (kk : ∀ t, zq_k X t = 13 → W p l e R s m args below meth c H locs cells slots Q (F0 m (pc + 3) ls (.ref t :: rest))) : W p l e R s m args below meth c H locs cells slots Q (F0 m pc ls (.ref a :: rest)) := by
  obtain ⟨-, -, t, ht, hv⟩ := hZ.2.2.2.2.2.2.1 a hk
  exact zq_getc E hM hv hl hdg (kk t ht)
theorem zq_scoder (E : CallFix p m c cc nL s args Ts own) (hZ : zq_K X s) (hM : zq_hm X z I H) (hk : zq_k X a = 13) (hl : Cond.fieldLink own index "java/lang/String" "coder" "B" ∈ Ts) (hdg : decode cc pc = .ok (.getfield index, 3))
    (kk : W p l e R s m args below meth c H locs cells slots Q (F0 m (pc + 3) ls (.int 0 :: rest))) : W p l e R s m args below meth c H locs cells slots Q (F0 m pc ls (.ref a :: rest)) := zq_getc E hM (hZ.2.2.2.2.2.2.2.1 a hk).2.1 hl hdg kk
theorem zq_svalue (E : CallFix p m c cc nL s args Ts own) (hZ : zq_K X s) (hM : zq_hm X z I H) (hk : zq_k X a = 13) (hl : Cond.fieldLink own index "java/lang/String" "value" "[B" ∈ Ts) (hdg : decode cc pc = .ok (.getfield index, 3))
    (kk : zq_k X (zq_r X a 0) = 14 → W p l e R s m args below meth c H locs cells slots Q (F0 m (pc + 3) ls (.ref (zq_r X a 0) :: rest))) : W p l e R s m args below meth c H locs cells slots Q (F0 m pc ls (.ref a :: rest)) :=
  zq_getc E hM (hZ.2.2.2.2.2.2.2.1 a hk).2.2.2 hl hdg (kk (hZ.2.2.2.2.2.2.2.1 a hk).2.2.1)
theorem zq_slen (E : CallFix p m c cc nL s args Ts own) (hZ : zq_K X s) (hM : zq_hm X z I H) (hk : zq_k X a = 14) (hdg : decode cc pc = .ok (.arraylength, 1))
    (kk : ∀ v : Int32, v.toInt = ((zq_r X a 0 : Nat) : Int) → W p l e R s m args below meth c H locs cells slots Q (F0 m (pc + 1) ls (.int v :: rest))) : W p l e R s m args below meth c H locs cells slots Q (F0 m pc ls (.ref a :: rest)) := by
  obtain ⟨hb, f, hv⟩ := hZ.2.2.2.2.2.2.2.2.1 a hk
  obtain ⟨cell, h1, h2, h3, h4, h5, -⟩ := hv.kept hM.2.2.2
  refine W.alen (n := Int32.ofNat (zq_r X a 0)) E.1 E.2.1 h1 h2 h5 rfl rfl hdg (kk _ ?_)
  rw [Int32.toInt_ofNat_of_lt (by omega)]
theorem zq_sald {i : Int32} (E : CallFix p m c cc nL s args Ts own) (hZ : zq_K X s) (hM : zq_hm X z I H) (hk : zq_k X a = 14) (hin : 0 ≤ i.toInt ∧ i.toInt < ((zq_r X a 0 : Nat) : Int)) (hdg : decode cc pc = .ok (.baload, 1))
    (kk : ∀ v : Int32, W p l e R s m args below meth c H locs cells slots Q (F0 m (pc + 1) ls (.int v :: rest))) : W p l e R s m args below meth c H locs cells slots Q (F0 m pc ls (.int i :: .ref a :: rest)) := by
  obtain ⟨hb, f, hv⟩ := hZ.2.2.2.2.2.2.2.2.1 a hk
  obtain ⟨cell, h1, h2, h3, h4, h5, h6, -⟩ := hv.kept hM.2.2.2
  have hlt := zq_inn hin
  exact W.bald E.1 E.2.1 h1 h2 h3 (fun q => by rcases q with q | q; exact (zq_in hin) (Or.inl q); exact absurd q (Nat.not_le.mpr (Nat.lt_of_lt_of_le hlt h4))) (h6 _ hlt) rfl rfl hdg (kk _)
/-- a Word is laid into a row of Words -/
theorem zq_wast {w : Nat} {i : Int32} (E : CallFix p m c cc nL s args Ts own) (hZ : zq_K X s) (hM : zq_hm X z I H) (hS : va_S (zq_A X) s.heap H locs) (hk : zq_k X a = k) (ho : zq_iA k 9 n) (hw : zq_k X w = 12) (hin : 0 ≤ i.toInt ∧ i.toInt < (n : Int)) (hdg : decode cc pc = .ok (.aastore, 1))
    (kk : ∀ (H1 : Heap) (locs1 : List Loc), zq_hm X z I H1 → va_S (zq_A X) s.heap H1 locs1 → W p l e R s m args below meth c H1 locs1 cells slots Q (F0 m (pc + 1) ls rest)) : W p l e R s m args below meth c H locs cells slots Q (F0 m pc ls (.ref w :: .int i :: .ref a :: rest)) := by
  obtain ⟨V, hV, -⟩ := hM.2.1 a k hk ho.1
  rw [ho.2] at hV
  obtain ⟨cw, g1, g2, g3, -⟩ := (hZ.2.2.2.2.2.2.1 w hw).1.kept hM.2.2.2
  obtain ⟨kA, comp, k1, k2, k3, -⟩ := (hZ.1.2 9 _ rfl).2
  have hcomp : comp = cw.cls := Option.some.inj (k3.symm.trans g3)
  obtain ⟨kC, hkC, -⟩ := Vm.findClass_spec k3
  have hlt := zq_inn hin
  have h0 : ¬ i < 0 := fun q => (zq_in hin) (Or.inl q)
  refine W.aast E.1 E.2.1 hV (fun q h => by cases h) (fun h => by cases h) k1 k2 rfl hkC ⟨h0, by rw [arrV_size]; exact hlt⟩ g1 (fun q h => by rw [h] at g2; cases g2) (by rw [← hcomp]; exact hkC) (by rw [← hcomp]; exact va_asg _ _) rfl rfl hdg fun H1 e1 e2 e3 => ?_
  obtain ⟨r1, r2⟩ := zq_ast0 (I2 := I) (lc := ⟨a, i.toNatClampNeg⟩) hM hS hk ho hV e1 e2 e3 (fun _ _ _ => rfl) ⟨w, hw, rfl⟩ (by rw [← hk]; exact hM.2.2.1 a _) rfl
  exact kk H1 _ r1 r2
/-- a String's own method -/
theorem zq_rVs {Qc : Array Value → State → Outcome → State → Prop} (E : CallFix p m c cc nL s args (w0 :: zt) own) (hZ : zq_K X s) (hM : zq_hm X z I H) (hk : zq_k X a = 13) (met : Met l y (zt_w y bytes maxL ret) (zq_rm d) (va_Pc (.ref a :: As) (zq_W X z I)) Qc 0 0 (zq_A X)) (hL : Cond.methodLink own index y ∈ zt) (hV : zt_V "java/lang/String" y bytes maxL ret n)
    (hR : zq_rok d maxL R) (hs : ls.size = nL) (hn : As.length = n) (hst : st0 = As.reverse ++ .ref a :: rest) (hW : (rest.map fun v => v.category).sum ≤ 8) (hdg : decode cc pc = .ok (.invokevirtual index, 3)) :
    va_Run p l e R s m args below meth c H locs 0 0 0 0 (F0 m pc ls st0) rest (Qc (Value.ref a :: As).toArray) (zq_A X) := by
  obtain ⟨cell, h1, h2, h3, -⟩ := (hZ.2.2.2.2.2.2.2.1 a hk).1.kept hM.2.2.2
  exact va_runV (As := As) (rest := rest) E met (zq_cwV E hL hV hR) ⟨zq_blind, ⟨cell, h1, h2, h3⟩, fun U hU hW => ⟨rfl, by rw [hU]; exact hM, hZ.warm hW⟩⟩ rfl hn hs hst (lv_room hW) hdg ⟨Nat.zero_le _, Nat.zero_le _⟩
theorem zq_nret {post : Int32 → zq_M → Prop} {v : Int32} {ty : FieldType} (E : CallFix p m c cc nL s args Ts own) (hrt : meth.sig.returnType = some ty) (hnr : narrow ty (.int v) = .int v) (hM : zq_hm X z I H) (hS : va_S (zq_A X) s.heap H locs) (hp : post v I) (hlocks : meth.locks = false) (hdg : decode cc pc = .ok (.ireturn, 1)) :
    W p l e R s m args below meth c H locs cells slots (MQ below (va_Qi post (zq_E X z) (zq_A X)) args s cells slots (zq_A X)) (F0 m pc ls [.int v]) :=
  W.zret E.1 E.2.1 hrt hnr (fun t ht hW => ⟨⟨v, I, rfl, hp, by show zq_hm _ _ _ _; rw [ht]; exact hM⟩, hS.F ht⟩) hS.2.2 hdg hlocks
end ZQ7
