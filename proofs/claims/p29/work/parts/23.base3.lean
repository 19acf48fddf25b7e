theorem zf_ia {X : zq_X} {L : List (Nat × Nat)} {P : Nat → Prop} {a k j : Nat} (hk : zq_k X a = k) (h : (k, 999) ∈ L) (hw : zf_w k = false) : zf X L P a j := zf_i hk (List.any_eq_true.mpr ⟨_, h, by simp⟩) hw
theorem zf_iaw {X : zq_X} {L : List (Nat × Nat)} {P : Nat → Prop} {a k j : Nat} (hk : zq_k X a = k) (h : (k, 999) ∈ L) (hp : P a) : zf X L P a j := zf_iw hk (List.any_eq_true.mpr ⟨_, h, by simp⟩) hp
theorem zq_rokI {ws : List Cond} {d n h : Nat} (h1 : d + 1 ≤ h) (h2 : n ≤ 45) : zq_rok d n (headSpec ws (zq_rm h)).room := by
  show d + 1 ≤ h ∧ 8 + (n + 11) + 64 * d ≤ 64 * h
  omega
section ZQ5
variable {p : Program} {l : Launch} {e : Env} {R : Room} {s : State} {m : MethodId} {args : Array Value} {below : List Frame} {meth : Method} {c : Code} {H : Heap} {locs : List Loc} {cells slots : Nat} {Q : State → Prop}
variable {cc : ByteArray} {nL pc n : Nat} {ls : Array Slot} {rest st0 : List Value} {Ts : List Cond} {own : String} {X : zq_X} {z z2 : zq_Z} {I : zq_M} {a k j index : Nat} {aa : Array Value}
theorem zq_nload_n (hexec : p.tables.exec = Jvm.exec) (hb : c.code = cc) {k : Fin 4} {i : Nat} (hdg : decode cc pc = .ok (.aload_n k, 1)) (hi : (k : Nat) = i) (hl : ls[i]? = some (.val .null)) (kk : W p l e R s m args below meth c H locs cells slots Q (F0 m (pc + 1) ls (.null :: rest))) : W p l e R s m args below meth c H locs cells slots Q (F0 m pc ls (rest)) := lv_aload_nN hexec hb hdg hi hl kk
theorem zq_nload (hexec : p.tables.exec = Jvm.exec) (hb : c.code = cc) {i : Nat} (hdg : decode cc pc = .ok (.aload i, 2)) (hl : ls[i]? = some (.val .null)) (kk : W p l e R s m args below meth c H locs cells slots Q (F0 m (pc + 2) ls (.null :: rest))) : W p l e R s m args below meth c H locs cells slots Q (F0 m pc ls (rest)) := lv_aloadN hexec hb hdg hl kk
theorem zq_oload_n (hexec : p.tables.exec = Jvm.exec) (hb : c.code = cc) {k : Fin 4} {i : Nat} {q : Option Nat} (hdg : decode cc pc = .ok (.aload_n k, 1)) (hi : (k : Nat) = i) (hl : ls[i]? = some (.val (va_rf q))) (kk : W p l e R s m args below meth c H locs cells slots Q (F0 m (pc + 1) ls (va_rf q :: rest))) : W p l e R s m args below meth c H locs cells slots Q (F0 m pc ls (rest)) := by
  cases q with
  | none => exact lv_aload_nN hexec hb hdg hi hl kk
  | some x => exact lv_aload_n hexec hb hdg hi hl kk
theorem zq_oload (hexec : p.tables.exec = Jvm.exec) (hb : c.code = cc) {i : Nat} {q : Option Nat} (hdg : decode cc pc = .ok (.aload i, 2)) (hl : ls[i]? = some (.val (va_rf q))) (kk : W p l e R s m args below meth c H locs cells slots Q (F0 m (pc + 2) ls (va_rf q :: rest))) : W p l e R s m args below meth c H locs cells slots Q (F0 m pc ls (rest)) := by
  cases q with
  | none => exact lv_aloadN hexec hb hdg hl kk
  | some x => exact lv_aload hexec hb hdg hl kk
theorem zq_oret {post : zq_M → Prop} {B : zq_M → Option Nat → Prop} {q : Option Nat} {n : String} (E : CallFix p m c cc nL s args Ts own) (hrt : meth.sig.returnType = some (.object n)) (hZ : zq_K X s) (hM : zq_hm X z I H) (hS : va_S (zq_A X) s.heap H locs) (hp : post I) (hB : B I q) (hlocks : meth.locks = false) (hdg : decode cc pc = .ok (.areturn, 1)) :
    W p l e R s m args below meth c H locs cells slots (MQ below (fun _ st oc t => (∃ (u : zq_M) (q : Option Nat), oc = .returned (some (va_rf q)) ∧ post u ∧ zq_E X z u t ∧ B u q) ∧ va_F (zq_A X) st t) args s cells slots (zq_A X)) (F0 m pc ls [va_rf q]) :=
  W.aret E.1 E.2.1 hrt (Or.inl ⟨n, rfl⟩) (by cases q with | none => exact Or.inl rfl | some x => exact Or.inr ⟨x, rfl⟩) (fun t ht hW => ⟨⟨I, q, rfl, hp, by show zq_hm _ _ _ _; rw [ht]; exact hM, hB⟩, hS.F ht⟩) hS.2.2 hdg hlocks
end ZQ5
theorem zq_ofW {l : Launch} {y : MethodName} {ws ws' : List Cond} {rm : Room} {Pc : Array Value → State → Prop} {Qc : Array Value → State → Outcome → State → Prop} {mc ms : Nat} {free : Addr → Prop} {cc : ByteArray} {maxL : Nat} {ret : Option FieldType}
    (hy : plainFor y = true) (hw : ws = Cond.code y cc maxL ret :: ws')
    (body : ∀ p e s m args below meth c s₁, BodyLoose p l y (headSpec ws rm) cc maxL ret e s m args below meth c s₁ → c.maxLocals = maxL → Pc args s →
      W p l e (headSpec ws rm).room s m args below meth c s.heap [] 0 0 (MQ below Qc args s mc ms free) (entryFrame m args maxL)) : Met l y ws rm Pc Qc mc ms free := by
  refine MetFree.of_bodySF (code := cc) (maxLocals := maxL) (ret := ret) hy ?_ ?_
  · intro args s m h hn
    obtain ⟨meth, c, h1, h2, h3, h4, h5, h6, -, -⟩ := Cond.code_spec hn (atoms_spec (ws := ws) h _ (by rw [hw]; exact List.mem_cons_self))
    exact ⟨meth, c, h1, h2, h3, h4, h5, h6⟩
  · intro p e s m args below meth c s₁ B hml hP _
    have hh0 : s₁.heap = s.heap := by rw [B.state]; rfl
    obtain ⟨t, a1, o, b1, b2, b3⟩ := body p e s m args below meth c s₁ B hml hP s₁ hh0 (Stand.of_body B)
    exact ⟨t, o, a1, b1, b2, ⟨b3.1, b3.2⟩⟩
theorem zl_m122 : (-122 : Int32).toInt = -122 := by decide +kernel
theorem zl_m106 : (-106 : Int32).toInt = -106 := by decide +kernel
theorem zl_m105 : (-105 : Int32).toInt = -105 := by decide +kernel
theorem zl_m101 : (-101 : Int32).toInt = -101 := by decide +kernel
theorem zl_m100 : (-100 : Int32).toInt = -100 := by decide +kernel
theorem zl_m99 : (-99 : Int32).toInt = -99 := by decide +kernel
theorem zl_m97 : (-97 : Int32).toInt = -97 := by decide +kernel
theorem zl_m93 : (-93 : Int32).toInt = -93 := by decide +kernel
theorem zl_m91 : (-91 : Int32).toInt = -91 := by decide +kernel
theorem zl_m85 : (-85 : Int32).toInt = -85 := by decide +kernel
theorem zl_m73 : (-73 : Int32).toInt = -73 := by decide +kernel
theorem zl_m72 : (-72 : Int32).toInt = -72 := by decide +kernel
theorem zl_m71 : (-71 : Int32).toInt = -71 := by decide +kernel
theorem zl_m64 : (-64 : Int32).toInt = -64 := by decide +kernel
theorem zl_m63 : (-63 : Int32).toInt = -63 := by decide +kernel
theorem zl_m62 : (-62 : Int32).toInt = -62 := by decide +kernel
theorem zl_m61 : (-61 : Int32).toInt = -61 := by decide +kernel
theorem zl_m60 : (-60 : Int32).toInt = -60 := by decide +kernel
theorem zl_m59 : (-59 : Int32).toInt = -59 := by decide +kernel
theorem zl_m57 : (-57 : Int32).toInt = -57 := by decide +kernel
theorem zl_m48 : (-48 : Int32).toInt = -48 := by decide +kernel
theorem zl_m47 : (-47 : Int32).toInt = -47 := by decide +kernel
theorem zl_m45 : (-45 : Int32).toInt = -45 := by decide +kernel
theorem zl_m43 : (-43 : Int32).toInt = -43 := by decide +kernel
theorem zl_m42 : (-42 : Int32).toInt = -42 := by decide +kernel
theorem zl_m40 : (-40 : Int32).toInt = -40 := by decide +kernel
theorem zl_m37 : (-37 : Int32).toInt = -37 := by decide +kernel
theorem zl_m35 : (-35 : Int32).toInt = -35 := by decide +kernel
theorem zl_m32 : (-32 : Int32).toInt = -32 := by decide +kernel
theorem zl_m31 : (-31 : Int32).toInt = -31 := by decide +kernel
theorem zl_m25 : (-25 : Int32).toInt = -25 := by decide +kernel
theorem zl_m24 : (-24 : Int32).toInt = -24 := by decide +kernel
theorem zl_m20 : (-20 : Int32).toInt = -20 := by decide +kernel
theorem zl_m16 : (-16 : Int32).toInt = -16 := by decide +kernel
theorem zl_m15 : (-15 : Int32).toInt = -15 := by decide +kernel
theorem zl_m14 : (-14 : Int32).toInt = -14 := by decide +kernel
theorem zl_m13 : (-13 : Int32).toInt = -13 := by decide +kernel
theorem zl_m12 : (-12 : Int32).toInt = -12 := by decide +kernel
theorem zl_m11 : (-11 : Int32).toInt = -11 := by decide +kernel
theorem zl_m10 : (-10 : Int32).toInt = -10 := by decide +kernel
theorem zl_m9 : (-9 : Int32).toInt = -9 := by decide +kernel
theorem zl_m8 : (-8 : Int32).toInt = -8 := by decide +kernel
theorem zl_m7 : (-7 : Int32).toInt = -7 := by decide +kernel
theorem zl_m6 : (-6 : Int32).toInt = -6 := by decide +kernel
theorem zl_m5 : (-5 : Int32).toInt = -5 := by decide +kernel
theorem zl_m4 : (-4 : Int32).toInt = -4 := by decide +kernel
theorem zl_m3 : (-3 : Int32).toInt = -3 := by decide +kernel
theorem zl_m2 : (-2 : Int32).toInt = -2 := by decide +kernel
theorem zl_m1 : (-1 : Int32).toInt = -1 := by decide +kernel
theorem zl_0 : (0 : Int32).toInt = 0 := by decide +kernel
theorem zl_1 : (1 : Int32).toInt = 1 := by decide +kernel
theorem zl_2 : (2 : Int32).toInt = 2 := by decide +kernel
theorem zl_3 : (3 : Int32).toInt = 3 := by decide +kernel
theorem zl_4 : (4 : Int32).toInt = 4 := by decide +kernel
theorem zl_5 : (5 : Int32).toInt = 5 := by decide +kernel
theorem zl_6 : (6 : Int32).toInt = 6 := by decide +kernel
theorem zl_7 : (7 : Int32).toInt = 7 := by decide +kernel
theorem zl_8 : (8 : Int32).toInt = 8 := by decide +kernel
theorem zl_9 : (9 : Int32).toInt = 9 := by decide +kernel
theorem zl_10 : (10 : Int32).toInt = 10 := by decide +kernel
theorem zl_11 : (11 : Int32).toInt = 11 := by decide +kernel
theorem zl_12 : (12 : Int32).toInt = 12 := by decide +kernel
theorem zl_13 : (13 : Int32).toInt = 13 := by decide +kernel
theorem zl_14 : (14 : Int32).toInt = 14 := by decide +kernel
theorem zl_15 : (15 : Int32).toInt = 15 := by decide +kernel
theorem zl_16 : (16 : Int32).toInt = 16 := by decide +kernel
theorem zl_20 : (20 : Int32).toInt = 20 := by decide +kernel
theorem zl_21 : (21 : Int32).toInt = 21 := by decide +kernel
theorem zl_24 : (24 : Int32).toInt = 24 := by decide +kernel
theorem zl_25 : (25 : Int32).toInt = 25 := by decide +kernel
theorem zl_31 : (31 : Int32).toInt = 31 := by decide +kernel
theorem zl_32 : (32 : Int32).toInt = 32 := by decide +kernel
theorem zl_35 : (35 : Int32).toInt = 35 := by decide +kernel
theorem zl_37 : (37 : Int32).toInt = 37 := by decide +kernel
theorem zl_40 : (40 : Int32).toInt = 40 := by decide +kernel
theorem zl_42 : (42 : Int32).toInt = 42 := by decide +kernel
theorem zl_43 : (43 : Int32).toInt = 43 := by decide +kernel
theorem zl_45 : (45 : Int32).toInt = 45 := by decide +kernel
theorem zl_47 : (47 : Int32).toInt = 47 := by decide +kernel
theorem zl_48 : (48 : Int32).toInt = 48 := by decide +kernel
theorem zl_57 : (57 : Int32).toInt = 57 := by decide +kernel
theorem zl_59 : (59 : Int32).toInt = 59 := by decide +kernel
theorem zl_60 : (60 : Int32).toInt = 60 := by decide +kernel
theorem zl_61 : (61 : Int32).toInt = 61 := by decide +kernel
theorem zl_62 : (62 : Int32).toInt = 62 := by decide +kernel
theorem zl_63 : (63 : Int32).toInt = 63 := by decide +kernel
theorem zl_64 : (64 : Int32).toInt = 64 := by decide +kernel
theorem zl_71 : (71 : Int32).toInt = 71 := by decide +kernel
theorem zl_72 : (72 : Int32).toInt = 72 := by decide +kernel
theorem zl_73 : (73 : Int32).toInt = 73 := by decide +kernel
theorem zl_85 : (85 : Int32).toInt = 85 := by decide +kernel
theorem zl_91 : (91 : Int32).toInt = 91 := by decide +kernel
theorem zl_93 : (93 : Int32).toInt = 93 := by decide +kernel
theorem zl_97 : (97 : Int32).toInt = 97 := by decide +kernel
theorem zl_99 : (99 : Int32).toInt = 99 := by decide +kernel
theorem zl_100 : (100 : Int32).toInt = 100 := by decide +kernel
theorem zl_101 : (101 : Int32).toInt = 101 := by decide +kernel
theorem zl_105 : (105 : Int32).toInt = 105 := by decide +kernel
theorem zl_106 : (106 : Int32).toInt = 106 := by decide +kernel
theorem zl_122 : (122 : Int32).toInt = 122 := by decide +kernel
theorem zl_255 : (255 : Int32).toInt = 255 := by decide +kernel
theorem zl_256 : (256 : Int32).toInt = 256 := by decide +kernel
theorem zl_257 : (257 : Int32).toInt = 257 := by decide +kernel
theorem zl_288 : (288 : Int32).toInt = 288 := by decide +kernel
theorem zl_400 : (400 : Int32).toInt = 400 := by decide +kernel
theorem zl_401 : (401 : Int32).toInt = 401 := by decide +kernel
theorem zl_424 : (424 : Int32).toInt = 424 := by decide +kernel
theorem zl_427 : (427 : Int32).toInt = 427 := by decide +kernel
theorem zl_700 : (700 : Int32).toInt = 700 := by decide +kernel
theorem zl_999 : (999 : Int32).toInt = 999 := by decide +kernel
theorem zl_2400 : (2400 : Int32).toInt = 2400 := by decide +kernel
theorem zl_9999 : (9999 : Int32).toInt = 9999 := by decide +kernel
theorem zl_99999 : (99999 : Int32).toInt = 99999 := by decide +kernel
theorem zCX3_132 : Cond.constantLong RX3 132 (-2) ∈ zt := zt_t 797 (by decide +kernel) rfl
theorem zCX10_138 : Cond.constant RX10 138 (99999) ∈ zt := zt_t 852 (by decide +kernel) rfl
theorem zCX11_265 : Cond.constant RX11 265 (99999) ∈ zt := zt_t 1038 (by decide +kernel) rfl
theorem zCX2_152 : Cond.constantLong RX2 152 (1103515245) ∈ zt := zt_t 1095 (by decide +kernel) rfl
theorem zCX2_154 : Cond.constantLong RX2 154 (12345) ∈ zt := zt_t 1096 (by decide +kernel) rfl
theorem zCX2_156 : Cond.constantLong RX2 156 (2147483648) ∈ zt := zt_t 1097 (by decide +kernel) rfl
theorem zCX2_158 : Cond.constantLong RX2 158 (65536) ∈ zt := zt_t 1098 (by decide +kernel) rfl
theorem zCX2_160 : Cond.constantLong RX2 160 (101) ∈ zt := zt_t 1099 (by decide +kernel) rfl
theorem zCX12_218 : Cond.constantLong RX12 218 (500135191653) ∈ zt := zt_t 1274 (by decide +kernel) rfl
theorem zCX12_223 : Cond.constantLong RX12 223 (440006570868) ∈ zt := zt_t 1283 (by decide +kernel) rfl
theorem zCX12_116 : Cond.constantLong RX12 116 (1936222576) ∈ zt := zt_t 1284 (by decide +kernel) rfl
theorem zCX12_118 : Cond.constantLong RX12 118 (1953462126) ∈ zt := zt_t 1285 (by decide +kernel) rfl
theorem zCX12_140 : Cond.constantLong RX12 140 (448546567013) ∈ zt := zt_t 1286 (by decide +kernel) rfl
theorem zCX12_240 : Cond.constantLong RX12 240 (1935763820) ∈ zt := zt_t 1287 (by decide +kernel) rfl
theorem zCX12_162 : Cond.constant RX12 162 (99999) ∈ zt := zt_t 1351 (by decide +kernel) rfl
theorem zCX12_120 : Cond.constantLong RX12 120 (120325361920115) ∈ zt := zt_t 1364 (by decide +kernel) rfl
theorem zCX12_122 : Cond.constantLong RX12 122 (1751474548) ∈ zt := zt_t 1365 (by decide +kernel) rfl
theorem zCX12_124 : Cond.constantLong RX12 124 (2002873972) ∈ zt := zt_t 1366 (by decide +kernel) rfl
theorem zCX12_126 : Cond.constantLong RX12 126 (482955846501) ∈ zt := zt_t 1367 (by decide +kernel) rfl
theorem zCX12_128 : Cond.constantLong RX12 128 (495874696043) ∈ zt := zt_t 1368 (by decide +kernel) rfl
theorem zCX12_130 : Cond.constantLong RX12 130 (109330228145767) ∈ zt := zt_t 1369 (by decide +kernel) rfl
theorem zCX12_132 : Cond.constantLong RX12 132 (1886350948) ∈ zt := zt_t 1370 (by decide +kernel) rfl
theorem zCX12_134 : Cond.constantLong RX12 134 (1752132708) ∈ zt := zt_t 1371 (by decide +kernel) rfl
theorem zCX12_136 : Cond.constantLong RX12 136 (470020941177) ∈ zt := zt_t 1372 (by decide +kernel) rfl
theorem zCX12_138 : Cond.constantLong RX12 138 (470020945000) ∈ zt := zt_t 1373 (by decide +kernel) rfl
theorem zCX12_206 : Cond.constantLong RX12 206 (26982) ∈ zt := zt_t 1374 (by decide +kernel) rfl
theorem zCX12_182 : Cond.constantLong RX12 182 (7237492) ∈ zt := zt_t 1387 (by decide +kernel) rfl
theorem zCX12_202 : Cond.constantLong RX12 202 (6385252) ∈ zt := zt_t 1411 (by decide +kernel) rfl
theorem zCX12_204 : Cond.constantLong RX12 204 (28530) ∈ zt := zt_t 1412 (by decide +kernel) rfl
theorem zCX12_291 : Cond.constantLong RX12 291 (5) ∈ zt := zt_t 1437 (by decide +kernel) rfl
theorem zCX12_366 : Cond.constantLong RX12 366 (99) ∈ zt := zt_t 1559 (by decide +kernel) rfl
theorem zCX12_384 : Cond.constantLong RX12 384 (60) ∈ zt := zt_t 1596 (by decide +kernel) rfl
theorem zCX12_386 : Cond.constantLong RX12 386 (3) ∈ zt := zt_t 1597 (by decide +kernel) rfl
theorem zCX12_394 : Cond.constantLong RX12 394 (999) ∈ zt := zt_t 1610 (by decide +kernel) rfl
theorem zCX12_399 : Cond.constantLong RX12 399 (24) ∈ zt := zt_t 1623 (by decide +kernel) rfl
theorem zCX12_417 : Cond.constantLong RX12 417 (2) ∈ zt := zt_t 1655 (by decide +kernel) rfl
theorem zCX12_428 : Cond.constantLong RX12 428 (99999) ∈ zt := zt_t 1688 (by decide +kernel) rfl
theorem zCX12_454 : Cond.constantLong RX12 454 (10) ∈ zt := zt_t 1716 (by decide +kernel) rfl
theorem zCX12_446 : Cond.constantLong RX12 446 (1103515245) ∈ zt := zt_t 1721 (by decide +kernel) rfl
theorem zCX12_448 : Cond.constantLong RX12 448 (12345) ∈ zt := zt_t 1722 (by decide +kernel) rfl
theorem zCX12_450 : Cond.constantLong RX12 450 (2147483648) ∈ zt := zt_t 1723 (by decide +kernel) rfl
theorem zCX12_452 : Cond.constantLong RX12 452 (65536) ∈ zt := zt_t 1724 (by decide +kernel) rfl
