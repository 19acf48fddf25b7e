theorem zt_all {ws : List Cond} (ps : List Nat) (h : ws = ps.filterMap (fun i => tables_1[i]?)) (hg : ws.all goodWord = true) : ∀ w ∈ ws, w ∈ zt := fun w hw => by
  have hg := List.all_eq_true.mp hg w hw
  rw [h] at hw
  obtain ⟨i, -, hi⟩ := List.mem_filterMap.mp hw
  exact zt_t i hi hg
set_option maxRecDepth 100000 in
theorem iz_X0 : ∀ w ∈ wsX00, w ∈ zt := zt_all [319, 321, 323, 325, 327, 329, 331] (by decide +kernel) (by decide +kernel)
set_option maxRecDepth 100000 in
theorem iz_X1 : ∀ w ∈ wsX10, w ∈ zt := zt_all [380, 382, 384] (by decide +kernel) (by decide +kernel)
set_option maxRecDepth 100000 in
theorem iz_X2 : ∀ w ∈ wsX20, w ∈ zt := zt_all [353, 355, 357, 359, 361, 363] (by decide +kernel) (by decide +kernel)
set_option maxRecDepth 100000 in
theorem iz_X3 : ∀ w ∈ wsX30, w ∈ zt := zt_all [112, 114, 116, 118, 120, 122, 124, 126, 128, 130, 132, 134, 136, 138, 140, 142] (by decide +kernel) (by decide +kernel)
set_option maxRecDepth 100000 in
theorem iz_X5 : ∀ w ∈ wsX50, w ∈ zt := zt_all [182, 184, 186, 188, 190, 192] (by decide +kernel) (by decide +kernel)
set_option maxRecDepth 100000 in
theorem iz_X6 : ∀ w ∈ wsX60, w ∈ zt := zt_all [64, 66, 68, 70, 72, 74, 76, 78, 80, 82] (by decide +kernel) (by decide +kernel)
set_option maxRecDepth 100000 in
theorem iz_X7 : ∀ w ∈ wsX70, w ∈ zt := zt_all [229, 231, 233, 235, 237, 239, 241] (by decide +kernel) (by decide +kernel)
set_option maxRecDepth 100000 in
theorem iz_X10 : ∀ w ∈ wsX100, w ∈ zt := zt_all [281, 283, 285, 287, 289, 291, 293, 295, 297, 299] (by decide +kernel) (by decide +kernel)
set_option maxRecDepth 100000 in
theorem iz_X11 : ∀ w ∈ wsX110, w ∈ zt := zt_all [399, 401, 403, 405, 407, 409, 411, 413, 415, 417, 419, 421] (by decide +kernel) (by decide +kernel)
set_option maxRecDepth 100000 in
theorem iz_X12 : ∀ w ∈ wsX120, w ∈ zt := zt_all [1173, 1175, 1177, 1179, 1181, 1183, 1185, 1187, 1189, 1191, 1193, 1195, 1197, 1199, 1201, 1203, 1205, 1207, 1209, 1211, 1213, 1215, 1217, 1219, 1221, 1223, 1225, 1227, 1229, 1231, 1233, 1235, 1237, 1239] (by decide +kernel) (by decide +kernel)
section ZW
variable {p : Program} {s : State} {m : MethodId} {args : Array Value} {c : Code} {cc : ByteArray} {nL : Nat} {w0 : Cond} {X : zq_X}
theorem zLX9_69 : Cond.fieldLink RX9 69 "PondIceTrade$Word" "$VALUES" "[LPondIceTrade$Word;" ∈ zt := zt_t 38 (by decide +kernel) rfl
theorem zLX6_38 : Cond.fieldLink RX6 38 "PondIceTrade$Word" "OTHER" "LPondIceTrade$Word;" ∈ zt := zt_t 49 (by decide +kernel) rfl
theorem zLX6_11 : Cond.fieldLink RX6 11 "PondIceTrade$Tape" "bytes" "[B" ∈ zt := zt_t 51 (by decide +kernel) rfl
theorem zFX6_11 (E : CallFix p m c cc nL s args (w0 :: zt) RX6) (hZ : zq_K X s) : zq_F X s args RX6 11 6 0 := zq_F.of (C := RX6) (T := TX6) (N := 10) E hZ rfl (fun w h => List.mem_cons_of_mem _ (iz_X6 w h)) (by decide) (List.mem_cons_of_mem _ zLX6_11)
theorem zLX6_42 : Cond.fieldLink RX6 42 "PondIceTrade$Tape" "length" "I" ∈ zt := zt_t 52 (by decide +kernel) rfl
theorem zFX6_42 (E : CallFix p m c cc nL s args (w0 :: zt) RX6) (hZ : zq_K X s) : zq_F X s args RX6 42 6 1 := zq_F.of (C := RX6) (T := TX6) (N := 10) E hZ rfl (fun w h => List.mem_cons_of_mem _ (iz_X6 w h)) (by decide) (List.mem_cons_of_mem _ zLX6_42)
theorem zGX6_42 (E : CallFix p m c cc nL s args (w0 :: zt) RX6) (hZ : zq_K X s) : zq_G X s args RX6 42 6 1 .int := zq_G.of (C := RX6) (T := TX6) (N := 10) E hZ rfl (fun w h => List.mem_cons_of_mem _ (iz_X6 w h)) rfl tyX6 tyX6_ok nmX6 (by decide) rfl rfl (List.mem_cons_of_mem _ zLX6_42)
theorem zLX11_71 : Cond.fieldLink RX11 71 "PondIceTrade$Tape" "length" "I" ∈ zt := zt_t 53 (by decide +kernel) rfl
theorem zFX11_71 (E : CallFix p m c cc nL s args (w0 :: zt) RX11) (hZ : zq_K X s) : zq_F X s args RX11 71 6 1 := zq_F.of (C := RX6) (T := TX6) (N := 10) E hZ rfl (fun w h => List.mem_cons_of_mem _ (iz_X6 w h)) (by decide) (List.mem_cons_of_mem _ zLX11_71)
theorem zGX11_71 (E : CallFix p m c cc nL s args (w0 :: zt) RX11) (hZ : zq_K X s) : zq_G X s args RX11 71 6 1 .int := zq_G.of (C := RX6) (T := TX6) (N := 10) E hZ rfl (fun w h => List.mem_cons_of_mem _ (iz_X6 w h)) rfl tyX6 tyX6_ok nmX6 (by decide) rfl rfl (List.mem_cons_of_mem _ zLX11_71)
theorem zLX6_21 : Cond.fieldLink RX6 21 "PondIceTrade$Tape" "words" "[LPondIceTrade$Word;" ∈ zt := zt_t 54 (by decide +kernel) rfl
theorem zFX6_21 (E : CallFix p m c cc nL s args (w0 :: zt) RX6) (hZ : zq_K X s) : zq_F X s args RX6 21 6 2 := zq_F.of (C := RX6) (T := TX6) (N := 10) E hZ rfl (fun w h => List.mem_cons_of_mem _ (iz_X6 w h)) (by decide) (List.mem_cons_of_mem _ zLX6_21)
theorem zLX6_25 : Cond.fieldLink RX6 25 "PondIceTrade$Tape" "kinds" "[I" ∈ zt := zt_t 55 (by decide +kernel) rfl
theorem zFX6_25 (E : CallFix p m c cc nL s args (w0 :: zt) RX6) (hZ : zq_K X s) : zq_F X s args RX6 25 6 3 := zq_F.of (C := RX6) (T := TX6) (N := 10) E hZ rfl (fun w h => List.mem_cons_of_mem _ (iz_X6 w h)) (by decide) (List.mem_cons_of_mem _ zLX6_25)
theorem zLX6_29 : Cond.fieldLink RX6 29 "PondIceTrade$Tape" "places" "[I" ∈ zt := zt_t 56 (by decide +kernel) rfl
theorem zFX6_29 (E : CallFix p m c cc nL s args (w0 :: zt) RX6) (hZ : zq_K X s) : zq_F X s args RX6 29 6 4 := zq_F.of (C := RX6) (T := TX6) (N := 10) E hZ rfl (fun w h => List.mem_cons_of_mem _ (iz_X6 w h)) (by decide) (List.mem_cons_of_mem _ zLX6_29)
theorem zLX6_32 : Cond.fieldLink RX6 32 "PondIceTrade$Tape" "numbers" "[I" ∈ zt := zt_t 57 (by decide +kernel) rfl
theorem zFX6_32 (E : CallFix p m c cc nL s args (w0 :: zt) RX6) (hZ : zq_K X s) : zq_F X s args RX6 32 6 5 := zq_F.of (C := RX6) (T := TX6) (N := 10) E hZ rfl (fun w h => List.mem_cons_of_mem _ (iz_X6 w h)) (by decide) (List.mem_cons_of_mem _ zLX6_32)
theorem zLX6_35 : Cond.fieldLink RX6 35 "PondIceTrade$Tape" "wordRow" "[LPondIceTrade$Word;" ∈ zt := zt_t 58 (by decide +kernel) rfl
theorem zFX6_35 (E : CallFix p m c cc nL s args (w0 :: zt) RX6) (hZ : zq_K X s) : zq_F X s args RX6 35 6 6 := zq_F.of (C := RX6) (T := TX6) (N := 10) E hZ rfl (fun w h => List.mem_cons_of_mem _ (iz_X6 w h)) (by decide) (List.mem_cons_of_mem _ zLX6_35)
theorem zLX6_52 : Cond.fieldLink RX6 52 "PondIceTrade$Tape" "tokenCount" "I" ∈ zt := zt_t 59 (by decide +kernel) rfl
theorem zFX6_52 (E : CallFix p m c cc nL s args (w0 :: zt) RX6) (hZ : zq_K X s) : zq_F X s args RX6 52 6 7 := zq_F.of (C := RX6) (T := TX6) (N := 10) E hZ rfl (fun w h => List.mem_cons_of_mem _ (iz_X6 w h)) (by decide) (List.mem_cons_of_mem _ zLX6_52)
theorem zGX6_52 (E : CallFix p m c cc nL s args (w0 :: zt) RX6) (hZ : zq_K X s) : zq_G X s args RX6 52 6 7 .int := zq_G.of (C := RX6) (T := TX6) (N := 10) E hZ rfl (fun w h => List.mem_cons_of_mem _ (iz_X6 w h)) rfl tyX6 tyX6_ok nmX6 (by decide) rfl rfl (List.mem_cons_of_mem _ zLX6_52)
theorem zLX6_49 : Cond.fieldLink RX6 49 "PondIceTrade$Tape" "at" "I" ∈ zt := zt_t 60 (by decide +kernel) rfl
theorem zFX6_49 (E : CallFix p m c cc nL s args (w0 :: zt) RX6) (hZ : zq_K X s) : zq_F X s args RX6 49 6 8 := zq_F.of (C := RX6) (T := TX6) (N := 10) E hZ rfl (fun w h => List.mem_cons_of_mem _ (iz_X6 w h)) (by decide) (List.mem_cons_of_mem _ zLX6_49)
theorem zGX6_49 (E : CallFix p m c cc nL s args (w0 :: zt) RX6) (hZ : zq_K X s) : zq_G X s args RX6 49 6 8 .int := zq_G.of (C := RX6) (T := TX6) (N := 10) E hZ rfl (fun w h => List.mem_cons_of_mem _ (iz_X6 w h)) rfl tyX6 tyX6_ok nmX6 (by decide) rfl rfl (List.mem_cons_of_mem _ zLX6_49)
theorem zLX6_46 : Cond.fieldLink RX6 46 "PondIceTrade$Tape" "fault" "I" ∈ zt := zt_t 61 (by decide +kernel) rfl
theorem zFX6_46 (E : CallFix p m c cc nL s args (w0 :: zt) RX6) (hZ : zq_K X s) : zq_F X s args RX6 46 6 9 := zq_F.of (C := RX6) (T := TX6) (N := 10) E hZ rfl (fun w h => List.mem_cons_of_mem _ (iz_X6 w h)) (by decide) (List.mem_cons_of_mem _ zLX6_46)
theorem zGX6_46 (E : CallFix p m c cc nL s args (w0 :: zt) RX6) (hZ : zq_K X s) : zq_G X s args RX6 46 6 9 .int := zq_G.of (C := RX6) (T := TX6) (N := 10) E hZ rfl (fun w h => List.mem_cons_of_mem _ (iz_X6 w h)) rfl tyX6 tyX6_ok nmX6 (by decide) rfl rfl (List.mem_cons_of_mem _ zLX6_46)
theorem zLX11_85 : Cond.fieldLink RX11 85 "PondIceTrade$Tape" "fault" "I" ∈ zt := zt_t 62 (by decide +kernel) rfl
theorem zFX11_85 (E : CallFix p m c cc nL s args (w0 :: zt) RX11) (hZ : zq_K X s) : zq_F X s args RX11 85 6 9 := zq_F.of (C := RX6) (T := TX6) (N := 10) E hZ rfl (fun w h => List.mem_cons_of_mem _ (iz_X6 w h)) (by decide) (List.mem_cons_of_mem _ zLX11_85)
theorem zGX11_85 (E : CallFix p m c cc nL s args (w0 :: zt) RX11) (hZ : zq_K X s) : zq_G X s args RX11 85 6 9 .int := zq_G.of (C := RX6) (T := TX6) (N := 10) E hZ rfl (fun w h => List.mem_cons_of_mem _ (iz_X6 w h)) rfl tyX6 tyX6_ok nmX6 (by decide) rfl rfl (List.mem_cons_of_mem _ zLX11_85)
theorem zLX8_86 : Cond.fieldLink RX8 86 "PondIceTrade$Tape" "fault" "I" ∈ zt := zt_t 63 (by decide +kernel) rfl
theorem zFX8_86 (E : CallFix p m c cc nL s args (w0 :: zt) RX8) (hZ : zq_K X s) : zq_F X s args RX8 86 6 9 := zq_F.of (C := RX6) (T := TX6) (N := 10) E hZ rfl (fun w h => List.mem_cons_of_mem _ (iz_X6 w h)) (by decide) (List.mem_cons_of_mem _ zLX8_86)
theorem zGX8_86 (E : CallFix p m c cc nL s args (w0 :: zt) RX8) (hZ : zq_K X s) : zq_G X s args RX8 86 6 9 .int := zq_G.of (C := RX6) (T := TX6) (N := 10) E hZ rfl (fun w h => List.mem_cons_of_mem _ (iz_X6 w h)) rfl tyX6 tyX6_ok nmX6 (by decide) rfl rfl (List.mem_cons_of_mem _ zLX8_86)
theorem zLX3_11 : Cond.fieldLink RX3 11 "PondIceTrade$Rule" "words" "[J" ∈ zt := zt_t 94 (by decide +kernel) rfl
theorem zFX3_11 (E : CallFix p m c cc nL s args (w0 :: zt) RX3) (hZ : zq_K X s) : zq_F X s args RX3 11 4 0 := zq_F.of (C := RX3) (T := TX3) (N := 16) E hZ rfl (fun w h => List.mem_cons_of_mem _ (iz_X3 w h)) (by decide) (List.mem_cons_of_mem _ zLX3_11)
theorem zLX3_15 : Cond.fieldLink RX3 15 "PondIceTrade$Rule" "joins" "[I" ∈ zt := zt_t 95 (by decide +kernel) rfl
theorem zFX3_15 (E : CallFix p m c cc nL s args (w0 :: zt) RX3) (hZ : zq_K X s) : zq_F X s args RX3 15 4 1 := zq_F.of (C := RX3) (T := TX3) (N := 16) E hZ rfl (fun w h => List.mem_cons_of_mem _ (iz_X3 w h)) (by decide) (List.mem_cons_of_mem _ zLX3_15)
theorem zLX3_19 : Cond.fieldLink RX3 19 "PondIceTrade$Rule" "operands" "[I" ∈ zt := zt_t 96 (by decide +kernel) rfl
theorem zFX3_19 (E : CallFix p m c cc nL s args (w0 :: zt) RX3) (hZ : zq_K X s) : zq_F X s args RX3 19 4 2 := zq_F.of (C := RX3) (T := TX3) (N := 16) E hZ rfl (fun w h => List.mem_cons_of_mem _ (iz_X3 w h)) (by decide) (List.mem_cons_of_mem _ zLX3_19)
theorem zLX3_51 : Cond.fieldLink RX3 51 "PondIceTrade$Rule" "valueCount" "I" ∈ zt := zt_t 97 (by decide +kernel) rfl
theorem zFX3_51 (E : CallFix p m c cc nL s args (w0 :: zt) RX3) (hZ : zq_K X s) : zq_F X s args RX3 51 4 3 := zq_F.of (C := RX3) (T := TX3) (N := 16) E hZ rfl (fun w h => List.mem_cons_of_mem _ (iz_X3 w h)) (by decide) (List.mem_cons_of_mem _ zLX3_51)
theorem zGX3_51 (E : CallFix p m c cc nL s args (w0 :: zt) RX3) (hZ : zq_K X s) : zq_G X s args RX3 51 4 3 .int := zq_G.of (C := RX3) (T := TX3) (N := 16) E hZ rfl (fun w h => List.mem_cons_of_mem _ (iz_X3 w h)) rfl tyX3 tyX3_ok nmX3 (by decide) rfl rfl (List.mem_cons_of_mem _ zLX3_51)
theorem zLX4_53 : Cond.fieldLink RX4 53 "PondIceTrade$Rule" "valueCount" "I" ∈ zt := zt_t 98 (by decide +kernel) rfl
theorem zFX4_53 (E : CallFix p m c cc nL s args (w0 :: zt) RX4) (hZ : zq_K X s) : zq_F X s args RX4 53 4 3 := zq_F.of (C := RX3) (T := TX3) (N := 16) E hZ rfl (fun w h => List.mem_cons_of_mem _ (iz_X3 w h)) (by decide) (List.mem_cons_of_mem _ zLX4_53)
theorem zGX4_53 (E : CallFix p m c cc nL s args (w0 :: zt) RX4) (hZ : zq_K X s) : zq_G X s args RX4 53 4 3 .int := zq_G.of (C := RX3) (T := TX3) (N := 16) E hZ rfl (fun w h => List.mem_cons_of_mem _ (iz_X3 w h)) rfl tyX3 tyX3_ok nmX3 (by decide) rfl rfl (List.mem_cons_of_mem _ zLX4_53)
theorem zLX3_22 : Cond.fieldLink RX3 22 "PondIceTrade$Rule" "factFrom" "[I" ∈ zt := zt_t 99 (by decide +kernel) rfl
theorem zFX3_22 (E : CallFix p m c cc nL s args (w0 :: zt) RX3) (hZ : zq_K X s) : zq_F X s args RX3 22 4 4 := zq_F.of (C := RX3) (T := TX3) (N := 16) E hZ rfl (fun w h => List.mem_cons_of_mem _ (iz_X3 w h)) (by decide) (List.mem_cons_of_mem _ zLX3_22)
theorem zLX3_25 : Cond.fieldLink RX3 25 "PondIceTrade$Rule" "factMiddle" "[I" ∈ zt := zt_t 100 (by decide +kernel) rfl
theorem zFX3_25 (E : CallFix p m c cc nL s args (w0 :: zt) RX3) (hZ : zq_K X s) : zq_F X s args RX3 25 4 5 := zq_F.of (C := RX3) (T := TX3) (N := 16) E hZ rfl (fun w h => List.mem_cons_of_mem _ (iz_X3 w h)) (by decide) (List.mem_cons_of_mem _ zLX3_25)
theorem zLX3_28 : Cond.fieldLink RX3 28 "PondIceTrade$Rule" "factTo" "[I" ∈ zt := zt_t 101 (by decide +kernel) rfl
theorem zFX3_28 (E : CallFix p m c cc nL s args (w0 :: zt) RX3) (hZ : zq_K X s) : zq_F X s args RX3 28 4 6 := zq_F.of (C := RX3) (T := TX3) (N := 16) E hZ rfl (fun w h => List.mem_cons_of_mem _ (iz_X3 w h)) (by decide) (List.mem_cons_of_mem _ zLX3_28)
theorem zLX3_31 : Cond.fieldLink RX3 31 "PondIceTrade$Rule" "factSign" "[I" ∈ zt := zt_t 102 (by decide +kernel) rfl
theorem zFX3_31 (E : CallFix p m c cc nL s args (w0 :: zt) RX3) (hZ : zq_K X s) : zq_F X s args RX3 31 4 7 := zq_F.of (C := RX3) (T := TX3) (N := 16) E hZ rfl (fun w h => List.mem_cons_of_mem _ (iz_X3 w h)) (by decide) (List.mem_cons_of_mem _ zLX3_31)
theorem zLX3_55 : Cond.fieldLink RX3 55 "PondIceTrade$Rule" "factCount" "I" ∈ zt := zt_t 103 (by decide +kernel) rfl
theorem zFX3_55 (E : CallFix p m c cc nL s args (w0 :: zt) RX3) (hZ : zq_K X s) : zq_F X s args RX3 55 4 8 := zq_F.of (C := RX3) (T := TX3) (N := 16) E hZ rfl (fun w h => List.mem_cons_of_mem _ (iz_X3 w h)) (by decide) (List.mem_cons_of_mem _ zLX3_55)
theorem zGX3_55 (E : CallFix p m c cc nL s args (w0 :: zt) RX3) (hZ : zq_K X s) : zq_G X s args RX3 55 4 8 .int := zq_G.of (C := RX3) (T := TX3) (N := 16) E hZ rfl (fun w h => List.mem_cons_of_mem _ (iz_X3 w h)) rfl tyX3 tyX3_ok nmX3 (by decide) rfl rfl (List.mem_cons_of_mem _ zLX3_55)
theorem zLX3_36 : Cond.fieldLink RX3 36 "PondIceTrade$Rule" "steps" "[I" ∈ zt := zt_t 104 (by decide +kernel) rfl
theorem zFX3_36 (E : CallFix p m c cc nL s args (w0 :: zt) RX3) (hZ : zq_K X s) : zq_F X s args RX3 36 4 9 := zq_F.of (C := RX3) (T := TX3) (N := 16) E hZ rfl (fun w h => List.mem_cons_of_mem _ (iz_X3 w h)) (by decide) (List.mem_cons_of_mem _ zLX3_36)
theorem zLX3_58 : Cond.fieldLink RX3 58 "PondIceTrade$Rule" "stepCount" "I" ∈ zt := zt_t 105 (by decide +kernel) rfl
theorem zFX3_58 (E : CallFix p m c cc nL s args (w0 :: zt) RX3) (hZ : zq_K X s) : zq_F X s args RX3 58 4 10 := zq_F.of (C := RX3) (T := TX3) (N := 16) E hZ rfl (fun w h => List.mem_cons_of_mem _ (iz_X3 w h)) (by decide) (List.mem_cons_of_mem _ zLX3_58)
theorem zGX3_58 (E : CallFix p m c cc nL s args (w0 :: zt) RX3) (hZ : zq_K X s) : zq_G X s args RX3 58 4 10 .int := zq_G.of (C := RX3) (T := TX3) (N := 16) E hZ rfl (fun w h => List.mem_cons_of_mem _ (iz_X3 w h)) rfl tyX3 tyX3_ok nmX3 (by decide) rfl rfl (List.mem_cons_of_mem _ zLX3_58)
theorem zLX4_57 : Cond.fieldLink RX4 57 "PondIceTrade$Rule" "stepCount" "I" ∈ zt := zt_t 106 (by decide +kernel) rfl
theorem zFX4_57 (E : CallFix p m c cc nL s args (w0 :: zt) RX4) (hZ : zq_K X s) : zq_F X s args RX4 57 4 10 := zq_F.of (C := RX3) (T := TX3) (N := 16) E hZ rfl (fun w h => List.mem_cons_of_mem _ (iz_X3 w h)) (by decide) (List.mem_cons_of_mem _ zLX4_57)
theorem zGX4_57 (E : CallFix p m c cc nL s args (w0 :: zt) RX4) (hZ : zq_K X s) : zq_G X s args RX4 57 4 10 .int := zq_G.of (C := RX3) (T := TX3) (N := 16) E hZ rfl (fun w h => List.mem_cons_of_mem _ (iz_X3 w h)) rfl tyX3 tyX3_ok nmX3 (by decide) rfl rfl (List.mem_cons_of_mem _ zLX4_57)
theorem zLX3_39 : Cond.fieldLink RX3 39 "PondIceTrade$Rule" "sumFrom" "[I" ∈ zt := zt_t 107 (by decide +kernel) rfl
theorem zFX3_39 (E : CallFix p m c cc nL s args (w0 :: zt) RX3) (hZ : zq_K X s) : zq_F X s args RX3 39 4 11 := zq_F.of (C := RX3) (T := TX3) (N := 16) E hZ rfl (fun w h => List.mem_cons_of_mem _ (iz_X3 w h)) (by decide) (List.mem_cons_of_mem _ zLX3_39)
theorem zLX3_42 : Cond.fieldLink RX3 42 "PondIceTrade$Rule" "sumTo" "[I" ∈ zt := zt_t 108 (by decide +kernel) rfl
theorem zFX3_42 (E : CallFix p m c cc nL s args (w0 :: zt) RX3) (hZ : zq_K X s) : zq_F X s args RX3 42 4 12 := zq_F.of (C := RX3) (T := TX3) (N := 16) E hZ rfl (fun w h => List.mem_cons_of_mem _ (iz_X3 w h)) (by decide) (List.mem_cons_of_mem _ zLX3_42)
theorem zLX3_45 : Cond.fieldLink RX3 45 "PondIceTrade$Rule" "testFrom" "[I" ∈ zt := zt_t 109 (by decide +kernel) rfl
theorem zFX3_45 (E : CallFix p m c cc nL s args (w0 :: zt) RX3) (hZ : zq_K X s) : zq_F X s args RX3 45 4 13 := zq_F.of (C := RX3) (T := TX3) (N := 16) E hZ rfl (fun w h => List.mem_cons_of_mem _ (iz_X3 w h)) (by decide) (List.mem_cons_of_mem _ zLX3_45)
theorem zLX3_48 : Cond.fieldLink RX3 48 "PondIceTrade$Rule" "testTo" "[I" ∈ zt := zt_t 110 (by decide +kernel) rfl
theorem zFX3_48 (E : CallFix p m c cc nL s args (w0 :: zt) RX3) (hZ : zq_K X s) : zq_F X s args RX3 48 4 14 := zq_F.of (C := RX3) (T := TX3) (N := 16) E hZ rfl (fun w h => List.mem_cons_of_mem _ (iz_X3 w h)) (by decide) (List.mem_cons_of_mem _ zLX3_48)
theorem zLX3_61 : Cond.fieldLink RX3 61 "PondIceTrade$Rule" "clauseCount" "I" ∈ zt := zt_t 111 (by decide +kernel) rfl
theorem zFX3_61 (E : CallFix p m c cc nL s args (w0 :: zt) RX3) (hZ : zq_K X s) : zq_F X s args RX3 61 4 15 := zq_F.of (C := RX3) (T := TX3) (N := 16) E hZ rfl (fun w h => List.mem_cons_of_mem _ (iz_X3 w h)) (by decide) (List.mem_cons_of_mem _ zLX3_61)
theorem zGX3_61 (E : CallFix p m c cc nL s args (w0 :: zt) RX3) (hZ : zq_K X s) : zq_G X s args RX3 61 4 15 .int := zq_G.of (C := RX3) (T := TX3) (N := 16) E hZ rfl (fun w h => List.mem_cons_of_mem _ (iz_X3 w h)) rfl tyX3 tyX3_ok nmX3 (by decide) rfl rfl (List.mem_cons_of_mem _ zLX3_61)
theorem zLX5_15 : Cond.fieldLink RX5 15 "PondIceTrade$Ship" "hold" "I" ∈ zt := zt_t 167 (by decide +kernel) rfl
theorem zFX5_15 (E : CallFix p m c cc nL s args (w0 :: zt) RX5) (hZ : zq_K X s) : zq_F X s args RX5 15 5 0 := zq_F.of (C := RX5) (T := TX5) (N := 6) E hZ rfl (fun w h => List.mem_cons_of_mem _ (iz_X5 w h)) (by decide) (List.mem_cons_of_mem _ zLX5_15)
theorem zGX5_15 (E : CallFix p m c cc nL s args (w0 :: zt) RX5) (hZ : zq_K X s) : zq_G X s args RX5 15 5 0 .int := zq_G.of (C := RX5) (T := TX5) (N := 6) E hZ rfl (fun w h => List.mem_cons_of_mem _ (iz_X5 w h)) rfl tyX5 tyX5_ok nmX5 (by decide) rfl rfl (List.mem_cons_of_mem _ zLX5_15)
theorem zLX8_120 : Cond.fieldLink RX8 120 "PondIceTrade$Ship" "hold" "I" ∈ zt := zt_t 168 (by decide +kernel) rfl
theorem zFX8_120 (E : CallFix p m c cc nL s args (w0 :: zt) RX8) (hZ : zq_K X s) : zq_F X s args RX8 120 5 0 := zq_F.of (C := RX5) (T := TX5) (N := 6) E hZ rfl (fun w h => List.mem_cons_of_mem _ (iz_X5 w h)) (by decide) (List.mem_cons_of_mem _ zLX8_120)
theorem zGX8_120 (E : CallFix p m c cc nL s args (w0 :: zt) RX8) (hZ : zq_K X s) : zq_G X s args RX8 120 5 0 .int := zq_G.of (C := RX5) (T := TX5) (N := 6) E hZ rfl (fun w h => List.mem_cons_of_mem _ (iz_X5 w h)) rfl tyX5 tyX5_ok nmX5 (by decide) rfl rfl (List.mem_cons_of_mem _ zLX8_120)
theorem zLX3_117 : Cond.fieldLink RX3 117 "PondIceTrade$Ship" "hold" "I" ∈ zt := zt_t 169 (by decide +kernel) rfl
theorem zFX3_117 (E : CallFix p m c cc nL s args (w0 :: zt) RX3) (hZ : zq_K X s) : zq_F X s args RX3 117 5 0 := zq_F.of (C := RX5) (T := TX5) (N := 6) E hZ rfl (fun w h => List.mem_cons_of_mem _ (iz_X5 w h)) (by decide) (List.mem_cons_of_mem _ zLX3_117)
theorem zGX3_117 (E : CallFix p m c cc nL s args (w0 :: zt) RX3) (hZ : zq_K X s) : zq_G X s args RX3 117 5 0 .int := zq_G.of (C := RX5) (T := TX5) (N := 6) E hZ rfl (fun w h => List.mem_cons_of_mem _ (iz_X5 w h)) rfl tyX5 tyX5_ok nmX5 (by decide) rfl rfl (List.mem_cons_of_mem _ zLX3_117)
theorem zLX10_90 : Cond.fieldLink RX10 90 "PondIceTrade$Ship" "hold" "I" ∈ zt := zt_t 170 (by decide +kernel) rfl
theorem zFX10_90 (E : CallFix p m c cc nL s args (w0 :: zt) RX10) (hZ : zq_K X s) : zq_F X s args RX10 90 5 0 := zq_F.of (C := RX5) (T := TX5) (N := 6) E hZ rfl (fun w h => List.mem_cons_of_mem _ (iz_X5 w h)) (by decide) (List.mem_cons_of_mem _ zLX10_90)
theorem zGX10_90 (E : CallFix p m c cc nL s args (w0 :: zt) RX10) (hZ : zq_K X s) : zq_G X s args RX10 90 5 0 .int := zq_G.of (C := RX5) (T := TX5) (N := 6) E hZ rfl (fun w h => List.mem_cons_of_mem _ (iz_X5 w h)) rfl tyX5 tyX5_ok nmX5 (by decide) rfl rfl (List.mem_cons_of_mem _ zLX10_90)
theorem zLX5_18 : Cond.fieldLink RX5 18 "PondIceTrade$Ship" "cost" "I" ∈ zt := zt_t 171 (by decide +kernel) rfl
theorem zFX5_18 (E : CallFix p m c cc nL s args (w0 :: zt) RX5) (hZ : zq_K X s) : zq_F X s args RX5 18 5 1 := zq_F.of (C := RX5) (T := TX5) (N := 6) E hZ rfl (fun w h => List.mem_cons_of_mem _ (iz_X5 w h)) (by decide) (List.mem_cons_of_mem _ zLX5_18)
theorem zGX5_18 (E : CallFix p m c cc nL s args (w0 :: zt) RX5) (hZ : zq_K X s) : zq_G X s args RX5 18 5 1 .int := zq_G.of (C := RX5) (T := TX5) (N := 6) E hZ rfl (fun w h => List.mem_cons_of_mem _ (iz_X5 w h)) rfl tyX5 tyX5_ok nmX5 (by decide) rfl rfl (List.mem_cons_of_mem _ zLX5_18)
theorem zLX8_125 : Cond.fieldLink RX8 125 "PondIceTrade$Ship" "cost" "I" ∈ zt := zt_t 172 (by decide +kernel) rfl
theorem zFX8_125 (E : CallFix p m c cc nL s args (w0 :: zt) RX8) (hZ : zq_K X s) : zq_F X s args RX8 125 5 1 := zq_F.of (C := RX5) (T := TX5) (N := 6) E hZ rfl (fun w h => List.mem_cons_of_mem _ (iz_X5 w h)) (by decide) (List.mem_cons_of_mem _ zLX8_125)
theorem zGX8_125 (E : CallFix p m c cc nL s args (w0 :: zt) RX8) (hZ : zq_K X s) : zq_G X s args RX8 125 5 1 .int := zq_G.of (C := RX5) (T := TX5) (N := 6) E hZ rfl (fun w h => List.mem_cons_of_mem _ (iz_X5 w h)) rfl tyX5 tyX5_ok nmX5 (by decide) rfl rfl (List.mem_cons_of_mem _ zLX8_125)
theorem zLX10_87 : Cond.fieldLink RX10 87 "PondIceTrade$Ship" "cost" "I" ∈ zt := zt_t 173 (by decide +kernel) rfl
theorem zFX10_87 (E : CallFix p m c cc nL s args (w0 :: zt) RX10) (hZ : zq_K X s) : zq_F X s args RX10 87 5 1 := zq_F.of (C := RX5) (T := TX5) (N := 6) E hZ rfl (fun w h => List.mem_cons_of_mem _ (iz_X5 w h)) (by decide) (List.mem_cons_of_mem _ zLX10_87)
theorem zGX10_87 (E : CallFix p m c cc nL s args (w0 :: zt) RX10) (hZ : zq_K X s) : zq_G X s args RX10 87 5 1 .int := zq_G.of (C := RX5) (T := TX5) (N := 6) E hZ rfl (fun w h => List.mem_cons_of_mem _ (iz_X5 w h)) rfl tyX5 tyX5_ok nmX5 (by decide) rfl rfl (List.mem_cons_of_mem _ zLX10_87)
theorem zLX5_9 : Cond.fieldLink RX5 9 "PondIceTrade$Ship" "goesTo" "I" ∈ zt := zt_t 174 (by decide +kernel) rfl
theorem zFX5_9 (E : CallFix p m c cc nL s args (w0 :: zt) RX5) (hZ : zq_K X s) : zq_F X s args RX5 9 5 2 := zq_F.of (C := RX5) (T := TX5) (N := 6) E hZ rfl (fun w h => List.mem_cons_of_mem _ (iz_X5 w h)) (by decide) (List.mem_cons_of_mem _ zLX5_9)
theorem zGX5_9 (E : CallFix p m c cc nL s args (w0 :: zt) RX5) (hZ : zq_K X s) : zq_G X s args RX5 9 5 2 .int := zq_G.of (C := RX5) (T := TX5) (N := 6) E hZ rfl (fun w h => List.mem_cons_of_mem _ (iz_X5 w h)) rfl tyX5 tyX5_ok nmX5 (by decide) rfl rfl (List.mem_cons_of_mem _ zLX5_9)
theorem zLX10_75 : Cond.fieldLink RX10 75 "PondIceTrade$Ship" "goesTo" "I" ∈ zt := zt_t 175 (by decide +kernel) rfl
theorem zFX10_75 (E : CallFix p m c cc nL s args (w0 :: zt) RX10) (hZ : zq_K X s) : zq_F X s args RX10 75 5 2 := zq_F.of (C := RX5) (T := TX5) (N := 6) E hZ rfl (fun w h => List.mem_cons_of_mem _ (iz_X5 w h)) (by decide) (List.mem_cons_of_mem _ zLX10_75)
theorem zGX10_75 (E : CallFix p m c cc nL s args (w0 :: zt) RX10) (hZ : zq_K X s) : zq_G X s args RX10 75 5 2 .int := zq_G.of (C := RX5) (T := TX5) (N := 6) E hZ rfl (fun w h => List.mem_cons_of_mem _ (iz_X5 w h)) rfl tyX5 tyX5_ok nmX5 (by decide) rfl rfl (List.mem_cons_of_mem _ zLX10_75)
theorem zLX5_21 : Cond.fieldLink RX5 21 "PondIceTrade$Ship" "toGo" "I" ∈ zt := zt_t 176 (by decide +kernel) rfl
theorem zFX5_21 (E : CallFix p m c cc nL s args (w0 :: zt) RX5) (hZ : zq_K X s) : zq_F X s args RX5 21 5 3 := zq_F.of (C := RX5) (T := TX5) (N := 6) E hZ rfl (fun w h => List.mem_cons_of_mem _ (iz_X5 w h)) (by decide) (List.mem_cons_of_mem _ zLX5_21)
theorem zGX5_21 (E : CallFix p m c cc nL s args (w0 :: zt) RX5) (hZ : zq_K X s) : zq_G X s args RX5 21 5 3 .int := zq_G.of (C := RX5) (T := TX5) (N := 6) E hZ rfl (fun w h => List.mem_cons_of_mem _ (iz_X5 w h)) rfl tyX5 tyX5_ok nmX5 (by decide) rfl rfl (List.mem_cons_of_mem _ zLX5_21)
theorem zLX10_72 : Cond.fieldLink RX10 72 "PondIceTrade$Ship" "toGo" "I" ∈ zt := zt_t 177 (by decide +kernel) rfl
theorem zFX10_72 (E : CallFix p m c cc nL s args (w0 :: zt) RX10) (hZ : zq_K X s) : zq_F X s args RX10 72 5 3 := zq_F.of (C := RX5) (T := TX5) (N := 6) E hZ rfl (fun w h => List.mem_cons_of_mem _ (iz_X5 w h)) (by decide) (List.mem_cons_of_mem _ zLX10_72)
theorem zGX10_72 (E : CallFix p m c cc nL s args (w0 :: zt) RX10) (hZ : zq_K X s) : zq_G X s args RX10 72 5 3 .int := zq_G.of (C := RX5) (T := TX5) (N := 6) E hZ rfl (fun w h => List.mem_cons_of_mem _ (iz_X5 w h)) rfl tyX5 tyX5_ok nmX5 (by decide) rfl rfl (List.mem_cons_of_mem _ zLX10_72)
theorem zLX5_24 : Cond.fieldLink RX5 24 "PondIceTrade$Ship" "blocks" "I" ∈ zt := zt_t 178 (by decide +kernel) rfl
theorem zFX5_24 (E : CallFix p m c cc nL s args (w0 :: zt) RX5) (hZ : zq_K X s) : zq_F X s args RX5 24 5 4 := zq_F.of (C := RX5) (T := TX5) (N := 6) E hZ rfl (fun w h => List.mem_cons_of_mem _ (iz_X5 w h)) (by decide) (List.mem_cons_of_mem _ zLX5_24)
theorem zGX5_24 (E : CallFix p m c cc nL s args (w0 :: zt) RX5) (hZ : zq_K X s) : zq_G X s args RX5 24 5 4 .int := zq_G.of (C := RX5) (T := TX5) (N := 6) E hZ rfl (fun w h => List.mem_cons_of_mem _ (iz_X5 w h)) rfl tyX5 tyX5_ok nmX5 (by decide) rfl rfl (List.mem_cons_of_mem _ zLX5_24)
theorem zLX10_78 : Cond.fieldLink RX10 78 "PondIceTrade$Ship" "blocks" "I" ∈ zt := zt_t 179 (by decide +kernel) rfl
theorem zFX10_78 (E : CallFix p m c cc nL s args (w0 :: zt) RX10) (hZ : zq_K X s) : zq_F X s args RX10 78 5 4 := zq_F.of (C := RX5) (T := TX5) (N := 6) E hZ rfl (fun w h => List.mem_cons_of_mem _ (iz_X5 w h)) (by decide) (List.mem_cons_of_mem _ zLX10_78)
theorem zGX10_78 (E : CallFix p m c cc nL s args (w0 :: zt) RX10) (hZ : zq_K X s) : zq_G X s args RX10 78 5 4 .int := zq_G.of (C := RX5) (T := TX5) (N := 6) E hZ rfl (fun w h => List.mem_cons_of_mem _ (iz_X5 w h)) rfl tyX5 tyX5_ok nmX5 (by decide) rfl rfl (List.mem_cons_of_mem _ zLX10_78)
theorem zLX5_27 : Cond.fieldLink RX5 27 "PondIceTrade$Ship" "dust" "Z" ∈ zt := zt_t 180 (by decide +kernel) rfl
theorem zFX5_27 (E : CallFix p m c cc nL s args (w0 :: zt) RX5) (hZ : zq_K X s) : zq_F X s args RX5 27 5 5 := zq_F.of (C := RX5) (T := TX5) (N := 6) E hZ rfl (fun w h => List.mem_cons_of_mem _ (iz_X5 w h)) (by decide) (List.mem_cons_of_mem _ zLX5_27)
theorem zGX5_27 (E : CallFix p m c cc nL s args (w0 :: zt) RX5) (hZ : zq_K X s) : zq_G X s args RX5 27 5 5 .boolean := zq_G.of (C := RX5) (T := TX5) (N := 6) E hZ rfl (fun w h => List.mem_cons_of_mem _ (iz_X5 w h)) rfl tyX5 tyX5_ok nmX5 (by decide) rfl rfl (List.mem_cons_of_mem _ zLX5_27)
theorem zLX10_113 : Cond.fieldLink RX10 113 "PondIceTrade$Ship" "dust" "Z" ∈ zt := zt_t 181 (by decide +kernel) rfl
theorem zFX10_113 (E : CallFix p m c cc nL s args (w0 :: zt) RX10) (hZ : zq_K X s) : zq_F X s args RX10 113 5 5 := zq_F.of (C := RX5) (T := TX5) (N := 6) E hZ rfl (fun w h => List.mem_cons_of_mem _ (iz_X5 w h)) (by decide) (List.mem_cons_of_mem _ zLX10_113)
theorem zGX10_113 (E : CallFix p m c cc nL s args (w0 :: zt) RX10) (hZ : zq_K X s) : zq_G X s args RX10 113 5 5 .boolean := zq_G.of (C := RX5) (T := TX5) (N := 6) E hZ rfl (fun w h => List.mem_cons_of_mem _ (iz_X5 w h)) rfl tyX5 tyX5_ok nmX5 (by decide) rfl rfl (List.mem_cons_of_mem _ zLX10_113)
theorem zLX7_9 : Cond.fieldLink RX7 9 "PondIceTrade$Town" "months" "I" ∈ zt := zt_t 200 (by decide +kernel) rfl
theorem zFX7_9 (E : CallFix p m c cc nL s args (w0 :: zt) RX7) (hZ : zq_K X s) : zq_F X s args RX7 9 7 0 := zq_F.of (C := RX7) (T := TX7) (N := 7) E hZ rfl (fun w h => List.mem_cons_of_mem _ (iz_X7 w h)) (by decide) (List.mem_cons_of_mem _ zLX7_9)
theorem zGX7_9 (E : CallFix p m c cc nL s args (w0 :: zt) RX7) (hZ : zq_K X s) : zq_G X s args RX7 9 7 0 .int := zq_G.of (C := RX7) (T := TX7) (N := 7) E hZ rfl (fun w h => List.mem_cons_of_mem _ (iz_X7 w h)) rfl tyX7 tyX7_ok nmX7 (by decide) rfl rfl (List.mem_cons_of_mem _ zLX7_9)
theorem zLX8_135 : Cond.fieldLink RX8 135 "PondIceTrade$Town" "months" "I" ∈ zt := zt_t 201 (by decide +kernel) rfl
theorem zFX8_135 (E : CallFix p m c cc nL s args (w0 :: zt) RX8) (hZ : zq_K X s) : zq_F X s args RX8 135 7 0 := zq_F.of (C := RX7) (T := TX7) (N := 7) E hZ rfl (fun w h => List.mem_cons_of_mem _ (iz_X7 w h)) (by decide) (List.mem_cons_of_mem _ zLX8_135)
theorem zGX8_135 (E : CallFix p m c cc nL s args (w0 :: zt) RX8) (hZ : zq_K X s) : zq_G X s args RX8 135 7 0 .int := zq_G.of (C := RX7) (T := TX7) (N := 7) E hZ rfl (fun w h => List.mem_cons_of_mem _ (iz_X7 w h)) rfl tyX7 tyX7_ok nmX7 (by decide) rfl rfl (List.mem_cons_of_mem _ zLX8_135)
theorem zLX3_89 : Cond.fieldLink RX3 89 "PondIceTrade$Town" "months" "I" ∈ zt := zt_t 202 (by decide +kernel) rfl
theorem zFX3_89 (E : CallFix p m c cc nL s args (w0 :: zt) RX3) (hZ : zq_K X s) : zq_F X s args RX3 89 7 0 := zq_F.of (C := RX7) (T := TX7) (N := 7) E hZ rfl (fun w h => List.mem_cons_of_mem _ (iz_X7 w h)) (by decide) (List.mem_cons_of_mem _ zLX3_89)
theorem zGX3_89 (E : CallFix p m c cc nL s args (w0 :: zt) RX3) (hZ : zq_K X s) : zq_G X s args RX3 89 7 0 .int := zq_G.of (C := RX7) (T := TX7) (N := 7) E hZ rfl (fun w h => List.mem_cons_of_mem _ (iz_X7 w h)) rfl tyX7 tyX7_ok nmX7 (by decide) rfl rfl (List.mem_cons_of_mem _ zLX3_89)
theorem zLX10_110 : Cond.fieldLink RX10 110 "PondIceTrade$Town" "months" "I" ∈ zt := zt_t 203 (by decide +kernel) rfl
theorem zFX10_110 (E : CallFix p m c cc nL s args (w0 :: zt) RX10) (hZ : zq_K X s) : zq_F X s args RX10 110 7 0 := zq_F.of (C := RX7) (T := TX7) (N := 7) E hZ rfl (fun w h => List.mem_cons_of_mem _ (iz_X7 w h)) (by decide) (List.mem_cons_of_mem _ zLX10_110)
theorem zGX10_110 (E : CallFix p m c cc nL s args (w0 :: zt) RX10) (hZ : zq_K X s) : zq_G X s args RX10 110 7 0 .int := zq_G.of (C := RX7) (T := TX7) (N := 7) E hZ rfl (fun w h => List.mem_cons_of_mem _ (iz_X7 w h)) rfl tyX7 tyX7_ok nmX7 (by decide) rfl rfl (List.mem_cons_of_mem _ zLX10_110)
theorem zLX7_15 : Cond.fieldLink RX7 15 "PondIceTrade$Town" "heat" "I" ∈ zt := zt_t 204 (by decide +kernel) rfl
theorem zFX7_15 (E : CallFix p m c cc nL s args (w0 :: zt) RX7) (hZ : zq_K X s) : zq_F X s args RX7 15 7 1 := zq_F.of (C := RX7) (T := TX7) (N := 7) E hZ rfl (fun w h => List.mem_cons_of_mem _ (iz_X7 w h)) (by decide) (List.mem_cons_of_mem _ zLX7_15)
theorem zGX7_15 (E : CallFix p m c cc nL s args (w0 :: zt) RX7) (hZ : zq_K X s) : zq_G X s args RX7 15 7 1 .int := zq_G.of (C := RX7) (T := TX7) (N := 7) E hZ rfl (fun w h => List.mem_cons_of_mem _ (iz_X7 w h)) rfl tyX7 tyX7_ok nmX7 (by decide) rfl rfl (List.mem_cons_of_mem _ zLX7_15)
theorem zLX8_140 : Cond.fieldLink RX8 140 "PondIceTrade$Town" "heat" "I" ∈ zt := zt_t 205 (by decide +kernel) rfl
theorem zFX8_140 (E : CallFix p m c cc nL s args (w0 :: zt) RX8) (hZ : zq_K X s) : zq_F X s args RX8 140 7 1 := zq_F.of (C := RX7) (T := TX7) (N := 7) E hZ rfl (fun w h => List.mem_cons_of_mem _ (iz_X7 w h)) (by decide) (List.mem_cons_of_mem _ zLX8_140)
theorem zGX8_140 (E : CallFix p m c cc nL s args (w0 :: zt) RX8) (hZ : zq_K X s) : zq_G X s args RX8 140 7 1 .int := zq_G.of (C := RX7) (T := TX7) (N := 7) E hZ rfl (fun w h => List.mem_cons_of_mem _ (iz_X7 w h)) rfl tyX7 tyX7_ok nmX7 (by decide) rfl rfl (List.mem_cons_of_mem _ zLX8_140)
theorem zLX3_94 : Cond.fieldLink RX3 94 "PondIceTrade$Town" "heat" "I" ∈ zt := zt_t 206 (by decide +kernel) rfl
theorem zFX3_94 (E : CallFix p m c cc nL s args (w0 :: zt) RX3) (hZ : zq_K X s) : zq_F X s args RX3 94 7 1 := zq_F.of (C := RX7) (T := TX7) (N := 7) E hZ rfl (fun w h => List.mem_cons_of_mem _ (iz_X7 w h)) (by decide) (List.mem_cons_of_mem _ zLX3_94)
theorem zGX3_94 (E : CallFix p m c cc nL s args (w0 :: zt) RX3) (hZ : zq_K X s) : zq_G X s args RX3 94 7 1 .int := zq_G.of (C := RX7) (T := TX7) (N := 7) E hZ rfl (fun w h => List.mem_cons_of_mem _ (iz_X7 w h)) rfl tyX7 tyX7_ok nmX7 (by decide) rfl rfl (List.mem_cons_of_mem _ zLX3_94)
theorem zLX7_18 : Cond.fieldLink RX7 18 "PondIceTrade$Town" "want" "I" ∈ zt := zt_t 207 (by decide +kernel) rfl
theorem zFX7_18 (E : CallFix p m c cc nL s args (w0 :: zt) RX7) (hZ : zq_K X s) : zq_F X s args RX7 18 7 2 := zq_F.of (C := RX7) (T := TX7) (N := 7) E hZ rfl (fun w h => List.mem_cons_of_mem _ (iz_X7 w h)) (by decide) (List.mem_cons_of_mem _ zLX7_18)
theorem zGX7_18 (E : CallFix p m c cc nL s args (w0 :: zt) RX7) (hZ : zq_K X s) : zq_G X s args RX7 18 7 2 .int := zq_G.of (C := RX7) (T := TX7) (N := 7) E hZ rfl (fun w h => List.mem_cons_of_mem _ (iz_X7 w h)) rfl tyX7 tyX7_ok nmX7 (by decide) rfl rfl (List.mem_cons_of_mem _ zLX7_18)
theorem zLX8_143 : Cond.fieldLink RX8 143 "PondIceTrade$Town" "want" "I" ∈ zt := zt_t 208 (by decide +kernel) rfl
theorem zFX8_143 (E : CallFix p m c cc nL s args (w0 :: zt) RX8) (hZ : zq_K X s) : zq_F X s args RX8 143 7 2 := zq_F.of (C := RX7) (T := TX7) (N := 7) E hZ rfl (fun w h => List.mem_cons_of_mem _ (iz_X7 w h)) (by decide) (List.mem_cons_of_mem _ zLX8_143)
theorem zGX8_143 (E : CallFix p m c cc nL s args (w0 :: zt) RX8) (hZ : zq_K X s) : zq_G X s args RX8 143 7 2 .int := zq_G.of (C := RX7) (T := TX7) (N := 7) E hZ rfl (fun w h => List.mem_cons_of_mem _ (iz_X7 w h)) rfl tyX7 tyX7_ok nmX7 (by decide) rfl rfl (List.mem_cons_of_mem _ zLX8_143)
theorem zLX11_176 : Cond.fieldLink RX11 176 "PondIceTrade$Town" "want" "I" ∈ zt := zt_t 209 (by decide +kernel) rfl
theorem zFX11_176 (E : CallFix p m c cc nL s args (w0 :: zt) RX11) (hZ : zq_K X s) : zq_F X s args RX11 176 7 2 := zq_F.of (C := RX7) (T := TX7) (N := 7) E hZ rfl (fun w h => List.mem_cons_of_mem _ (iz_X7 w h)) (by decide) (List.mem_cons_of_mem _ zLX11_176)
theorem zGX11_176 (E : CallFix p m c cc nL s args (w0 :: zt) RX11) (hZ : zq_K X s) : zq_G X s args RX11 176 7 2 .int := zq_G.of (C := RX7) (T := TX7) (N := 7) E hZ rfl (fun w h => List.mem_cons_of_mem _ (iz_X7 w h)) rfl tyX7 tyX7_ok nmX7 (by decide) rfl rfl (List.mem_cons_of_mem _ zLX11_176)
theorem zLX3_97 : Cond.fieldLink RX3 97 "PondIceTrade$Town" "want" "I" ∈ zt := zt_t 210 (by decide +kernel) rfl
theorem zFX3_97 (E : CallFix p m c cc nL s args (w0 :: zt) RX3) (hZ : zq_K X s) : zq_F X s args RX3 97 7 2 := zq_F.of (C := RX7) (T := TX7) (N := 7) E hZ rfl (fun w h => List.mem_cons_of_mem _ (iz_X7 w h)) (by decide) (List.mem_cons_of_mem _ zLX3_97)
theorem zGX3_97 (E : CallFix p m c cc nL s args (w0 :: zt) RX3) (hZ : zq_K X s) : zq_G X s args RX3 97 7 2 .int := zq_G.of (C := RX7) (T := TX7) (N := 7) E hZ rfl (fun w h => List.mem_cons_of_mem _ (iz_X7 w h)) rfl tyX7 tyX7_ok nmX7 (by decide) rfl rfl (List.mem_cons_of_mem _ zLX3_97)
theorem zLX2_130 : Cond.fieldLink RX2 130 "PondIceTrade$Town" "want" "I" ∈ zt := zt_t 211 (by decide +kernel) rfl
theorem zFX2_130 (E : CallFix p m c cc nL s args (w0 :: zt) RX2) (hZ : zq_K X s) : zq_F X s args RX2 130 7 2 := zq_F.of (C := RX7) (T := TX7) (N := 7) E hZ rfl (fun w h => List.mem_cons_of_mem _ (iz_X7 w h)) (by decide) (List.mem_cons_of_mem _ zLX2_130)
theorem zGX2_130 (E : CallFix p m c cc nL s args (w0 :: zt) RX2) (hZ : zq_K X s) : zq_G X s args RX2 130 7 2 .int := zq_G.of (C := RX7) (T := TX7) (N := 7) E hZ rfl (fun w h => List.mem_cons_of_mem _ (iz_X7 w h)) rfl tyX7 tyX7_ok nmX7 (by decide) rfl rfl (List.mem_cons_of_mem _ zLX2_130)
theorem zLX7_21 : Cond.fieldLink RX7 21 "PondIceTrade$Town" "price" "I" ∈ zt := zt_t 212 (by decide +kernel) rfl
theorem zFX7_21 (E : CallFix p m c cc nL s args (w0 :: zt) RX7) (hZ : zq_K X s) : zq_F X s args RX7 21 7 3 := zq_F.of (C := RX7) (T := TX7) (N := 7) E hZ rfl (fun w h => List.mem_cons_of_mem _ (iz_X7 w h)) (by decide) (List.mem_cons_of_mem _ zLX7_21)
theorem zGX7_21 (E : CallFix p m c cc nL s args (w0 :: zt) RX7) (hZ : zq_K X s) : zq_G X s args RX7 21 7 3 .int := zq_G.of (C := RX7) (T := TX7) (N := 7) E hZ rfl (fun w h => List.mem_cons_of_mem _ (iz_X7 w h)) rfl tyX7 tyX7_ok nmX7 (by decide) rfl rfl (List.mem_cons_of_mem _ zLX7_21)
theorem zLX8_146 : Cond.fieldLink RX8 146 "PondIceTrade$Town" "price" "I" ∈ zt := zt_t 213 (by decide +kernel) rfl
theorem zFX8_146 (E : CallFix p m c cc nL s args (w0 :: zt) RX8) (hZ : zq_K X s) : zq_F X s args RX8 146 7 3 := zq_F.of (C := RX7) (T := TX7) (N := 7) E hZ rfl (fun w h => List.mem_cons_of_mem _ (iz_X7 w h)) (by decide) (List.mem_cons_of_mem _ zLX8_146)
theorem zGX8_146 (E : CallFix p m c cc nL s args (w0 :: zt) RX8) (hZ : zq_K X s) : zq_G X s args RX8 146 7 3 .int := zq_G.of (C := RX7) (T := TX7) (N := 7) E hZ rfl (fun w h => List.mem_cons_of_mem _ (iz_X7 w h)) rfl tyX7 tyX7_ok nmX7 (by decide) rfl rfl (List.mem_cons_of_mem _ zLX8_146)
theorem zLX3_100 : Cond.fieldLink RX3 100 "PondIceTrade$Town" "price" "I" ∈ zt := zt_t 214 (by decide +kernel) rfl
theorem zFX3_100 (E : CallFix p m c cc nL s args (w0 :: zt) RX3) (hZ : zq_K X s) : zq_F X s args RX3 100 7 3 := zq_F.of (C := RX7) (T := TX7) (N := 7) E hZ rfl (fun w h => List.mem_cons_of_mem _ (iz_X7 w h)) (by decide) (List.mem_cons_of_mem _ zLX3_100)
theorem zGX3_100 (E : CallFix p m c cc nL s args (w0 :: zt) RX3) (hZ : zq_K X s) : zq_G X s args RX3 100 7 3 .int := zq_G.of (C := RX7) (T := TX7) (N := 7) E hZ rfl (fun w h => List.mem_cons_of_mem _ (iz_X7 w h)) rfl tyX7 tyX7_ok nmX7 (by decide) rfl rfl (List.mem_cons_of_mem _ zLX3_100)
theorem zLX11_185 : Cond.fieldLink RX11 185 "PondIceTrade$Town" "price" "I" ∈ zt := zt_t 215 (by decide +kernel) rfl
theorem zFX11_185 (E : CallFix p m c cc nL s args (w0 :: zt) RX11) (hZ : zq_K X s) : zq_F X s args RX11 185 7 3 := zq_F.of (C := RX7) (T := TX7) (N := 7) E hZ rfl (fun w h => List.mem_cons_of_mem _ (iz_X7 w h)) (by decide) (List.mem_cons_of_mem _ zLX11_185)
theorem zGX11_185 (E : CallFix p m c cc nL s args (w0 :: zt) RX11) (hZ : zq_K X s) : zq_G X s args RX11 185 7 3 .int := zq_G.of (C := RX7) (T := TX7) (N := 7) E hZ rfl (fun w h => List.mem_cons_of_mem _ (iz_X7 w h)) rfl tyX7 tyX7_ok nmX7 (by decide) rfl rfl (List.mem_cons_of_mem _ zLX11_185)
theorem zLX2_121 : Cond.fieldLink RX2 121 "PondIceTrade$Town" "price" "I" ∈ zt := zt_t 216 (by decide +kernel) rfl
theorem zFX2_121 (E : CallFix p m c cc nL s args (w0 :: zt) RX2) (hZ : zq_K X s) : zq_F X s args RX2 121 7 3 := zq_F.of (C := RX7) (T := TX7) (N := 7) E hZ rfl (fun w h => List.mem_cons_of_mem _ (iz_X7 w h)) (by decide) (List.mem_cons_of_mem _ zLX2_121)
theorem zGX2_121 (E : CallFix p m c cc nL s args (w0 :: zt) RX2) (hZ : zq_K X s) : zq_G X s args RX2 121 7 3 .int := zq_G.of (C := RX7) (T := TX7) (N := 7) E hZ rfl (fun w h => List.mem_cons_of_mem _ (iz_X7 w h)) rfl tyX7 tyX7_ok nmX7 (by decide) rfl rfl (List.mem_cons_of_mem _ zLX2_121)
theorem zLX10_139 : Cond.fieldLink RX10 139 "PondIceTrade$Town" "price" "I" ∈ zt := zt_t 217 (by decide +kernel) rfl
theorem zFX10_139 (E : CallFix p m c cc nL s args (w0 :: zt) RX10) (hZ : zq_K X s) : zq_F X s args RX10 139 7 3 := zq_F.of (C := RX7) (T := TX7) (N := 7) E hZ rfl (fun w h => List.mem_cons_of_mem _ (iz_X7 w h)) (by decide) (List.mem_cons_of_mem _ zLX10_139)
theorem zGX10_139 (E : CallFix p m c cc nL s args (w0 :: zt) RX10) (hZ : zq_K X s) : zq_G X s args RX10 139 7 3 .int := zq_G.of (C := RX7) (T := TX7) (N := 7) E hZ rfl (fun w h => List.mem_cons_of_mem _ (iz_X7 w h)) rfl tyX7 tyX7_ok nmX7 (by decide) rfl rfl (List.mem_cons_of_mem _ zLX10_139)
theorem zLX7_24 : Cond.fieldLink RX7 24 "PondIceTrade$Town" "stock" "I" ∈ zt := zt_t 218 (by decide +kernel) rfl
theorem zFX7_24 (E : CallFix p m c cc nL s args (w0 :: zt) RX7) (hZ : zq_K X s) : zq_F X s args RX7 24 7 4 := zq_F.of (C := RX7) (T := TX7) (N := 7) E hZ rfl (fun w h => List.mem_cons_of_mem _ (iz_X7 w h)) (by decide) (List.mem_cons_of_mem _ zLX7_24)
theorem zGX7_24 (E : CallFix p m c cc nL s args (w0 :: zt) RX7) (hZ : zq_K X s) : zq_G X s args RX7 24 7 4 .int := zq_G.of (C := RX7) (T := TX7) (N := 7) E hZ rfl (fun w h => List.mem_cons_of_mem _ (iz_X7 w h)) rfl tyX7 tyX7_ok nmX7 (by decide) rfl rfl (List.mem_cons_of_mem _ zLX7_24)
theorem zLX11_170 : Cond.fieldLink RX11 170 "PondIceTrade$Town" "stock" "I" ∈ zt := zt_t 219 (by decide +kernel) rfl
theorem zFX11_170 (E : CallFix p m c cc nL s args (w0 :: zt) RX11) (hZ : zq_K X s) : zq_F X s args RX11 170 7 4 := zq_F.of (C := RX7) (T := TX7) (N := 7) E hZ rfl (fun w h => List.mem_cons_of_mem _ (iz_X7 w h)) (by decide) (List.mem_cons_of_mem _ zLX11_170)
theorem zGX11_170 (E : CallFix p m c cc nL s args (w0 :: zt) RX11) (hZ : zq_K X s) : zq_G X s args RX11 170 7 4 .int := zq_G.of (C := RX7) (T := TX7) (N := 7) E hZ rfl (fun w h => List.mem_cons_of_mem _ (iz_X7 w h)) rfl tyX7 tyX7_ok nmX7 (by decide) rfl rfl (List.mem_cons_of_mem _ zLX11_170)
theorem zLX2_92 : Cond.fieldLink RX2 92 "PondIceTrade$Town" "stock" "I" ∈ zt := zt_t 220 (by decide +kernel) rfl
theorem zFX2_92 (E : CallFix p m c cc nL s args (w0 :: zt) RX2) (hZ : zq_K X s) : zq_F X s args RX2 92 7 4 := zq_F.of (C := RX7) (T := TX7) (N := 7) E hZ rfl (fun w h => List.mem_cons_of_mem _ (iz_X7 w h)) (by decide) (List.mem_cons_of_mem _ zLX2_92)
theorem zGX2_92 (E : CallFix p m c cc nL s args (w0 :: zt) RX2) (hZ : zq_K X s) : zq_G X s args RX2 92 7 4 .int := zq_G.of (C := RX7) (T := TX7) (N := 7) E hZ rfl (fun w h => List.mem_cons_of_mem _ (iz_X7 w h)) rfl tyX7 tyX7_ok nmX7 (by decide) rfl rfl (List.mem_cons_of_mem _ zLX2_92)
theorem zLX3_103 : Cond.fieldLink RX3 103 "PondIceTrade$Town" "stock" "I" ∈ zt := zt_t 221 (by decide +kernel) rfl
theorem zFX3_103 (E : CallFix p m c cc nL s args (w0 :: zt) RX3) (hZ : zq_K X s) : zq_F X s args RX3 103 7 4 := zq_F.of (C := RX7) (T := TX7) (N := 7) E hZ rfl (fun w h => List.mem_cons_of_mem _ (iz_X7 w h)) (by decide) (List.mem_cons_of_mem _ zLX3_103)
theorem zGX3_103 (E : CallFix p m c cc nL s args (w0 :: zt) RX3) (hZ : zq_K X s) : zq_G X s args RX3 103 7 4 .int := zq_G.of (C := RX7) (T := TX7) (N := 7) E hZ rfl (fun w h => List.mem_cons_of_mem _ (iz_X7 w h)) rfl tyX7 tyX7_ok nmX7 (by decide) rfl rfl (List.mem_cons_of_mem _ zLX3_103)
theorem zLX10_120 : Cond.fieldLink RX10 120 "PondIceTrade$Town" "stock" "I" ∈ zt := zt_t 222 (by decide +kernel) rfl
theorem zFX10_120 (E : CallFix p m c cc nL s args (w0 :: zt) RX10) (hZ : zq_K X s) : zq_F X s args RX10 120 7 4 := zq_F.of (C := RX7) (T := TX7) (N := 7) E hZ rfl (fun w h => List.mem_cons_of_mem _ (iz_X7 w h)) (by decide) (List.mem_cons_of_mem _ zLX10_120)
theorem zGX10_120 (E : CallFix p m c cc nL s args (w0 :: zt) RX10) (hZ : zq_K X s) : zq_G X s args RX10 120 7 4 .int := zq_G.of (C := RX7) (T := TX7) (N := 7) E hZ rfl (fun w h => List.mem_cons_of_mem _ (iz_X7 w h)) rfl tyX7 tyX7_ok nmX7 (by decide) rfl rfl (List.mem_cons_of_mem _ zLX10_120)
theorem zLX7_27 : Cond.fieldLink RX7 27 "PondIceTrade$Town" "house" "Z" ∈ zt := zt_t 223 (by decide +kernel) rfl
theorem zFX7_27 (E : CallFix p m c cc nL s args (w0 :: zt) RX7) (hZ : zq_K X s) : zq_F X s args RX7 27 7 5 := zq_F.of (C := RX7) (T := TX7) (N := 7) E hZ rfl (fun w h => List.mem_cons_of_mem _ (iz_X7 w h)) (by decide) (List.mem_cons_of_mem _ zLX7_27)
theorem zGX7_27 (E : CallFix p m c cc nL s args (w0 :: zt) RX7) (hZ : zq_K X s) : zq_G X s args RX7 27 7 5 .boolean := zq_G.of (C := RX7) (T := TX7) (N := 7) E hZ rfl (fun w h => List.mem_cons_of_mem _ (iz_X7 w h)) rfl tyX7 tyX7_ok nmX7 (by decide) rfl rfl (List.mem_cons_of_mem _ zLX7_27)
theorem zLX10_65 : Cond.fieldLink RX10 65 "PondIceTrade$Town" "house" "Z" ∈ zt := zt_t 224 (by decide +kernel) rfl
theorem zFX10_65 (E : CallFix p m c cc nL s args (w0 :: zt) RX10) (hZ : zq_K X s) : zq_F X s args RX10 65 7 5 := zq_F.of (C := RX7) (T := TX7) (N := 7) E hZ rfl (fun w h => List.mem_cons_of_mem _ (iz_X7 w h)) (by decide) (List.mem_cons_of_mem _ zLX10_65)
theorem zGX10_65 (E : CallFix p m c cc nL s args (w0 :: zt) RX10) (hZ : zq_K X s) : zq_G X s args RX10 65 7 5 .boolean := zq_G.of (C := RX7) (T := TX7) (N := 7) E hZ rfl (fun w h => List.mem_cons_of_mem _ (iz_X7 w h)) rfl tyX7 tyX7_ok nmX7 (by decide) rfl rfl (List.mem_cons_of_mem _ zLX10_65)
theorem zLX8_152 : Cond.fieldLink RX8 152 "PondIceTrade$Town" "house" "Z" ∈ zt := zt_t 225 (by decide +kernel) rfl
theorem zFX8_152 (E : CallFix p m c cc nL s args (w0 :: zt) RX8) (hZ : zq_K X s) : zq_F X s args RX8 152 7 5 := zq_F.of (C := RX7) (T := TX7) (N := 7) E hZ rfl (fun w h => List.mem_cons_of_mem _ (iz_X7 w h)) (by decide) (List.mem_cons_of_mem _ zLX8_152)
theorem zGX8_152 (E : CallFix p m c cc nL s args (w0 :: zt) RX8) (hZ : zq_K X s) : zq_G X s args RX8 152 7 5 .boolean := zq_G.of (C := RX7) (T := TX7) (N := 7) E hZ rfl (fun w h => List.mem_cons_of_mem _ (iz_X7 w h)) rfl tyX7 tyX7_ok nmX7 (by decide) rfl rfl (List.mem_cons_of_mem _ zLX8_152)
theorem zLX3_128 : Cond.fieldLink RX3 128 "PondIceTrade$Town" "house" "Z" ∈ zt := zt_t 226 (by decide +kernel) rfl
theorem zFX3_128 (E : CallFix p m c cc nL s args (w0 :: zt) RX3) (hZ : zq_K X s) : zq_F X s args RX3 128 7 5 := zq_F.of (C := RX7) (T := TX7) (N := 7) E hZ rfl (fun w h => List.mem_cons_of_mem _ (iz_X7 w h)) (by decide) (List.mem_cons_of_mem _ zLX3_128)
theorem zGX3_128 (E : CallFix p m c cc nL s args (w0 :: zt) RX3) (hZ : zq_K X s) : zq_G X s args RX3 128 7 5 .boolean := zq_G.of (C := RX7) (T := TX7) (N := 7) E hZ rfl (fun w h => List.mem_cons_of_mem _ (iz_X7 w h)) rfl tyX7 tyX7_ok nmX7 (by decide) rfl rfl (List.mem_cons_of_mem _ zLX3_128)
theorem zLX7_31 : Cond.fieldLink RX7 31 "PondIceTrade$Town" "sold" "I" ∈ zt := zt_t 227 (by decide +kernel) rfl
theorem zFX7_31 (E : CallFix p m c cc nL s args (w0 :: zt) RX7) (hZ : zq_K X s) : zq_F X s args RX7 31 7 6 := zq_F.of (C := RX7) (T := TX7) (N := 7) E hZ rfl (fun w h => List.mem_cons_of_mem _ (iz_X7 w h)) (by decide) (List.mem_cons_of_mem _ zLX7_31)
theorem zGX7_31 (E : CallFix p m c cc nL s args (w0 :: zt) RX7) (hZ : zq_K X s) : zq_G X s args RX7 31 7 6 .int := zq_G.of (C := RX7) (T := TX7) (N := 7) E hZ rfl (fun w h => List.mem_cons_of_mem _ (iz_X7 w h)) rfl tyX7 tyX7_ok nmX7 (by decide) rfl rfl (List.mem_cons_of_mem _ zLX7_31)
theorem zLX10_81 : Cond.fieldLink RX10 81 "PondIceTrade$Town" "sold" "I" ∈ zt := zt_t 228 (by decide +kernel) rfl
theorem zFX10_81 (E : CallFix p m c cc nL s args (w0 :: zt) RX10) (hZ : zq_K X s) : zq_F X s args RX10 81 7 6 := zq_F.of (C := RX7) (T := TX7) (N := 7) E hZ rfl (fun w h => List.mem_cons_of_mem _ (iz_X7 w h)) (by decide) (List.mem_cons_of_mem _ zLX10_81)
theorem zGX10_81 (E : CallFix p m c cc nL s args (w0 :: zt) RX10) (hZ : zq_K X s) : zq_G X s args RX10 81 7 6 .int := zq_G.of (C := RX7) (T := TX7) (N := 7) E hZ rfl (fun w h => List.mem_cons_of_mem _ (iz_X7 w h)) rfl tyX7 tyX7_ok nmX7 (by decide) rfl rfl (List.mem_cons_of_mem _ zLX10_81)
theorem zLX10_29 : Cond.fieldLink RX10 29 "PondIceTrade$World" "told" "Z" ∈ zt := zt_t 244 (by decide +kernel) rfl
theorem zFX10_29 (E : CallFix p m c cc nL s args (w0 :: zt) RX10) (hZ : zq_K X s) : zq_F X s args RX10 29 8 0 := zq_F.of (C := RX10) (T := TX10) (N := 10) E hZ rfl (fun w h => List.mem_cons_of_mem _ (iz_X10 w h)) (by decide) (List.mem_cons_of_mem _ zLX10_29)
theorem zGX10_29 (E : CallFix p m c cc nL s args (w0 :: zt) RX10) (hZ : zq_K X s) : zq_G X s args RX10 29 8 0 .boolean := zq_G.of (C := RX10) (T := TX10) (N := 10) E hZ rfl (fun w h => List.mem_cons_of_mem _ (iz_X10 w h)) rfl tyX10 tyX10_ok nmX10 (by decide) rfl rfl (List.mem_cons_of_mem _ zLX10_29)
theorem zLX11_141 : Cond.fieldLink RX11 141 "PondIceTrade$World" "told" "Z" ∈ zt := zt_t 245 (by decide +kernel) rfl
theorem zFX11_141 (E : CallFix p m c cc nL s args (w0 :: zt) RX11) (hZ : zq_K X s) : zq_F X s args RX11 141 8 0 := zq_F.of (C := RX10) (T := TX10) (N := 10) E hZ rfl (fun w h => List.mem_cons_of_mem _ (iz_X10 w h)) (by decide) (List.mem_cons_of_mem _ zLX11_141)
theorem zGX11_141 (E : CallFix p m c cc nL s args (w0 :: zt) RX11) (hZ : zq_K X s) : zq_G X s args RX11 141 8 0 .boolean := zq_G.of (C := RX10) (T := TX10) (N := 10) E hZ rfl (fun w h => List.mem_cons_of_mem _ (iz_X10 w h)) rfl tyX10 tyX10_ok nmX10 (by decide) rfl rfl (List.mem_cons_of_mem _ zLX11_141)
theorem zLX10_33 : Cond.fieldLink RX10 33 "PondIceTrade$World" "money" "I" ∈ zt := zt_t 246 (by decide +kernel) rfl
theorem zFX10_33 (E : CallFix p m c cc nL s args (w0 :: zt) RX10) (hZ : zq_K X s) : zq_F X s args RX10 33 8 1 := zq_F.of (C := RX10) (T := TX10) (N := 10) E hZ rfl (fun w h => List.mem_cons_of_mem _ (iz_X10 w h)) (by decide) (List.mem_cons_of_mem _ zLX10_33)
theorem zGX10_33 (E : CallFix p m c cc nL s args (w0 :: zt) RX10) (hZ : zq_K X s) : zq_G X s args RX10 33 8 1 .int := zq_G.of (C := RX10) (T := TX10) (N := 10) E hZ rfl (fun w h => List.mem_cons_of_mem _ (iz_X10 w h)) rfl tyX10 tyX10_ok nmX10 (by decide) rfl rfl (List.mem_cons_of_mem _ zLX10_33)
theorem zLX1_44 : Cond.fieldLink RX1 44 "PondIceTrade$World" "money" "I" ∈ zt := zt_t 247 (by decide +kernel) rfl
theorem zFX1_44 (E : CallFix p m c cc nL s args (w0 :: zt) RX1) (hZ : zq_K X s) : zq_F X s args RX1 44 8 1 := zq_F.of (C := RX10) (T := TX10) (N := 10) E hZ rfl (fun w h => List.mem_cons_of_mem _ (iz_X10 w h)) (by decide) (List.mem_cons_of_mem _ zLX1_44)
theorem zGX1_44 (E : CallFix p m c cc nL s args (w0 :: zt) RX1) (hZ : zq_K X s) : zq_G X s args RX1 44 8 1 .int := zq_G.of (C := RX10) (T := TX10) (N := 10) E hZ rfl (fun w h => List.mem_cons_of_mem _ (iz_X10 w h)) rfl tyX10 tyX10_ok nmX10 (by decide) rfl rfl (List.mem_cons_of_mem _ zLX1_44)
theorem zLX8_94 : Cond.fieldLink RX8 94 "PondIceTrade$World" "money" "I" ∈ zt := zt_t 248 (by decide +kernel) rfl
theorem zFX8_94 (E : CallFix p m c cc nL s args (w0 :: zt) RX8) (hZ : zq_K X s) : zq_F X s args RX8 94 8 1 := zq_F.of (C := RX10) (T := TX10) (N := 10) E hZ rfl (fun w h => List.mem_cons_of_mem _ (iz_X10 w h)) (by decide) (List.mem_cons_of_mem _ zLX8_94)
theorem zGX8_94 (E : CallFix p m c cc nL s args (w0 :: zt) RX8) (hZ : zq_K X s) : zq_G X s args RX8 94 8 1 .int := zq_G.of (C := RX10) (T := TX10) (N := 10) E hZ rfl (fun w h => List.mem_cons_of_mem _ (iz_X10 w h)) rfl tyX10 tyX10_ok nmX10 (by decide) rfl rfl (List.mem_cons_of_mem _ zLX8_94)
theorem zLX2_47 : Cond.fieldLink RX2 47 "PondIceTrade$World" "money" "I" ∈ zt := zt_t 249 (by decide +kernel) rfl
theorem zFX2_47 (E : CallFix p m c cc nL s args (w0 :: zt) RX2) (hZ : zq_K X s) : zq_F X s args RX2 47 8 1 := zq_F.of (C := RX10) (T := TX10) (N := 10) E hZ rfl (fun w h => List.mem_cons_of_mem _ (iz_X10 w h)) (by decide) (List.mem_cons_of_mem _ zLX2_47)
theorem zGX2_47 (E : CallFix p m c cc nL s args (w0 :: zt) RX2) (hZ : zq_K X s) : zq_G X s args RX2 47 8 1 .int := zq_G.of (C := RX10) (T := TX10) (N := 10) E hZ rfl (fun w h => List.mem_cons_of_mem _ (iz_X10 w h)) rfl tyX10 tyX10_ok nmX10 (by decide) rfl rfl (List.mem_cons_of_mem _ zLX2_47)
theorem zLX11_167 : Cond.fieldLink RX11 167 "PondIceTrade$World" "money" "I" ∈ zt := zt_t 250 (by decide +kernel) rfl
theorem zFX11_167 (E : CallFix p m c cc nL s args (w0 :: zt) RX11) (hZ : zq_K X s) : zq_F X s args RX11 167 8 1 := zq_F.of (C := RX10) (T := TX10) (N := 10) E hZ rfl (fun w h => List.mem_cons_of_mem _ (iz_X10 w h)) (by decide) (List.mem_cons_of_mem _ zLX11_167)
theorem zGX11_167 (E : CallFix p m c cc nL s args (w0 :: zt) RX11) (hZ : zq_K X s) : zq_G X s args RX11 167 8 1 .int := zq_G.of (C := RX10) (T := TX10) (N := 10) E hZ rfl (fun w h => List.mem_cons_of_mem _ (iz_X10 w h)) rfl tyX10 tyX10_ok nmX10 (by decide) rfl rfl (List.mem_cons_of_mem _ zLX11_167)
theorem zLX3_122 : Cond.fieldLink RX3 122 "PondIceTrade$World" "money" "I" ∈ zt := zt_t 251 (by decide +kernel) rfl
theorem zFX3_122 (E : CallFix p m c cc nL s args (w0 :: zt) RX3) (hZ : zq_K X s) : zq_F X s args RX3 122 8 1 := zq_F.of (C := RX10) (T := TX10) (N := 10) E hZ rfl (fun w h => List.mem_cons_of_mem _ (iz_X10 w h)) (by decide) (List.mem_cons_of_mem _ zLX3_122)
theorem zGX3_122 (E : CallFix p m c cc nL s args (w0 :: zt) RX3) (hZ : zq_K X s) : zq_G X s args RX3 122 8 1 .int := zq_G.of (C := RX10) (T := TX10) (N := 10) E hZ rfl (fun w h => List.mem_cons_of_mem _ (iz_X10 w h)) rfl tyX10 tyX10_ok nmX10 (by decide) rfl rfl (List.mem_cons_of_mem _ zLX3_122)
theorem zLX10_37 : Cond.fieldLink RX10 37 "PondIceTrade$World" "wage" "I" ∈ zt := zt_t 252 (by decide +kernel) rfl
theorem zFX10_37 (E : CallFix p m c cc nL s args (w0 :: zt) RX10) (hZ : zq_K X s) : zq_F X s args RX10 37 8 2 := zq_F.of (C := RX10) (T := TX10) (N := 10) E hZ rfl (fun w h => List.mem_cons_of_mem _ (iz_X10 w h)) (by decide) (List.mem_cons_of_mem _ zLX10_37)
theorem zGX10_37 (E : CallFix p m c cc nL s args (w0 :: zt) RX10) (hZ : zq_K X s) : zq_G X s args RX10 37 8 2 .int := zq_G.of (C := RX10) (T := TX10) (N := 10) E hZ rfl (fun w h => List.mem_cons_of_mem _ (iz_X10 w h)) rfl tyX10 tyX10_ok nmX10 (by decide) rfl rfl (List.mem_cons_of_mem _ zLX10_37)
theorem zLX8_97 : Cond.fieldLink RX8 97 "PondIceTrade$World" "wage" "I" ∈ zt := zt_t 253 (by decide +kernel) rfl
theorem zFX8_97 (E : CallFix p m c cc nL s args (w0 :: zt) RX8) (hZ : zq_K X s) : zq_F X s args RX8 97 8 2 := zq_F.of (C := RX10) (T := TX10) (N := 10) E hZ rfl (fun w h => List.mem_cons_of_mem _ (iz_X10 w h)) (by decide) (List.mem_cons_of_mem _ zLX8_97)
theorem zGX8_97 (E : CallFix p m c cc nL s args (w0 :: zt) RX8) (hZ : zq_K X s) : zq_G X s args RX8 97 8 2 .int := zq_G.of (C := RX10) (T := TX10) (N := 10) E hZ rfl (fun w h => List.mem_cons_of_mem _ (iz_X10 w h)) rfl tyX10 tyX10_ok nmX10 (by decide) rfl rfl (List.mem_cons_of_mem _ zLX8_97)
theorem zLX11_294 : Cond.fieldLink RX11 294 "PondIceTrade$World" "wage" "I" ∈ zt := zt_t 254 (by decide +kernel) rfl
theorem zFX11_294 (E : CallFix p m c cc nL s args (w0 :: zt) RX11) (hZ : zq_K X s) : zq_F X s args RX11 294 8 2 := zq_F.of (C := RX10) (T := TX10) (N := 10) E hZ rfl (fun w h => List.mem_cons_of_mem _ (iz_X10 w h)) (by decide) (List.mem_cons_of_mem _ zLX11_294)
theorem zGX11_294 (E : CallFix p m c cc nL s args (w0 :: zt) RX11) (hZ : zq_K X s) : zq_G X s args RX11 294 8 2 .int := zq_G.of (C := RX10) (T := TX10) (N := 10) E hZ rfl (fun w h => List.mem_cons_of_mem _ (iz_X10 w h)) rfl tyX10 tyX10_ok nmX10 (by decide) rfl rfl (List.mem_cons_of_mem _ zLX11_294)
theorem zLX10_40 : Cond.fieldLink RX10 40 "PondIceTrade$World" "pond" "I" ∈ zt := zt_t 255 (by decide +kernel) rfl
theorem zFX10_40 (E : CallFix p m c cc nL s args (w0 :: zt) RX10) (hZ : zq_K X s) : zq_F X s args RX10 40 8 3 := zq_F.of (C := RX10) (T := TX10) (N := 10) E hZ rfl (fun w h => List.mem_cons_of_mem _ (iz_X10 w h)) (by decide) (List.mem_cons_of_mem _ zLX10_40)
theorem zGX10_40 (E : CallFix p m c cc nL s args (w0 :: zt) RX10) (hZ : zq_K X s) : zq_G X s args RX10 40 8 3 .int := zq_G.of (C := RX10) (T := TX10) (N := 10) E hZ rfl (fun w h => List.mem_cons_of_mem _ (iz_X10 w h)) rfl tyX10 tyX10_ok nmX10 (by decide) rfl rfl (List.mem_cons_of_mem _ zLX10_40)
theorem zLX8_100 : Cond.fieldLink RX8 100 "PondIceTrade$World" "pond" "I" ∈ zt := zt_t 256 (by decide +kernel) rfl
theorem zFX8_100 (E : CallFix p m c cc nL s args (w0 :: zt) RX8) (hZ : zq_K X s) : zq_F X s args RX8 100 8 3 := zq_F.of (C := RX10) (T := TX10) (N := 10) E hZ rfl (fun w h => List.mem_cons_of_mem _ (iz_X10 w h)) (by decide) (List.mem_cons_of_mem _ zLX8_100)
theorem zGX8_100 (E : CallFix p m c cc nL s args (w0 :: zt) RX8) (hZ : zq_K X s) : zq_G X s args RX8 100 8 3 .int := zq_G.of (C := RX10) (T := TX10) (N := 10) E hZ rfl (fun w h => List.mem_cons_of_mem _ (iz_X10 w h)) rfl tyX10 tyX10_ok nmX10 (by decide) rfl rfl (List.mem_cons_of_mem _ zLX8_100)
theorem zLX3_110 : Cond.fieldLink RX3 110 "PondIceTrade$World" "pond" "I" ∈ zt := zt_t 257 (by decide +kernel) rfl
theorem zFX3_110 (E : CallFix p m c cc nL s args (w0 :: zt) RX3) (hZ : zq_K X s) : zq_F X s args RX3 110 8 3 := zq_F.of (C := RX10) (T := TX10) (N := 10) E hZ rfl (fun w h => List.mem_cons_of_mem _ (iz_X10 w h)) (by decide) (List.mem_cons_of_mem _ zLX3_110)
theorem zGX3_110 (E : CallFix p m c cc nL s args (w0 :: zt) RX3) (hZ : zq_K X s) : zq_G X s args RX3 110 8 3 .int := zq_G.of (C := RX10) (T := TX10) (N := 10) E hZ rfl (fun w h => List.mem_cons_of_mem _ (iz_X10 w h)) rfl tyX10 tyX10_ok nmX10 (by decide) rfl rfl (List.mem_cons_of_mem _ zLX3_110)
theorem zLX11_210 : Cond.fieldLink RX11 210 "PondIceTrade$World" "pond" "I" ∈ zt := zt_t 258 (by decide +kernel) rfl
theorem zFX11_210 (E : CallFix p m c cc nL s args (w0 :: zt) RX11) (hZ : zq_K X s) : zq_F X s args RX11 210 8 3 := zq_F.of (C := RX10) (T := TX10) (N := 10) E hZ rfl (fun w h => List.mem_cons_of_mem _ (iz_X10 w h)) (by decide) (List.mem_cons_of_mem _ zLX11_210)
theorem zGX11_210 (E : CallFix p m c cc nL s args (w0 :: zt) RX11) (hZ : zq_K X s) : zq_G X s args RX11 210 8 3 .int := zq_G.of (C := RX10) (T := TX10) (N := 10) E hZ rfl (fun w h => List.mem_cons_of_mem _ (iz_X10 w h)) rfl tyX10 tyX10_ok nmX10 (by decide) rfl rfl (List.mem_cons_of_mem _ zLX11_210)
theorem zLX10_43 : Cond.fieldLink RX10 43 "PondIceTrade$World" "month" "I" ∈ zt := zt_t 259 (by decide +kernel) rfl
theorem zFX10_43 (E : CallFix p m c cc nL s args (w0 :: zt) RX10) (hZ : zq_K X s) : zq_F X s args RX10 43 8 4 := zq_F.of (C := RX10) (T := TX10) (N := 10) E hZ rfl (fun w h => List.mem_cons_of_mem _ (iz_X10 w h)) (by decide) (List.mem_cons_of_mem _ zLX10_43)
theorem zGX10_43 (E : CallFix p m c cc nL s args (w0 :: zt) RX10) (hZ : zq_K X s) : zq_G X s args RX10 43 8 4 .int := zq_G.of (C := RX10) (T := TX10) (N := 10) E hZ rfl (fun w h => List.mem_cons_of_mem _ (iz_X10 w h)) rfl tyX10 tyX10_ok nmX10 (by decide) rfl rfl (List.mem_cons_of_mem _ zLX10_43)
theorem zLX11_145 : Cond.fieldLink RX11 145 "PondIceTrade$World" "month" "I" ∈ zt := zt_t 260 (by decide +kernel) rfl
theorem zFX11_145 (E : CallFix p m c cc nL s args (w0 :: zt) RX11) (hZ : zq_K X s) : zq_F X s args RX11 145 8 4 := zq_F.of (C := RX10) (T := TX10) (N := 10) E hZ rfl (fun w h => List.mem_cons_of_mem _ (iz_X10 w h)) (by decide) (List.mem_cons_of_mem _ zLX11_145)
theorem zGX11_145 (E : CallFix p m c cc nL s args (w0 :: zt) RX11) (hZ : zq_K X s) : zq_G X s args RX11 145 8 4 .int := zq_G.of (C := RX10) (T := TX10) (N := 10) E hZ rfl (fun w h => List.mem_cons_of_mem _ (iz_X10 w h)) rfl tyX10 tyX10_ok nmX10 (by decide) rfl rfl (List.mem_cons_of_mem _ zLX11_145)
theorem zLX3_125 : Cond.fieldLink RX3 125 "PondIceTrade$World" "month" "I" ∈ zt := zt_t 261 (by decide +kernel) rfl
theorem zFX3_125 (E : CallFix p m c cc nL s args (w0 :: zt) RX3) (hZ : zq_K X s) : zq_F X s args RX3 125 8 4 := zq_F.of (C := RX10) (T := TX10) (N := 10) E hZ rfl (fun w h => List.mem_cons_of_mem _ (iz_X10 w h)) (by decide) (List.mem_cons_of_mem _ zLX3_125)
theorem zGX3_125 (E : CallFix p m c cc nL s args (w0 :: zt) RX3) (hZ : zq_K X s) : zq_G X s args RX3 125 8 4 .int := zq_G.of (C := RX10) (T := TX10) (N := 10) E hZ rfl (fun w h => List.mem_cons_of_mem _ (iz_X10 w h)) rfl tyX10 tyX10_ok nmX10 (by decide) rfl rfl (List.mem_cons_of_mem _ zLX3_125)
theorem zLX2_137 : Cond.fieldLink RX2 137 "PondIceTrade$World" "month" "I" ∈ zt := zt_t 262 (by decide +kernel) rfl
theorem zFX2_137 (E : CallFix p m c cc nL s args (w0 :: zt) RX2) (hZ : zq_K X s) : zq_F X s args RX2 137 8 4 := zq_F.of (C := RX10) (T := TX10) (N := 10) E hZ rfl (fun w h => List.mem_cons_of_mem _ (iz_X10 w h)) (by decide) (List.mem_cons_of_mem _ zLX2_137)
theorem zGX2_137 (E : CallFix p m c cc nL s args (w0 :: zt) RX2) (hZ : zq_K X s) : zq_G X s args RX2 137 8 4 .int := zq_G.of (C := RX10) (T := TX10) (N := 10) E hZ rfl (fun w h => List.mem_cons_of_mem _ (iz_X10 w h)) rfl tyX10 tyX10_ok nmX10 (by decide) rfl rfl (List.mem_cons_of_mem _ zLX2_137)
theorem zLX10_46 : Cond.fieldLink RX10 46 "PondIceTrade$World" "shipCount" "I" ∈ zt := zt_t 263 (by decide +kernel) rfl
theorem zFX10_46 (E : CallFix p m c cc nL s args (w0 :: zt) RX10) (hZ : zq_K X s) : zq_F X s args RX10 46 8 5 := zq_F.of (C := RX10) (T := TX10) (N := 10) E hZ rfl (fun w h => List.mem_cons_of_mem _ (iz_X10 w h)) (by decide) (List.mem_cons_of_mem _ zLX10_46)
theorem zGX10_46 (E : CallFix p m c cc nL s args (w0 :: zt) RX10) (hZ : zq_K X s) : zq_G X s args RX10 46 8 5 .int := zq_G.of (C := RX10) (T := TX10) (N := 10) E hZ rfl (fun w h => List.mem_cons_of_mem _ (iz_X10 w h)) rfl tyX10 tyX10_ok nmX10 (by decide) rfl rfl (List.mem_cons_of_mem _ zLX10_46)
theorem zLX8_117 : Cond.fieldLink RX8 117 "PondIceTrade$World" "shipCount" "I" ∈ zt := zt_t 264 (by decide +kernel) rfl
theorem zFX8_117 (E : CallFix p m c cc nL s args (w0 :: zt) RX8) (hZ : zq_K X s) : zq_F X s args RX8 117 8 5 := zq_F.of (C := RX10) (T := TX10) (N := 10) E hZ rfl (fun w h => List.mem_cons_of_mem _ (iz_X10 w h)) (by decide) (List.mem_cons_of_mem _ zLX8_117)
theorem zGX8_117 (E : CallFix p m c cc nL s args (w0 :: zt) RX8) (hZ : zq_K X s) : zq_G X s args RX8 117 8 5 .int := zq_G.of (C := RX10) (T := TX10) (N := 10) E hZ rfl (fun w h => List.mem_cons_of_mem _ (iz_X10 w h)) rfl tyX10 tyX10_ok nmX10 (by decide) rfl rfl (List.mem_cons_of_mem _ zLX8_117)
theorem zLX11_297 : Cond.fieldLink RX11 297 "PondIceTrade$World" "shipCount" "I" ∈ zt := zt_t 265 (by decide +kernel) rfl
theorem zFX11_297 (E : CallFix p m c cc nL s args (w0 :: zt) RX11) (hZ : zq_K X s) : zq_F X s args RX11 297 8 5 := zq_F.of (C := RX10) (T := TX10) (N := 10) E hZ rfl (fun w h => List.mem_cons_of_mem _ (iz_X10 w h)) (by decide) (List.mem_cons_of_mem _ zLX11_297)
theorem zGX11_297 (E : CallFix p m c cc nL s args (w0 :: zt) RX11) (hZ : zq_K X s) : zq_G X s args RX11 297 8 5 .int := zq_G.of (C := RX10) (T := TX10) (N := 10) E hZ rfl (fun w h => List.mem_cons_of_mem _ (iz_X10 w h)) rfl tyX10 tyX10_ok nmX10 (by decide) rfl rfl (List.mem_cons_of_mem _ zLX11_297)
theorem zLX10_49 : Cond.fieldLink RX10 49 "PondIceTrade$World" "townCount" "I" ∈ zt := zt_t 266 (by decide +kernel) rfl
theorem zFX10_49 (E : CallFix p m c cc nL s args (w0 :: zt) RX10) (hZ : zq_K X s) : zq_F X s args RX10 49 8 6 := zq_F.of (C := RX10) (T := TX10) (N := 10) E hZ rfl (fun w h => List.mem_cons_of_mem _ (iz_X10 w h)) (by decide) (List.mem_cons_of_mem _ zLX10_49)
theorem zGX10_49 (E : CallFix p m c cc nL s args (w0 :: zt) RX10) (hZ : zq_K X s) : zq_G X s args RX10 49 8 6 .int := zq_G.of (C := RX10) (T := TX10) (N := 10) E hZ rfl (fun w h => List.mem_cons_of_mem _ (iz_X10 w h)) rfl tyX10 tyX10_ok nmX10 (by decide) rfl rfl (List.mem_cons_of_mem _ zLX10_49)
theorem zLX11_98 : Cond.fieldLink RX11 98 "PondIceTrade$World" "townCount" "I" ∈ zt := zt_t 267 (by decide +kernel) rfl
theorem zFX11_98 (E : CallFix p m c cc nL s args (w0 :: zt) RX11) (hZ : zq_K X s) : zq_F X s args RX11 98 8 6 := zq_F.of (C := RX10) (T := TX10) (N := 10) E hZ rfl (fun w h => List.mem_cons_of_mem _ (iz_X10 w h)) (by decide) (List.mem_cons_of_mem _ zLX11_98)
theorem zGX11_98 (E : CallFix p m c cc nL s args (w0 :: zt) RX11) (hZ : zq_K X s) : zq_G X s args RX11 98 8 6 .int := zq_G.of (C := RX10) (T := TX10) (N := 10) E hZ rfl (fun w h => List.mem_cons_of_mem _ (iz_X10 w h)) rfl tyX10 tyX10_ok nmX10 (by decide) rfl rfl (List.mem_cons_of_mem _ zLX11_98)
theorem zLX8_132 : Cond.fieldLink RX8 132 "PondIceTrade$World" "townCount" "I" ∈ zt := zt_t 268 (by decide +kernel) rfl
theorem zFX8_132 (E : CallFix p m c cc nL s args (w0 :: zt) RX8) (hZ : zq_K X s) : zq_F X s args RX8 132 8 6 := zq_F.of (C := RX10) (T := TX10) (N := 10) E hZ rfl (fun w h => List.mem_cons_of_mem _ (iz_X10 w h)) (by decide) (List.mem_cons_of_mem _ zLX8_132)
theorem zGX8_132 (E : CallFix p m c cc nL s args (w0 :: zt) RX8) (hZ : zq_K X s) : zq_G X s args RX8 132 8 6 .int := zq_G.of (C := RX10) (T := TX10) (N := 10) E hZ rfl (fun w h => List.mem_cons_of_mem _ (iz_X10 w h)) rfl tyX10 tyX10_ok nmX10 (by decide) rfl rfl (List.mem_cons_of_mem _ zLX8_132)
theorem zLX2_62 : Cond.fieldLink RX2 62 "PondIceTrade$World" "townCount" "I" ∈ zt := zt_t 269 (by decide +kernel) rfl
theorem zFX2_62 (E : CallFix p m c cc nL s args (w0 :: zt) RX2) (hZ : zq_K X s) : zq_F X s args RX2 62 8 6 := zq_F.of (C := RX10) (T := TX10) (N := 10) E hZ rfl (fun w h => List.mem_cons_of_mem _ (iz_X10 w h)) (by decide) (List.mem_cons_of_mem _ zLX2_62)
theorem zGX2_62 (E : CallFix p m c cc nL s args (w0 :: zt) RX2) (hZ : zq_K X s) : zq_G X s args RX2 62 8 6 .int := zq_G.of (C := RX10) (T := TX10) (N := 10) E hZ rfl (fun w h => List.mem_cons_of_mem _ (iz_X10 w h)) rfl tyX10 tyX10_ok nmX10 (by decide) rfl rfl (List.mem_cons_of_mem _ zLX2_62)
theorem zLX10_11 : Cond.fieldLink RX10 11 "PondIceTrade$World" "frost" "[I" ∈ zt := zt_t 270 (by decide +kernel) rfl
theorem zFX10_11 (E : CallFix p m c cc nL s args (w0 :: zt) RX10) (hZ : zq_K X s) : zq_F X s args RX10 11 8 7 := zq_F.of (C := RX10) (T := TX10) (N := 10) E hZ rfl (fun w h => List.mem_cons_of_mem _ (iz_X10 w h)) (by decide) (List.mem_cons_of_mem _ zLX10_11)
theorem zLX8_109 : Cond.fieldLink RX8 109 "PondIceTrade$World" "frost" "[I" ∈ zt := zt_t 271 (by decide +kernel) rfl
theorem zFX8_109 (E : CallFix p m c cc nL s args (w0 :: zt) RX8) (hZ : zq_K X s) : zq_F X s args RX8 109 8 7 := zq_F.of (C := RX10) (T := TX10) (N := 10) E hZ rfl (fun w h => List.mem_cons_of_mem _ (iz_X10 w h)) (by decide) (List.mem_cons_of_mem _ zLX8_109)
theorem zLX10_17 : Cond.fieldLink RX10 17 "PondIceTrade$World" "ships" "[LPondIceTrade$Ship;" ∈ zt := zt_t 272 (by decide +kernel) rfl
theorem zFX10_17 (E : CallFix p m c cc nL s args (w0 :: zt) RX10) (hZ : zq_K X s) : zq_F X s args RX10 17 8 8 := zq_F.of (C := RX10) (T := TX10) (N := 10) E hZ rfl (fun w h => List.mem_cons_of_mem _ (iz_X10 w h)) (by decide) (List.mem_cons_of_mem _ zLX10_17)
theorem zLX8_113 : Cond.fieldLink RX8 113 "PondIceTrade$World" "ships" "[LPondIceTrade$Ship;" ∈ zt := zt_t 273 (by decide +kernel) rfl
theorem zFX8_113 (E : CallFix p m c cc nL s args (w0 :: zt) RX8) (hZ : zq_K X s) : zq_F X s args RX8 113 8 8 := zq_F.of (C := RX10) (T := TX10) (N := 10) E hZ rfl (fun w h => List.mem_cons_of_mem _ (iz_X10 w h)) (by decide) (List.mem_cons_of_mem _ zLX8_113)
theorem zLX11_118 : Cond.fieldLink RX11 118 "PondIceTrade$World" "ships" "[LPondIceTrade$Ship;" ∈ zt := zt_t 274 (by decide +kernel) rfl
theorem zFX11_118 (E : CallFix p m c cc nL s args (w0 :: zt) RX11) (hZ : zq_K X s) : zq_F X s args RX11 118 8 8 := zq_F.of (C := RX10) (T := TX10) (N := 10) E hZ rfl (fun w h => List.mem_cons_of_mem _ (iz_X10 w h)) (by decide) (List.mem_cons_of_mem _ zLX11_118)
theorem zLX3_113 : Cond.fieldLink RX3 113 "PondIceTrade$World" "ships" "[LPondIceTrade$Ship;" ∈ zt := zt_t 275 (by decide +kernel) rfl
theorem zFX3_113 (E : CallFix p m c cc nL s args (w0 :: zt) RX3) (hZ : zq_K X s) : zq_F X s args RX3 113 8 8 := zq_F.of (C := RX10) (T := TX10) (N := 10) E hZ rfl (fun w h => List.mem_cons_of_mem _ (iz_X10 w h)) (by decide) (List.mem_cons_of_mem _ zLX3_113)
theorem zLX10_23 : Cond.fieldLink RX10 23 "PondIceTrade$World" "towns" "[LPondIceTrade$Town;" ∈ zt := zt_t 276 (by decide +kernel) rfl
theorem zFX10_23 (E : CallFix p m c cc nL s args (w0 :: zt) RX10) (hZ : zq_K X s) : zq_F X s args RX10 23 8 9 := zq_F.of (C := RX10) (T := TX10) (N := 10) E hZ rfl (fun w h => List.mem_cons_of_mem _ (iz_X10 w h)) (by decide) (List.mem_cons_of_mem _ zLX10_23)
theorem zLX8_128 : Cond.fieldLink RX8 128 "PondIceTrade$World" "towns" "[LPondIceTrade$Town;" ∈ zt := zt_t 277 (by decide +kernel) rfl
theorem zFX8_128 (E : CallFix p m c cc nL s args (w0 :: zt) RX8) (hZ : zq_K X s) : zq_F X s args RX8 128 8 9 := zq_F.of (C := RX10) (T := TX10) (N := 10) E hZ rfl (fun w h => List.mem_cons_of_mem _ (iz_X10 w h)) (by decide) (List.mem_cons_of_mem _ zLX8_128)
theorem zLX11_134 : Cond.fieldLink RX11 134 "PondIceTrade$World" "towns" "[LPondIceTrade$Town;" ∈ zt := zt_t 278 (by decide +kernel) rfl
theorem zFX11_134 (E : CallFix p m c cc nL s args (w0 :: zt) RX11) (hZ : zq_K X s) : zq_F X s args RX11 134 8 9 := zq_F.of (C := RX10) (T := TX10) (N := 10) E hZ rfl (fun w h => List.mem_cons_of_mem _ (iz_X10 w h)) (by decide) (List.mem_cons_of_mem _ zLX11_134)
theorem zLX3_85 : Cond.fieldLink RX3 85 "PondIceTrade$World" "towns" "[LPondIceTrade$Town;" ∈ zt := zt_t 279 (by decide +kernel) rfl
theorem zFX3_85 (E : CallFix p m c cc nL s args (w0 :: zt) RX3) (hZ : zq_K X s) : zq_F X s args RX3 85 8 9 := zq_F.of (C := RX10) (T := TX10) (N := 10) E hZ rfl (fun w h => List.mem_cons_of_mem _ (iz_X10 w h)) (by decide) (List.mem_cons_of_mem _ zLX3_85)
theorem zLX2_88 : Cond.fieldLink RX2 88 "PondIceTrade$World" "towns" "[LPondIceTrade$Town;" ∈ zt := zt_t 280 (by decide +kernel) rfl
theorem zFX2_88 (E : CallFix p m c cc nL s args (w0 :: zt) RX2) (hZ : zq_K X s) : zq_F X s args RX2 88 8 9 := zq_F.of (C := RX10) (T := TX10) (N := 10) E hZ rfl (fun w h => List.mem_cons_of_mem _ (iz_X10 w h)) (by decide) (List.mem_cons_of_mem _ zLX2_88)
theorem zLX0_12 : Cond.fieldLink RX0 12 "PondIceTrade$Book" "now" "LPondIceTrade$World;" ∈ zt := zt_t 302 (by decide +kernel) rfl
theorem zFX0_12 (E : CallFix p m c cc nL s args (w0 :: zt) RX0) (hZ : zq_K X s) : zq_F X s args RX0 12 1 0 := zq_F.of (C := RX0) (T := TX0) (N := 7) E hZ rfl (fun w h => List.mem_cons_of_mem _ (iz_X0 w h)) (by decide) (List.mem_cons_of_mem _ zLX0_12)
theorem zLX11_95 : Cond.fieldLink RX11 95 "PondIceTrade$Book" "now" "LPondIceTrade$World;" ∈ zt := zt_t 303 (by decide +kernel) rfl
theorem zFX11_95 (E : CallFix p m c cc nL s args (w0 :: zt) RX11) (hZ : zq_K X s) : zq_F X s args RX11 95 1 0 := zq_F.of (C := RX0) (T := TX0) (N := 7) E hZ rfl (fun w h => List.mem_cons_of_mem _ (iz_X0 w h)) (by decide) (List.mem_cons_of_mem _ zLX11_95)
theorem zLX2_149 : Cond.fieldLink RX2 149 "PondIceTrade$Book" "now" "LPondIceTrade$World;" ∈ zt := zt_t 304 (by decide +kernel) rfl
theorem zFX2_149 (E : CallFix p m c cc nL s args (w0 :: zt) RX2) (hZ : zq_K X s) : zq_F X s args RX2 149 1 0 := zq_F.of (C := RX0) (T := TX0) (N := 7) E hZ rfl (fun w h => List.mem_cons_of_mem _ (iz_X0 w h)) (by decide) (List.mem_cons_of_mem _ zLX2_149)
theorem zLX0_18 : Cond.fieldLink RX0 18 "PondIceTrade$Book" "begin" "LPondIceTrade$World;" ∈ zt := zt_t 305 (by decide +kernel) rfl
theorem zFX0_18 (E : CallFix p m c cc nL s args (w0 :: zt) RX0) (hZ : zq_K X s) : zq_F X s args RX0 18 1 1 := zq_F.of (C := RX0) (T := TX0) (N := 7) E hZ rfl (fun w h => List.mem_cons_of_mem _ (iz_X0 w h)) (by decide) (List.mem_cons_of_mem _ zLX0_18)
theorem zLX1_27 : Cond.fieldLink RX1 27 "PondIceTrade$Book" "begin" "LPondIceTrade$World;" ∈ zt := zt_t 306 (by decide +kernel) rfl
theorem zFX1_27 (E : CallFix p m c cc nL s args (w0 :: zt) RX1) (hZ : zq_K X s) : zq_F X s args RX1 27 1 1 := zq_F.of (C := RX0) (T := TX0) (N := 7) E hZ rfl (fun w h => List.mem_cons_of_mem _ (iz_X0 w h)) (by decide) (List.mem_cons_of_mem _ zLX1_27)
theorem zLX0_21 : Cond.fieldLink RX0 21 "PondIceTrade$Book" "inForce" "I" ∈ zt := zt_t 307 (by decide +kernel) rfl
theorem zFX0_21 (E : CallFix p m c cc nL s args (w0 :: zt) RX0) (hZ : zq_K X s) : zq_F X s args RX0 21 1 2 := zq_F.of (C := RX0) (T := TX0) (N := 7) E hZ rfl (fun w h => List.mem_cons_of_mem _ (iz_X0 w h)) (by decide) (List.mem_cons_of_mem _ zLX0_21)
theorem zGX0_21 (E : CallFix p m c cc nL s args (w0 :: zt) RX0) (hZ : zq_K X s) : zq_G X s args RX0 21 1 2 .int := zq_G.of (C := RX0) (T := TX0) (N := 7) E hZ rfl (fun w h => List.mem_cons_of_mem _ (iz_X0 w h)) rfl tyX0 tyX0_ok nmX0 (by decide) rfl rfl (List.mem_cons_of_mem _ zLX0_21)
theorem zLX11_109 : Cond.fieldLink RX11 109 "PondIceTrade$Book" "inForce" "I" ∈ zt := zt_t 308 (by decide +kernel) rfl
theorem zFX11_109 (E : CallFix p m c cc nL s args (w0 :: zt) RX11) (hZ : zq_K X s) : zq_F X s args RX11 109 1 2 := zq_F.of (C := RX0) (T := TX0) (N := 7) E hZ rfl (fun w h => List.mem_cons_of_mem _ (iz_X0 w h)) (by decide) (List.mem_cons_of_mem _ zLX11_109)
theorem zGX11_109 (E : CallFix p m c cc nL s args (w0 :: zt) RX11) (hZ : zq_K X s) : zq_G X s args RX11 109 1 2 .int := zq_G.of (C := RX0) (T := TX0) (N := 7) E hZ rfl (fun w h => List.mem_cons_of_mem _ (iz_X0 w h)) rfl tyX0 tyX0_ok nmX0 (by decide) rfl rfl (List.mem_cons_of_mem _ zLX11_109)
theorem zLX0_39 : Cond.fieldLink RX0 39 "PondIceTrade$Book" "x" "I" ∈ zt := zt_t 309 (by decide +kernel) rfl
theorem zFX0_39 (E : CallFix p m c cc nL s args (w0 :: zt) RX0) (hZ : zq_K X s) : zq_F X s args RX0 39 1 3 := zq_F.of (C := RX0) (T := TX0) (N := 7) E hZ rfl (fun w h => List.mem_cons_of_mem _ (iz_X0 w h)) (by decide) (List.mem_cons_of_mem _ zLX0_39)
theorem zGX0_39 (E : CallFix p m c cc nL s args (w0 :: zt) RX0) (hZ : zq_K X s) : zq_G X s args RX0 39 1 3 .int := zq_G.of (C := RX0) (T := TX0) (N := 7) E hZ rfl (fun w h => List.mem_cons_of_mem _ (iz_X0 w h)) rfl tyX0 tyX0_ok nmX0 (by decide) rfl rfl (List.mem_cons_of_mem _ zLX0_39)
theorem zLX2_144 : Cond.fieldLink RX2 144 "PondIceTrade$Book" "x" "I" ∈ zt := zt_t 310 (by decide +kernel) rfl
theorem zFX2_144 (E : CallFix p m c cc nL s args (w0 :: zt) RX2) (hZ : zq_K X s) : zq_F X s args RX2 144 1 3 := zq_F.of (C := RX0) (T := TX0) (N := 7) E hZ rfl (fun w h => List.mem_cons_of_mem _ (iz_X0 w h)) (by decide) (List.mem_cons_of_mem _ zLX2_144)
theorem zGX2_144 (E : CallFix p m c cc nL s args (w0 :: zt) RX2) (hZ : zq_K X s) : zq_G X s args RX2 144 1 3 .int := zq_G.of (C := RX0) (T := TX0) (N := 7) E hZ rfl (fun w h => List.mem_cons_of_mem _ (iz_X0 w h)) rfl tyX0 tyX0_ok nmX0 (by decide) rfl rfl (List.mem_cons_of_mem _ zLX2_144)
theorem zLX11_287 : Cond.fieldLink RX11 287 "PondIceTrade$Book" "x" "I" ∈ zt := zt_t 311 (by decide +kernel) rfl
theorem zFX11_287 (E : CallFix p m c cc nL s args (w0 :: zt) RX11) (hZ : zq_K X s) : zq_F X s args RX11 287 1 3 := zq_F.of (C := RX0) (T := TX0) (N := 7) E hZ rfl (fun w h => List.mem_cons_of_mem _ (iz_X0 w h)) (by decide) (List.mem_cons_of_mem _ zLX11_287)
theorem zGX11_287 (E : CallFix p m c cc nL s args (w0 :: zt) RX11) (hZ : zq_K X s) : zq_G X s args RX11 287 1 3 .int := zq_G.of (C := RX0) (T := TX0) (N := 7) E hZ rfl (fun w h => List.mem_cons_of_mem _ (iz_X0 w h)) rfl tyX0 tyX0_ok nmX0 (by decide) rfl rfl (List.mem_cons_of_mem _ zLX11_287)
theorem zLX0_25 : Cond.fieldLink RX0 25 "PondIceTrade$Book" "noteMonths" "[I" ∈ zt := zt_t 312 (by decide +kernel) rfl
theorem zFX0_25 (E : CallFix p m c cc nL s args (w0 :: zt) RX0) (hZ : zq_K X s) : zq_F X s args RX0 25 1 4 := zq_F.of (C := RX0) (T := TX0) (N := 7) E hZ rfl (fun w h => List.mem_cons_of_mem _ (iz_X0 w h)) (by decide) (List.mem_cons_of_mem _ zLX0_25)
theorem zLX1_55 : Cond.fieldLink RX1 55 "PondIceTrade$Book" "noteMonths" "[I" ∈ zt := zt_t 313 (by decide +kernel) rfl
theorem zFX1_55 (E : CallFix p m c cc nL s args (w0 :: zt) RX1) (hZ : zq_K X s) : zq_F X s args RX1 55 1 4 := zq_F.of (C := RX0) (T := TX0) (N := 7) E hZ rfl (fun w h => List.mem_cons_of_mem _ (iz_X0 w h)) (by decide) (List.mem_cons_of_mem _ zLX1_55)
theorem zLX0_29 : Cond.fieldLink RX0 29 "PondIceTrade$Book" "noteMoneys" "[I" ∈ zt := zt_t 314 (by decide +kernel) rfl
theorem zFX0_29 (E : CallFix p m c cc nL s args (w0 :: zt) RX0) (hZ : zq_K X s) : zq_F X s args RX0 29 1 5 := zq_F.of (C := RX0) (T := TX0) (N := 7) E hZ rfl (fun w h => List.mem_cons_of_mem _ (iz_X0 w h)) (by decide) (List.mem_cons_of_mem _ zLX0_29)
theorem zLX1_63 : Cond.fieldLink RX1 63 "PondIceTrade$Book" "noteMoneys" "[I" ∈ zt := zt_t 315 (by decide +kernel) rfl
theorem zFX1_63 (E : CallFix p m c cc nL s args (w0 :: zt) RX1) (hZ : zq_K X s) : zq_F X s args RX1 63 1 5 := zq_F.of (C := RX0) (T := TX0) (N := 7) E hZ rfl (fun w h => List.mem_cons_of_mem _ (iz_X0 w h)) (by decide) (List.mem_cons_of_mem _ zLX1_63)
theorem zLX0_36 : Cond.fieldLink RX0 36 "PondIceTrade$Book" "noteCount" "I" ∈ zt := zt_t 316 (by decide +kernel) rfl
theorem zFX0_36 (E : CallFix p m c cc nL s args (w0 :: zt) RX0) (hZ : zq_K X s) : zq_F X s args RX0 36 1 6 := zq_F.of (C := RX0) (T := TX0) (N := 7) E hZ rfl (fun w h => List.mem_cons_of_mem _ (iz_X0 w h)) (by decide) (List.mem_cons_of_mem _ zLX0_36)
theorem zGX0_36 (E : CallFix p m c cc nL s args (w0 :: zt) RX0) (hZ : zq_K X s) : zq_G X s args RX0 36 1 6 .int := zq_G.of (C := RX0) (T := TX0) (N := 7) E hZ rfl (fun w h => List.mem_cons_of_mem _ (iz_X0 w h)) rfl tyX0 tyX0_ok nmX0 (by decide) rfl rfl (List.mem_cons_of_mem _ zLX0_36)
theorem zLX1_52 : Cond.fieldLink RX1 52 "PondIceTrade$Book" "noteCount" "I" ∈ zt := zt_t 317 (by decide +kernel) rfl
theorem zFX1_52 (E : CallFix p m c cc nL s args (w0 :: zt) RX1) (hZ : zq_K X s) : zq_F X s args RX1 52 1 6 := zq_F.of (C := RX0) (T := TX0) (N := 7) E hZ rfl (fun w h => List.mem_cons_of_mem _ (iz_X0 w h)) (by decide) (List.mem_cons_of_mem _ zLX1_52)
theorem zGX1_52 (E : CallFix p m c cc nL s args (w0 :: zt) RX1) (hZ : zq_K X s) : zq_G X s args RX1 52 1 6 .int := zq_G.of (C := RX0) (T := TX0) (N := 7) E hZ rfl (fun w h => List.mem_cons_of_mem _ (iz_X0 w h)) rfl tyX0 tyX0_ok nmX0 (by decide) rfl rfl (List.mem_cons_of_mem _ zLX1_52)
theorem zLX11_262 : Cond.fieldLink RX11 262 "PondIceTrade$Book" "noteCount" "I" ∈ zt := zt_t 318 (by decide +kernel) rfl
theorem zFX11_262 (E : CallFix p m c cc nL s args (w0 :: zt) RX11) (hZ : zq_K X s) : zq_F X s args RX11 262 1 6 := zq_F.of (C := RX0) (T := TX0) (N := 7) E hZ rfl (fun w h => List.mem_cons_of_mem _ (iz_X0 w h)) (by decide) (List.mem_cons_of_mem _ zLX11_262)
theorem zGX11_262 (E : CallFix p m c cc nL s args (w0 :: zt) RX11) (hZ : zq_K X s) : zq_G X s args RX11 262 1 6 .int := zq_G.of (C := RX0) (T := TX0) (N := 7) E hZ rfl (fun w h => List.mem_cons_of_mem _ (iz_X0 w h)) rfl tyX0 tyX0_ok nmX0 (by decide) rfl rfl (List.mem_cons_of_mem _ zLX11_262)
theorem zLX2_12 : Cond.fieldLink RX2 12 "PondIceTrade$Planner" "trial" "LPondIceTrade$World;" ∈ zt := zt_t 346 (by decide +kernel) rfl
theorem zFX2_12 (E : CallFix p m c cc nL s args (w0 :: zt) RX2) (hZ : zq_K X s) : zq_F X s args RX2 12 3 0 := zq_F.of (C := RX2) (T := TX2) (N := 6) E hZ rfl (fun w h => List.mem_cons_of_mem _ (iz_X2 w h)) (by decide) (List.mem_cons_of_mem _ zLX2_12)
theorem zLX2_18 : Cond.fieldLink RX2 18 "PondIceTrade$Planner" "best" "[I" ∈ zt := zt_t 347 (by decide +kernel) rfl
theorem zFX2_18 (E : CallFix p m c cc nL s args (w0 :: zt) RX2) (hZ : zq_K X s) : zq_F X s args RX2 18 3 1 := zq_F.of (C := RX2) (T := TX2) (N := 6) E hZ rfl (fun w h => List.mem_cons_of_mem _ (iz_X2 w h)) (by decide) (List.mem_cons_of_mem _ zLX2_18)
theorem zLX11_233 : Cond.fieldLink RX11 233 "PondIceTrade$Planner" "best" "[I" ∈ zt := zt_t 348 (by decide +kernel) rfl
theorem zFX11_233 (E : CallFix p m c cc nL s args (w0 :: zt) RX11) (hZ : zq_K X s) : zq_F X s args RX11 233 3 1 := zq_F.of (C := RX2) (T := TX2) (N := 6) E hZ rfl (fun w h => List.mem_cons_of_mem _ (iz_X2 w h)) (by decide) (List.mem_cons_of_mem _ zLX11_233)
theorem zLX2_22 : Cond.fieldLink RX2 22 "PondIceTrade$Planner" "row" "[I" ∈ zt := zt_t 349 (by decide +kernel) rfl
theorem zFX2_22 (E : CallFix p m c cc nL s args (w0 :: zt) RX2) (hZ : zq_K X s) : zq_F X s args RX2 22 3 2 := zq_F.of (C := RX2) (T := TX2) (N := 6) E hZ rfl (fun w h => List.mem_cons_of_mem _ (iz_X2 w h)) (by decide) (List.mem_cons_of_mem _ zLX2_22)
theorem zLX2_29 : Cond.fieldLink RX2 29 "PondIceTrade$Planner" "question" "I" ∈ zt := zt_t 350 (by decide +kernel) rfl
theorem zFX2_29 (E : CallFix p m c cc nL s args (w0 :: zt) RX2) (hZ : zq_K X s) : zq_F X s args RX2 29 3 3 := zq_F.of (C := RX2) (T := TX2) (N := 6) E hZ rfl (fun w h => List.mem_cons_of_mem _ (iz_X2 w h)) (by decide) (List.mem_cons_of_mem _ zLX2_29)
theorem zGX2_29 (E : CallFix p m c cc nL s args (w0 :: zt) RX2) (hZ : zq_K X s) : zq_G X s args RX2 29 3 3 .int := zq_G.of (C := RX2) (T := TX2) (N := 6) E hZ rfl (fun w h => List.mem_cons_of_mem _ (iz_X2 w h)) rfl tyX2 tyX2_ok nmX2 (by decide) rfl rfl (List.mem_cons_of_mem _ zLX2_29)
theorem zLX2_33 : Cond.fieldLink RX2 33 "PondIceTrade$Planner" "about" "I" ∈ zt := zt_t 351 (by decide +kernel) rfl
theorem zFX2_33 (E : CallFix p m c cc nL s args (w0 :: zt) RX2) (hZ : zq_K X s) : zq_F X s args RX2 33 3 4 := zq_F.of (C := RX2) (T := TX2) (N := 6) E hZ rfl (fun w h => List.mem_cons_of_mem _ (iz_X2 w h)) (by decide) (List.mem_cons_of_mem _ zLX2_33)
theorem zGX2_33 (E : CallFix p m c cc nL s args (w0 :: zt) RX2) (hZ : zq_K X s) : zq_G X s args RX2 33 3 4 .int := zq_G.of (C := RX2) (T := TX2) (N := 6) E hZ rfl (fun w h => List.mem_cons_of_mem _ (iz_X2 w h)) rfl tyX2 tyX2_ok nmX2 (by decide) rfl rfl (List.mem_cons_of_mem _ zLX2_33)
theorem zLX2_36 : Cond.fieldLink RX2 36 "PondIceTrade$Planner" "months" "I" ∈ zt := zt_t 352 (by decide +kernel) rfl
theorem zFX2_36 (E : CallFix p m c cc nL s args (w0 :: zt) RX2) (hZ : zq_K X s) : zq_F X s args RX2 36 3 5 := zq_F.of (C := RX2) (T := TX2) (N := 6) E hZ rfl (fun w h => List.mem_cons_of_mem _ (iz_X2 w h)) (by decide) (List.mem_cons_of_mem _ zLX2_36)
theorem zGX2_36 (E : CallFix p m c cc nL s args (w0 :: zt) RX2) (hZ : zq_K X s) : zq_G X s args RX2 36 3 5 .int := zq_G.of (C := RX2) (T := TX2) (N := 6) E hZ rfl (fun w h => List.mem_cons_of_mem _ (iz_X2 w h)) rfl tyX2 tyX2_ok nmX2 (by decide) rfl rfl (List.mem_cons_of_mem _ zLX2_36)
theorem zLX1_12 : Cond.fieldLink RX1 12 "PondIceTrade$Ledger" "trial" "LPondIceTrade$World;" ∈ zt := zt_t 377 (by decide +kernel) rfl
theorem zFX1_12 (E : CallFix p m c cc nL s args (w0 :: zt) RX1) (hZ : zq_K X s) : zq_F X s args RX1 12 2 0 := zq_F.of (C := RX1) (T := TX1) (N := 3) E hZ rfl (fun w h => List.mem_cons_of_mem _ (iz_X1 w h)) (by decide) (List.mem_cons_of_mem _ zLX1_12)
theorem zLX1_20 : Cond.fieldLink RX1 20 "PondIceTrade$Ledger" "moneys" "[[I" ∈ zt := zt_t 378 (by decide +kernel) rfl
theorem zFX1_20 (E : CallFix p m c cc nL s args (w0 :: zt) RX1) (hZ : zq_K X s) : zq_F X s args RX1 20 2 1 := zq_F.of (C := RX1) (T := TX1) (N := 3) E hZ rfl (fun w h => List.mem_cons_of_mem _ (iz_X1 w h)) (by decide) (List.mem_cons_of_mem _ zLX1_20)
theorem zLX1_23 : Cond.fieldLink RX1 23 "PondIceTrade$Ledger" "fits" "[Z" ∈ zt := zt_t 379 (by decide +kernel) rfl
theorem zFX1_23 (E : CallFix p m c cc nL s args (w0 :: zt) RX1) (hZ : zq_K X s) : zq_F X s args RX1 23 2 2 := zq_F.of (C := RX1) (T := TX1) (N := 3) E hZ rfl (fun w h => List.mem_cons_of_mem _ (iz_X1 w h)) (by decide) (List.mem_cons_of_mem _ zLX1_23)
theorem zLX11_10 : Cond.fieldLink RX11 10 "PondIceTrade" "tape" "LPondIceTrade$Tape;" ∈ zt := zt_t 387 (by decide +kernel) rfl
theorem zFX11_10 (E : CallFix p m c cc nL s args (w0 :: zt) RX11) (hZ : zq_K X s) : zq_F X s args RX11 10 9 0 := zq_F.of (C := RX11) (T := TX11) (N := 12) E hZ rfl (fun w h => List.mem_cons_of_mem _ (iz_X11 w h)) (by decide) (List.mem_cons_of_mem _ zLX11_10)
theorem zLX11_18 : Cond.fieldLink RX11 18 "PondIceTrade" "rules" "[LPondIceTrade$Rule;" ∈ zt := zt_t 388 (by decide +kernel) rfl
theorem zFX11_18 (E : CallFix p m c cc nL s args (w0 :: zt) RX11) (hZ : zq_K X s) : zq_F X s args RX11 18 9 1 := zq_F.of (C := RX11) (T := TX11) (N := 12) E hZ rfl (fun w h => List.mem_cons_of_mem _ (iz_X11 w h)) (by decide) (List.mem_cons_of_mem _ zLX11_18)
theorem zLX11_101 : Cond.fieldLink RX11 101 "PondIceTrade" "ruleCount" "I" ∈ zt := zt_t 389 (by decide +kernel) rfl
theorem zFX11_101 (E : CallFix p m c cc nL s args (w0 :: zt) RX11) (hZ : zq_K X s) : zq_F X s args RX11 101 9 2 := zq_F.of (C := RX11) (T := TX11) (N := 12) E hZ rfl (fun w h => List.mem_cons_of_mem _ (iz_X11 w h)) (by decide) (List.mem_cons_of_mem _ zLX11_101)
theorem zGX11_101 (E : CallFix p m c cc nL s args (w0 :: zt) RX11) (hZ : zq_K X s) : zq_G X s args RX11 101 9 2 .int := zq_G.of (C := RX11) (T := TX11) (N := 12) E hZ rfl (fun w h => List.mem_cons_of_mem _ (iz_X11 w h)) rfl tyX11 tyX11_ok nmX11 (by decide) rfl rfl (List.mem_cons_of_mem _ zLX11_101)
theorem zLX11_26 : Cond.fieldLink RX11 26 "PondIceTrade" "book" "LPondIceTrade$Book;" ∈ zt := zt_t 390 (by decide +kernel) rfl
theorem zFX11_26 (E : CallFix p m c cc nL s args (w0 :: zt) RX11) (hZ : zq_K X s) : zq_F X s args RX11 26 9 3 := zq_F.of (C := RX11) (T := TX11) (N := 12) E hZ rfl (fun w h => List.mem_cons_of_mem _ (iz_X11 w h)) (by decide) (List.mem_cons_of_mem _ zLX11_26)
theorem zLX11_33 : Cond.fieldLink RX11 33 "PondIceTrade" "draft" "LPondIceTrade$World;" ∈ zt := zt_t 391 (by decide +kernel) rfl
theorem zFX11_33 (E : CallFix p m c cc nL s args (w0 :: zt) RX11) (hZ : zq_K X s) : zq_F X s args RX11 33 9 4 := zq_F.of (C := RX11) (T := TX11) (N := 12) E hZ rfl (fun w h => List.mem_cons_of_mem _ (iz_X11 w h)) (by decide) (List.mem_cons_of_mem _ zLX11_33)
theorem zLX11_37 : Cond.fieldLink RX11 37 "PondIceTrade" "images" "[LPondIceTrade$Book;" ∈ zt := zt_t 392 (by decide +kernel) rfl
theorem zFX11_37 (E : CallFix p m c cc nL s args (w0 :: zt) RX11) (hZ : zq_K X s) : zq_F X s args RX11 37 9 5 := zq_F.of (C := RX11) (T := TX11) (N := 12) E hZ rfl (fun w h => List.mem_cons_of_mem _ (iz_X11 w h)) (by decide) (List.mem_cons_of_mem _ zLX11_37)
theorem zLX11_41 : Cond.fieldLink RX11 41 "PondIceTrade" "imageMade" "[Z" ∈ zt := zt_t 393 (by decide +kernel) rfl
theorem zFX11_41 (E : CallFix p m c cc nL s args (w0 :: zt) RX11) (hZ : zq_K X s) : zq_F X s args RX11 41 9 6 := zq_F.of (C := RX11) (T := TX11) (N := 12) E hZ rfl (fun w h => List.mem_cons_of_mem _ (iz_X11 w h)) (by decide) (List.mem_cons_of_mem _ zLX11_41)
theorem zLX11_45 : Cond.fieldLink RX11 45 "PondIceTrade" "past" "[LPondIceTrade$World;" ∈ zt := zt_t 394 (by decide +kernel) rfl
theorem zFX11_45 (E : CallFix p m c cc nL s args (w0 :: zt) RX11) (hZ : zq_K X s) : zq_F X s args RX11 45 9 7 := zq_F.of (C := RX11) (T := TX11) (N := 12) E hZ rfl (fun w h => List.mem_cons_of_mem _ (iz_X11 w h)) (by decide) (List.mem_cons_of_mem _ zLX11_45)
theorem zLX11_194 : Cond.fieldLink RX11 194 "PondIceTrade" "pastNext" "I" ∈ zt := zt_t 395 (by decide +kernel) rfl
theorem zFX11_194 (E : CallFix p m c cc nL s args (w0 :: zt) RX11) (hZ : zq_K X s) : zq_F X s args RX11 194 9 8 := zq_F.of (C := RX11) (T := TX11) (N := 12) E hZ rfl (fun w h => List.mem_cons_of_mem _ (iz_X11 w h)) (by decide) (List.mem_cons_of_mem _ zLX11_194)
theorem zGX11_194 (E : CallFix p m c cc nL s args (w0 :: zt) RX11) (hZ : zq_K X s) : zq_G X s args RX11 194 9 8 .int := zq_G.of (C := RX11) (T := TX11) (N := 12) E hZ rfl (fun w h => List.mem_cons_of_mem _ (iz_X11 w h)) rfl tyX11 tyX11_ok nmX11 (by decide) rfl rfl (List.mem_cons_of_mem _ zLX11_194)
theorem zLX11_191 : Cond.fieldLink RX11 191 "PondIceTrade" "pastCount" "I" ∈ zt := zt_t 396 (by decide +kernel) rfl
theorem zFX11_191 (E : CallFix p m c cc nL s args (w0 :: zt) RX11) (hZ : zq_K X s) : zq_F X s args RX11 191 9 9 := zq_F.of (C := RX11) (T := TX11) (N := 12) E hZ rfl (fun w h => List.mem_cons_of_mem _ (iz_X11 w h)) (by decide) (List.mem_cons_of_mem _ zLX11_191)
theorem zGX11_191 (E : CallFix p m c cc nL s args (w0 :: zt) RX11) (hZ : zq_K X s) : zq_G X s args RX11 191 9 9 .int := zq_G.of (C := RX11) (T := TX11) (N := 12) E hZ rfl (fun w h => List.mem_cons_of_mem _ (iz_X11 w h)) rfl tyX11 tyX11_ok nmX11 (by decide) rfl rfl (List.mem_cons_of_mem _ zLX11_191)
theorem zLX11_52 : Cond.fieldLink RX11 52 "PondIceTrade" "planner" "LPondIceTrade$Planner;" ∈ zt := zt_t 397 (by decide +kernel) rfl
theorem zFX11_52 (E : CallFix p m c cc nL s args (w0 :: zt) RX11) (hZ : zq_K X s) : zq_F X s args RX11 52 9 10 := zq_F.of (C := RX11) (T := TX11) (N := 12) E hZ rfl (fun w h => List.mem_cons_of_mem _ (iz_X11 w h)) (by decide) (List.mem_cons_of_mem _ zLX11_52)
theorem zLX11_59 : Cond.fieldLink RX11 59 "PondIceTrade" "ledger" "LPondIceTrade$Ledger;" ∈ zt := zt_t 398 (by decide +kernel) rfl
theorem zFX11_59 (E : CallFix p m c cc nL s args (w0 :: zt) RX11) (hZ : zq_K X s) : zq_F X s args RX11 59 9 11 := zq_F.of (C := RX11) (T := TX11) (N := 12) E hZ rfl (fun w h => List.mem_cons_of_mem _ (iz_X11 w h)) (by decide) (List.mem_cons_of_mem _ zLX11_59)
theorem zLJ0_38 : Cond.fieldLink RJ0 38 "java/lang/String" "COMPACT_STRINGS" "Z" ∈ zt := zt_t 492 (by decide +kernel) rfl
theorem zLJ0_1053 : Cond.fieldLink RJ0 1053 "jdk/internal/util/Preconditions" "SIOOBE_FORMATTER" "Ljava/util/function/BiFunction;" ∈ zt := zt_t 508 (by decide +kernel) rfl
theorem zLJ2_44 : Cond.fieldLink RJ2 44 "java/lang/StringUTF16" "$assertionsDisabled" "Z" ∈ zt := zt_t 526 (by decide +kernel) rfl
theorem zLJ2_59 : Cond.fieldLink RJ2 59 "java/lang/StringUTF16" "HI_BYTE_SHIFT" "I" ∈ zt := zt_t 528 (by decide +kernel) rfl
theorem zLJ2_63 : Cond.fieldLink RJ2 63 "java/lang/StringUTF16" "LO_BYTE_SHIFT" "I" ∈ zt := zt_t 530 (by decide +kernel) rfl
theorem zLX8_42 : Cond.fieldLink RX8 42 "PondIceTrade$Word" "TRADE" "LPondIceTrade$Word;" ∈ zt := zt_t 546 (by decide +kernel) rfl
theorem zLX8_48 : Cond.fieldLink RX8 48 "PondIceTrade$Word" "FROST" "LPondIceTrade$Word;" ∈ zt := zt_t 548 (by decide +kernel) rfl
theorem zLX8_51 : Cond.fieldLink RX8 51 "PondIceTrade$Word" "SHIP" "LPondIceTrade$Word;" ∈ zt := zt_t 550 (by decide +kernel) rfl
theorem zLX8_54 : Cond.fieldLink RX8 54 "PondIceTrade$Word" "TOWN" "LPondIceTrade$Word;" ∈ zt := zt_t 552 (by decide +kernel) rfl
theorem zLX8_57 : Cond.fieldLink RX8 57 "PondIceTrade$Word" "HOUSE" "LPondIceTrade$Word;" ∈ zt := zt_t 554 (by decide +kernel) rfl
theorem zLX4_40 : Cond.fieldLink RX4 40 "PondIceTrade$Word" "SAIL" "LPondIceTrade$Word;" ∈ zt := zt_t 657 (by decide +kernel) rfl
theorem zLX4_63 : Cond.fieldLink RX4 63 "PondIceTrade$Word" "IF" "LPondIceTrade$Word;" ∈ zt := zt_t 684 (by decide +kernel) rfl
theorem zLX4_88 : Cond.fieldLink RX4 88 "PondIceTrade$Word" "NOT" "LPondIceTrade$Word;" ∈ zt := zt_t 692 (by decide +kernel) rfl
theorem zLX4_124 : Cond.fieldLink RX4 124 "PondIceTrade$Word" "AND" "LPondIceTrade$Word;" ∈ zt := zt_t 716 (by decide +kernel) rfl
theorem zLX4_81 : Cond.fieldLink RX4 81 "PondIceTrade$Word" "OR" "LPondIceTrade$Word;" ∈ zt := zt_t 718 (by decide +kernel) rfl
theorem zLX12_7 : Cond.fieldLink RX12 7 "PondIceTradeModel" "tape" "[B" ∈ zt := zt_t 1139 (by decide +kernel) rfl
theorem zFX12_7 (E : CallFix p m c cc nL s args (w0 :: zt) RX12) (hZ : zq_K X s) : zq_F X s args RX12 7 10 0 := zq_F.of (C := RX12) (T := TX12) (N := 34) E hZ rfl (fun w h => List.mem_cons_of_mem _ (iz_X12 w h)) (by decide) (List.mem_cons_of_mem _ zLX12_7)
theorem zLX12_74 : Cond.fieldLink RX12 74 "PondIceTradeModel" "taped" "I" ∈ zt := zt_t 1140 (by decide +kernel) rfl
theorem zFX12_74 (E : CallFix p m c cc nL s args (w0 :: zt) RX12) (hZ : zq_K X s) : zq_F X s args RX12 74 10 1 := zq_F.of (C := RX12) (T := TX12) (N := 34) E hZ rfl (fun w h => List.mem_cons_of_mem _ (iz_X12 w h)) (by decide) (List.mem_cons_of_mem _ zLX12_74)
theorem zGX12_74 (E : CallFix p m c cc nL s args (w0 :: zt) RX12) (hZ : zq_K X s) : zq_G X s args RX12 74 10 1 .int := zq_G.of (C := RX12) (T := TX12) (N := 34) E hZ rfl (fun w h => List.mem_cons_of_mem _ (iz_X12 w h)) rfl tyX12 tyX12_ok nmX12 (by decide) rfl rfl (List.mem_cons_of_mem _ zLX12_74)
theorem zLX12_254 : Cond.fieldLink RX12 254 "PondIceTradeModel" "rules" "I" ∈ zt := zt_t 1141 (by decide +kernel) rfl
theorem zFX12_254 (E : CallFix p m c cc nL s args (w0 :: zt) RX12) (hZ : zq_K X s) : zq_F X s args RX12 254 10 2 := zq_F.of (C := RX12) (T := TX12) (N := 34) E hZ rfl (fun w h => List.mem_cons_of_mem _ (iz_X12 w h)) (by decide) (List.mem_cons_of_mem _ zLX12_254)
theorem zGX12_254 (E : CallFix p m c cc nL s args (w0 :: zt) RX12) (hZ : zq_K X s) : zq_G X s args RX12 254 10 2 .int := zq_G.of (C := RX12) (T := TX12) (N := 34) E hZ rfl (fun w h => List.mem_cons_of_mem _ (iz_X12 w h)) rfl tyX12 tyX12_ok nmX12 (by decide) rfl rfl (List.mem_cons_of_mem _ zLX12_254)
theorem zLX12_13 : Cond.fieldLink RX12 13 "PondIceTradeModel" "sign" "[I" ∈ zt := zt_t 1142 (by decide +kernel) rfl
theorem zFX12_13 (E : CallFix p m c cc nL s args (w0 :: zt) RX12) (hZ : zq_K X s) : zq_F X s args RX12 13 10 3 := zq_F.of (C := RX12) (T := TX12) (N := 34) E hZ rfl (fun w h => List.mem_cons_of_mem _ (iz_X12 w h)) (by decide) (List.mem_cons_of_mem _ zLX12_13)
theorem zLX12_17 : Cond.fieldLink RX12 17 "PondIceTradeModel" "length" "[I" ∈ zt := zt_t 1143 (by decide +kernel) rfl
theorem zFX12_17 (E : CallFix p m c cc nL s args (w0 :: zt) RX12) (hZ : zq_K X s) : zq_F X s args RX12 17 10 4 := zq_F.of (C := RX12) (T := TX12) (N := 34) E hZ rfl (fun w h => List.mem_cons_of_mem _ (iz_X12 w h)) (by decide) (List.mem_cons_of_mem _ zLX12_17)
theorem zLX12_20 : Cond.fieldLink RX12 20 "PondIceTradeModel" "clause" "[I" ∈ zt := zt_t 1144 (by decide +kernel) rfl
theorem zFX12_20 (E : CallFix p m c cc nL s args (w0 :: zt) RX12) (hZ : zq_K X s) : zq_F X s args RX12 20 10 5 := zq_F.of (C := RX12) (T := TX12) (N := 34) E hZ rfl (fun w h => List.mem_cons_of_mem _ (iz_X12 w h)) (by decide) (List.mem_cons_of_mem _ zLX12_20)
theorem zLX12_23 : Cond.fieldLink RX12 23 "PondIceTradeModel" "clauses" "[I" ∈ zt := zt_t 1145 (by decide +kernel) rfl
theorem zFX12_23 (E : CallFix p m c cc nL s args (w0 :: zt) RX12) (hZ : zq_K X s) : zq_F X s args RX12 23 10 6 := zq_F.of (C := RX12) (T := TX12) (N := 34) E hZ rfl (fun w h => List.mem_cons_of_mem _ (iz_X12 w h)) (by decide) (List.mem_cons_of_mem _ zLX12_23)
theorem zLX12_26 : Cond.fieldLink RX12 26 "PondIceTradeModel" "read" "[I" ∈ zt := zt_t 1146 (by decide +kernel) rfl
theorem zFX12_26 (E : CallFix p m c cc nL s args (w0 :: zt) RX12) (hZ : zq_K X s) : zq_F X s args RX12 26 10 7 := zq_F.of (C := RX12) (T := TX12) (N := 34) E hZ rfl (fun w h => List.mem_cons_of_mem _ (iz_X12 w h)) (by decide) (List.mem_cons_of_mem _ zLX12_26)
theorem zLX12_84 : Cond.fieldLink RX12 84 "PondIceTradeModel" "next" "I" ∈ zt := zt_t 1147 (by decide +kernel) rfl
theorem zFX12_84 (E : CallFix p m c cc nL s args (w0 :: zt) RX12) (hZ : zq_K X s) : zq_F X s args RX12 84 10 8 := zq_F.of (C := RX12) (T := TX12) (N := 34) E hZ rfl (fun w h => List.mem_cons_of_mem _ (iz_X12 w h)) (by decide) (List.mem_cons_of_mem _ zLX12_84)
theorem zGX12_84 (E : CallFix p m c cc nL s args (w0 :: zt) RX12) (hZ : zq_K X s) : zq_G X s args RX12 84 10 8 .int := zq_G.of (C := RX12) (T := TX12) (N := 34) E hZ rfl (fun w h => List.mem_cons_of_mem _ (iz_X12 w h)) rfl tyX12 tyX12_ok nmX12 (by decide) rfl rfl (List.mem_cons_of_mem _ zLX12_84)
theorem zLX12_81 : Cond.fieldLink RX12 81 "PondIceTradeModel" "wrong" "I" ∈ zt := zt_t 1148 (by decide +kernel) rfl
theorem zFX12_81 (E : CallFix p m c cc nL s args (w0 :: zt) RX12) (hZ : zq_K X s) : zq_F X s args RX12 81 10 9 := zq_F.of (C := RX12) (T := TX12) (N := 34) E hZ rfl (fun w h => List.mem_cons_of_mem _ (iz_X12 w h)) (by decide) (List.mem_cons_of_mem _ zLX12_81)
theorem zGX12_81 (E : CallFix p m c cc nL s args (w0 :: zt) RX12) (hZ : zq_K X s) : zq_G X s args RX12 81 10 9 .int := zq_G.of (C := RX12) (T := TX12) (N := 34) E hZ rfl (fun w h => List.mem_cons_of_mem _ (iz_X12 w h)) rfl tyX12 tyX12_ok nmX12 (by decide) rfl rfl (List.mem_cons_of_mem _ zLX12_81)
theorem zLX12_109 : Cond.fieldLink RX12 109 "PondIceTradeModel" "number" "I" ∈ zt := zt_t 1149 (by decide +kernel) rfl
theorem zFX12_109 (E : CallFix p m c cc nL s args (w0 :: zt) RX12) (hZ : zq_K X s) : zq_F X s args RX12 109 10 10 := zq_F.of (C := RX12) (T := TX12) (N := 34) E hZ rfl (fun w h => List.mem_cons_of_mem _ (iz_X12 w h)) (by decide) (List.mem_cons_of_mem _ zLX12_109)
theorem zGX12_109 (E : CallFix p m c cc nL s args (w0 :: zt) RX12) (hZ : zq_K X s) : zq_G X s args RX12 109 10 10 .int := zq_G.of (C := RX12) (T := TX12) (N := 34) E hZ rfl (fun w h => List.mem_cons_of_mem _ (iz_X12 w h)) rfl tyX12 tyX12_ok nmX12 (by decide) rfl rfl (List.mem_cons_of_mem _ zLX12_109)
theorem zLX12_142 : Cond.fieldLink RX12 142 "PondIceTradeModel" "text" "I" ∈ zt := zt_t 1150 (by decide +kernel) rfl
theorem zFX12_142 (E : CallFix p m c cc nL s args (w0 :: zt) RX12) (hZ : zq_K X s) : zq_F X s args RX12 142 10 11 := zq_F.of (C := RX12) (T := TX12) (N := 34) E hZ rfl (fun w h => List.mem_cons_of_mem _ (iz_X12 w h)) (by decide) (List.mem_cons_of_mem _ zLX12_142)
theorem zGX12_142 (E : CallFix p m c cc nL s args (w0 :: zt) RX12) (hZ : zq_K X s) : zq_G X s args RX12 142 10 11 .int := zq_G.of (C := RX12) (T := TX12) (N := 34) E hZ rfl (fun w h => List.mem_cons_of_mem _ (iz_X12 w h)) rfl tyX12 tyX12_ok nmX12 (by decide) rfl rfl (List.mem_cons_of_mem _ zLX12_142)
theorem zLX12_145 : Cond.fieldLink RX12 145 "PondIceTradeModel" "made" "I" ∈ zt := zt_t 1151 (by decide +kernel) rfl
theorem zFX12_145 (E : CallFix p m c cc nL s args (w0 :: zt) RX12) (hZ : zq_K X s) : zq_F X s args RX12 145 10 12 := zq_F.of (C := RX12) (T := TX12) (N := 34) E hZ rfl (fun w h => List.mem_cons_of_mem _ (iz_X12 w h)) (by decide) (List.mem_cons_of_mem _ zLX12_145)
theorem zGX12_145 (E : CallFix p m c cc nL s args (w0 :: zt) RX12) (hZ : zq_K X s) : zq_G X s args RX12 145 10 12 .int := zq_G.of (C := RX12) (T := TX12) (N := 34) E hZ rfl (fun w h => List.mem_cons_of_mem _ (iz_X12 w h)) rfl tyX12 tyX12_ok nmX12 (by decide) rfl rfl (List.mem_cons_of_mem _ zLX12_145)
theorem zLX12_148 : Cond.fieldLink RX12 148 "PondIceTradeModel" "deep" "I" ∈ zt := zt_t 1152 (by decide +kernel) rfl
theorem zFX12_148 (E : CallFix p m c cc nL s args (w0 :: zt) RX12) (hZ : zq_K X s) : zq_F X s args RX12 148 10 13 := zq_F.of (C := RX12) (T := TX12) (N := 34) E hZ rfl (fun w h => List.mem_cons_of_mem _ (iz_X12 w h)) (by decide) (List.mem_cons_of_mem _ zLX12_148)
theorem zGX12_148 (E : CallFix p m c cc nL s args (w0 :: zt) RX12) (hZ : zq_K X s) : zq_G X s args RX12 148 10 13 .int := zq_G.of (C := RX12) (T := TX12) (N := 34) E hZ rfl (fun w h => List.mem_cons_of_mem _ (iz_X12 w h)) rfl tyX12 tyX12_ok nmX12 (by decide) rfl rfl (List.mem_cons_of_mem _ zLX12_148)
theorem zLX12_242 : Cond.fieldLink RX12 242 "PondIceTradeModel" "lines" "I" ∈ zt := zt_t 1153 (by decide +kernel) rfl
theorem zFX12_242 (E : CallFix p m c cc nL s args (w0 :: zt) RX12) (hZ : zq_K X s) : zq_F X s args RX12 242 10 14 := zq_F.of (C := RX12) (T := TX12) (N := 34) E hZ rfl (fun w h => List.mem_cons_of_mem _ (iz_X12 w h)) (by decide) (List.mem_cons_of_mem _ zLX12_242)
theorem zGX12_242 (E : CallFix p m c cc nL s args (w0 :: zt) RX12) (hZ : zq_K X s) : zq_G X s args RX12 242 10 14 .int := zq_G.of (C := RX12) (T := TX12) (N := 34) E hZ rfl (fun w h => List.mem_cons_of_mem _ (iz_X12 w h)) rfl tyX12 tyX12_ok nmX12 (by decide) rfl rfl (List.mem_cons_of_mem _ zLX12_242)
theorem zLX12_29 : Cond.fieldLink RX12 29 "PondIceTradeModel" "open" "[I" ∈ zt := zt_t 1154 (by decide +kernel) rfl
theorem zFX12_29 (E : CallFix p m c cc nL s args (w0 :: zt) RX12) (hZ : zq_K X s) : zq_F X s args RX12 29 10 15 := zq_F.of (C := RX12) (T := TX12) (N := 34) E hZ rfl (fun w h => List.mem_cons_of_mem _ (iz_X12 w h)) (by decide) (List.mem_cons_of_mem _ zLX12_29)
theorem zLX12_151 : Cond.fieldLink RX12 151 "PondIceTradeModel" "opened" "I" ∈ zt := zt_t 1155 (by decide +kernel) rfl
theorem zFX12_151 (E : CallFix p m c cc nL s args (w0 :: zt) RX12) (hZ : zq_K X s) : zq_F X s args RX12 151 10 16 := zq_F.of (C := RX12) (T := TX12) (N := 34) E hZ rfl (fun w h => List.mem_cons_of_mem _ (iz_X12 w h)) (by decide) (List.mem_cons_of_mem _ zLX12_151)
theorem zGX12_151 (E : CallFix p m c cc nL s args (w0 :: zt) RX12) (hZ : zq_K X s) : zq_G X s args RX12 151 10 16 .int := zq_G.of (C := RX12) (T := TX12) (N := 34) E hZ rfl (fun w h => List.mem_cons_of_mem _ (iz_X12 w h)) rfl tyX12 tyX12_ok nmX12 (by decide) rfl rfl (List.mem_cons_of_mem _ zLX12_151)
theorem zLX12_32 : Cond.fieldLink RX12 32 "PondIceTradeModel" "stack" "[J" ∈ zt := zt_t 1156 (by decide +kernel) rfl
theorem zFX12_32 (E : CallFix p m c cc nL s args (w0 :: zt) RX12) (hZ : zq_K X s) : zq_F X s args RX12 32 10 17 := zq_F.of (C := RX12) (T := TX12) (N := 34) E hZ rfl (fun w h => List.mem_cons_of_mem _ (iz_X12 w h)) (by decide) (List.mem_cons_of_mem _ zLX12_32)
theorem zLX12_266 : Cond.fieldLink RX12 266 "PondIceTradeModel" "top" "I" ∈ zt := zt_t 1157 (by decide +kernel) rfl
theorem zFX12_266 (E : CallFix p m c cc nL s args (w0 :: zt) RX12) (hZ : zq_K X s) : zq_F X s args RX12 266 10 18 := zq_F.of (C := RX12) (T := TX12) (N := 34) E hZ rfl (fun w h => List.mem_cons_of_mem _ (iz_X12 w h)) (by decide) (List.mem_cons_of_mem _ zLX12_266)
theorem zGX12_266 (E : CallFix p m c cc nL s args (w0 :: zt) RX12) (hZ : zq_K X s) : zq_G X s args RX12 266 10 18 .int := zq_G.of (C := RX12) (T := TX12) (N := 34) E hZ rfl (fun w h => List.mem_cons_of_mem _ (iz_X12 w h)) rfl tyX12 tyX12_ok nmX12 (by decide) rfl rfl (List.mem_cons_of_mem _ zLX12_266)
theorem zLX12_36 : Cond.fieldLink RX12 36 "PondIceTradeModel" "word" "[J" ∈ zt := zt_t 1158 (by decide +kernel) rfl
theorem zFX12_36 (E : CallFix p m c cc nL s args (w0 :: zt) RX12) (hZ : zq_K X s) : zq_F X s args RX12 36 10 19 := zq_F.of (C := RX12) (T := TX12) (N := 34) E hZ rfl (fun w h => List.mem_cons_of_mem _ (iz_X12 w h)) (by decide) (List.mem_cons_of_mem _ zLX12_36)
theorem zLX12_39 : Cond.fieldLink RX12 39 "PondIceTradeModel" "said" "[I" ∈ zt := zt_t 1159 (by decide +kernel) rfl
theorem zFX12_39 (E : CallFix p m c cc nL s args (w0 :: zt) RX12) (hZ : zq_K X s) : zq_F X s args RX12 39 10 20 := zq_F.of (C := RX12) (T := TX12) (N := 34) E hZ rfl (fun w h => List.mem_cons_of_mem _ (iz_X12 w h)) (by decide) (List.mem_cons_of_mem _ zLX12_39)
theorem zLX12_42 : Cond.fieldLink RX12 42 "PondIceTradeModel" "force" "I" ∈ zt := zt_t 1160 (by decide +kernel) rfl
theorem zFX12_42 (E : CallFix p m c cc nL s args (w0 :: zt) RX12) (hZ : zq_K X s) : zq_F X s args RX12 42 10 21 := zq_F.of (C := RX12) (T := TX12) (N := 34) E hZ rfl (fun w h => List.mem_cons_of_mem _ (iz_X12 w h)) (by decide) (List.mem_cons_of_mem _ zLX12_42)
theorem zGX12_42 (E : CallFix p m c cc nL s args (w0 :: zt) RX12) (hZ : zq_K X s) : zq_G X s args RX12 42 10 21 .int := zq_G.of (C := RX12) (T := TX12) (N := 34) E hZ rfl (fun w h => List.mem_cons_of_mem _ (iz_X12 w h)) rfl tyX12 tyX12_ok nmX12 (by decide) rfl rfl (List.mem_cons_of_mem _ zLX12_42)
theorem zLX12_439 : Cond.fieldLink RX12 439 "PondIceTradeModel" "x" "I" ∈ zt := zt_t 1161 (by decide +kernel) rfl
theorem zFX12_439 (E : CallFix p m c cc nL s args (w0 :: zt) RX12) (hZ : zq_K X s) : zq_F X s args RX12 439 10 22 := zq_F.of (C := RX12) (T := TX12) (N := 34) E hZ rfl (fun w h => List.mem_cons_of_mem _ (iz_X12 w h)) (by decide) (List.mem_cons_of_mem _ zLX12_439)
theorem zGX12_439 (E : CallFix p m c cc nL s args (w0 :: zt) RX12) (hZ : zq_K X s) : zq_G X s args RX12 439 10 22 .int := zq_G.of (C := RX12) (T := TX12) (N := 34) E hZ rfl (fun w h => List.mem_cons_of_mem _ (iz_X12 w h)) rfl tyX12 tyX12_ok nmX12 (by decide) rfl rfl (List.mem_cons_of_mem _ zLX12_439)
theorem zLX12_46 : Cond.fieldLink RX12 46 "PondIceTradeModel" "growing" "I" ∈ zt := zt_t 1162 (by decide +kernel) rfl
theorem zFX12_46 (E : CallFix p m c cc nL s args (w0 :: zt) RX12) (hZ : zq_K X s) : zq_F X s args RX12 46 10 23 := zq_F.of (C := RX12) (T := TX12) (N := 34) E hZ rfl (fun w h => List.mem_cons_of_mem _ (iz_X12 w h)) (by decide) (List.mem_cons_of_mem _ zLX12_46)
theorem zGX12_46 (E : CallFix p m c cc nL s args (w0 :: zt) RX12) (hZ : zq_K X s) : zq_G X s args RX12 46 10 23 .int := zq_G.of (C := RX12) (T := TX12) (N := 34) E hZ rfl (fun w h => List.mem_cons_of_mem _ (iz_X12 w h)) rfl tyX12 tyX12_ok nmX12 (by decide) rfl rfl (List.mem_cons_of_mem _ zLX12_46)
theorem zLX12_49 : Cond.fieldLink RX12 49 "PondIceTradeModel" "wasSaid" "[I" ∈ zt := zt_t 1163 (by decide +kernel) rfl
theorem zFX12_49 (E : CallFix p m c cc nL s args (w0 :: zt) RX12) (hZ : zq_K X s) : zq_F X s args RX12 49 10 24 := zq_F.of (C := RX12) (T := TX12) (N := 34) E hZ rfl (fun w h => List.mem_cons_of_mem _ (iz_X12 w h)) (by decide) (List.mem_cons_of_mem _ zLX12_49)
theorem zLX12_263 : Cond.fieldLink RX12 263 "PondIceTradeModel" "undone" "I" ∈ zt := zt_t 1164 (by decide +kernel) rfl
theorem zFX12_263 (E : CallFix p m c cc nL s args (w0 :: zt) RX12) (hZ : zq_K X s) : zq_F X s args RX12 263 10 25 := zq_F.of (C := RX12) (T := TX12) (N := 34) E hZ rfl (fun w h => List.mem_cons_of_mem _ (iz_X12 w h)) (by decide) (List.mem_cons_of_mem _ zLX12_263)
theorem zGX12_263 (E : CallFix p m c cc nL s args (w0 :: zt) RX12) (hZ : zq_K X s) : zq_G X s args RX12 263 10 25 .int := zq_G.of (C := RX12) (T := TX12) (N := 34) E hZ rfl (fun w h => List.mem_cons_of_mem _ (iz_X12 w h)) rfl tyX12 tyX12_ok nmX12 (by decide) rfl rfl (List.mem_cons_of_mem _ zLX12_263)
theorem zLX12_52 : Cond.fieldLink RX12 52 "PondIceTradeModel" "kept" "[I" ∈ zt := zt_t 1165 (by decide +kernel) rfl
theorem zFX12_52 (E : CallFix p m c cc nL s args (w0 :: zt) RX12) (hZ : zq_K X s) : zq_F X s args RX12 52 10 26 := zq_F.of (C := RX12) (T := TX12) (N := 34) E hZ rfl (fun w h => List.mem_cons_of_mem _ (iz_X12 w h)) (by decide) (List.mem_cons_of_mem _ zLX12_52)
theorem zLX12_55 : Cond.fieldLink RX12 55 "PondIceTradeModel" "isFit" "[Z" ∈ zt := zt_t 1166 (by decide +kernel) rfl
theorem zFX12_55 (E : CallFix p m c cc nL s args (w0 :: zt) RX12) (hZ : zq_K X s) : zq_F X s args RX12 55 10 27 := zq_F.of (C := RX12) (T := TX12) (N := 34) E hZ rfl (fun w h => List.mem_cons_of_mem _ (iz_X12 w h)) (by decide) (List.mem_cons_of_mem _ zLX12_55)
theorem zLX12_59 : Cond.fieldLink RX12 59 "PondIceTradeModel" "moneyThen" "[I" ∈ zt := zt_t 1167 (by decide +kernel) rfl
theorem zFX12_59 (E : CallFix p m c cc nL s args (w0 :: zt) RX12) (hZ : zq_K X s) : zq_F X s args RX12 59 10 28 := zq_F.of (C := RX12) (T := TX12) (N := 34) E hZ rfl (fun w h => List.mem_cons_of_mem _ (iz_X12 w h)) (by decide) (List.mem_cons_of_mem _ zLX12_59)
theorem zLX12_442 : Cond.fieldLink RX12 442 "PondIceTradeModel" "drawX" "J" ∈ zt := zt_t 1168 (by decide +kernel) rfl
theorem zFX12_442 (E : CallFix p m c cc nL s args (w0 :: zt) RX12) (hZ : zq_K X s) : zq_F X s args RX12 442 10 29 := zq_F.of (C := RX12) (T := TX12) (N := 34) E hZ rfl (fun w h => List.mem_cons_of_mem _ (iz_X12 w h)) (by decide) (List.mem_cons_of_mem _ zLX12_442)
theorem zGX12_442 (E : CallFix p m c cc nL s args (w0 :: zt) RX12) (hZ : zq_K X s) : zq_G X s args RX12 442 10 29 .long := zq_G.of (C := RX12) (T := TX12) (N := 34) E hZ rfl (fun w h => List.mem_cons_of_mem _ (iz_X12 w h)) rfl tyX12 tyX12_ok nmX12 (by decide) rfl rfl (List.mem_cons_of_mem _ zLX12_442)
theorem zLX12_62 : Cond.fieldLink RX12 62 "PondIceTradeModel" "images" "[I" ∈ zt := zt_t 1169 (by decide +kernel) rfl
theorem zFX12_62 (E : CallFix p m c cc nL s args (w0 :: zt) RX12) (hZ : zq_K X s) : zq_F X s args RX12 62 10 30 := zq_F.of (C := RX12) (T := TX12) (N := 34) E hZ rfl (fun w h => List.mem_cons_of_mem _ (iz_X12 w h)) (by decide) (List.mem_cons_of_mem _ zLX12_62)
theorem zLX12_65 : Cond.fieldLink RX12 65 "PondIceTradeModel" "imageForce" "[I" ∈ zt := zt_t 1170 (by decide +kernel) rfl
theorem zFX12_65 (E : CallFix p m c cc nL s args (w0 :: zt) RX12) (hZ : zq_K X s) : zq_F X s args RX12 65 10 31 := zq_F.of (C := RX12) (T := TX12) (N := 34) E hZ rfl (fun w h => List.mem_cons_of_mem _ (iz_X12 w h)) (by decide) (List.mem_cons_of_mem _ zLX12_65)
theorem zLX12_68 : Cond.fieldLink RX12 68 "PondIceTradeModel" "imageX" "[I" ∈ zt := zt_t 1171 (by decide +kernel) rfl
theorem zFX12_68 (E : CallFix p m c cc nL s args (w0 :: zt) RX12) (hZ : zq_K X s) : zq_F X s args RX12 68 10 32 := zq_F.of (C := RX12) (T := TX12) (N := 34) E hZ rfl (fun w h => List.mem_cons_of_mem _ (iz_X12 w h)) (by decide) (List.mem_cons_of_mem _ zLX12_68)
theorem zLX12_71 : Cond.fieldLink RX12 71 "PondIceTradeModel" "isMade" "[Z" ∈ zt := zt_t 1172 (by decide +kernel) rfl
theorem zFX12_71 (E : CallFix p m c cc nL s args (w0 :: zt) RX12) (hZ : zq_K X s) : zq_F X s args RX12 71 10 33 := zq_F.of (C := RX12) (T := TX12) (N := 34) E hZ rfl (fun w h => List.mem_cons_of_mem _ (iz_X12 w h)) (by decide) (List.mem_cons_of_mem _ zLX12_71)
theorem zLX6_85 : Cond.fieldLink RX6 85 "PondIceTrade$Word" "text" "Ljava/lang/String;" ∈ zt := zt_t 1737 (by decide +kernel) rfl
theorem zLJ0_9 : Cond.fieldLink RJ0 9 "java/lang/String" "value" "[B" ∈ zt := zt_t 1738 (by decide +kernel) rfl
theorem zLJ0_15 : Cond.fieldLink RJ0 15 "java/lang/String" "coder" "B" ∈ zt := zt_t 1739 (by decide +kernel) rfl
theorem zLX4_110 : Cond.fieldLink RX4 110 "PondIceTrade$Word" "value" "I" ∈ zt := zt_t 1740 (by decide +kernel) rfl
end ZW
set_option maxRecDepth 100000 in
theorem zM_X0_open : zt_V RX0 yX0_open cX0_open 2 none 1 := ⟨⟨zt_t 615 (by decide +kernel) rfl, zt_t 616 (by decide +kernel) rfl, zt_t 6 (by decide +kernel) rfl, zt_t 617 rfl rfl⟩, rfl, by decide +kernel, by decide +kernel, by decide +kernel⟩
set_option maxRecDepth 100000 in
theorem zM_X0_addNote : zt_V RX0 yX0_addNote cX0_addNote 3 none 2 := ⟨⟨zt_t 1040 (by decide +kernel) rfl, zt_t 1041 (by decide +kernel) rfl, zt_t 6 (by decide +kernel) rfl, zt_t 1042 rfl rfl⟩, rfl, by decide +kernel, by decide +kernel, by decide +kernel⟩
set_option maxRecDepth 100000 in
theorem zM_X0_copyFrom : zt_V RX0 yX0_copyFrom cX0_copyFrom 2 none 1 := ⟨⟨zt_t 1125 (by decide +kernel) rfl, zt_t 1126 (by decide +kernel) rfl, zt_t 6 (by decide +kernel) rfl, zt_t 1127 rfl rfl⟩, rfl, by decide +kernel, by decide +kernel, by decide +kernel⟩
set_option maxRecDepth 100000 in
theorem zM_X1_fill : zt_V RX1 yX1_fill cX1_fill 5 none 3 := ⟨⟨zt_t 1048 (by decide +kernel) rfl, zt_t 1049 (by decide +kernel) rfl, zt_t 11 (by decide +kernel) rfl, zt_t 1050 rfl rfl⟩, rfl, by decide +kernel, by decide +kernel, by decide +kernel⟩
set_option maxRecDepth 100000 in
theorem zM_X1_fillRow : zt_V RX1 yX1_fillRow cX1_fillRow 5 none 3 := ⟨⟨zt_t 1053 (by decide +kernel) rfl, zt_p 20 (by decide +kernel : _ = some (⟨"PondIceTrade$Ledger", "fillRow", "([ILPondIceTrade$World;LPondIceTrade$Rule;)V"⟩, 3)), zt_t 11 (by decide +kernel) rfl, zt_t 1054 rfl rfl⟩, rfl, by decide +kernel, by decide +kernel, by decide +kernel⟩
set_option maxRecDepth 100000 in
theorem zM_X1_agrees : zt_S RX1 yX1_agrees cX1_agrees 4 (some .boolean) 2 := ⟨⟨zt_t 1058 (by decide +kernel) rfl, zt_t 11 (by decide +kernel) rfl, zt_t 1059 rfl rfl⟩, rfl, by decide +kernel, by decide +kernel, by decide +kernel⟩
set_option maxRecDepth 100000 in
theorem zM_X1_fitting : zt_V RX1 yX1_fitting cX1_fitting 3 (some .int) 0 := ⟨⟨zt_t 1062 (by decide +kernel) rfl, zt_t 1063 (by decide +kernel) rfl, zt_t 11 (by decide +kernel) rfl, zt_t 1064 rfl rfl⟩, rfl, by decide +kernel, by decide +kernel, by decide +kernel⟩
set_option maxRecDepth 100000 in
theorem zM_X1_firstFitting : zt_V RX1 yX1_firstFitting cX1_firstFitting 2 (some .int) 0 := ⟨⟨zt_t 1066 (by decide +kernel) rfl, zt_t 1067 (by decide +kernel) rfl, zt_t 11 (by decide +kernel) rfl, zt_t 1068 rfl rfl⟩, rfl, by decide +kernel, by decide +kernel, by decide +kernel⟩
set_option maxRecDepth 100000 in
theorem zM_X1_partingMonth : zt_V RX1 yX1_partingMonth cX1_partingMonth 5 (some .int) 0 := ⟨⟨zt_t 1074 (by decide +kernel) rfl, zt_t 1075 (by decide +kernel) rfl, zt_t 11 (by decide +kernel) rfl, zt_t 1076 rfl rfl⟩, rfl, by decide +kernel, by decide +kernel, by decide +kernel⟩
set_option maxRecDepth 100000 in
theorem zM_X1_mostAlike : zt_V RX1 yX1_mostAlike cX1_mostAlike 6 (some .int) 1 := ⟨⟨zt_t 1078 (by decide +kernel) rfl, zt_t 1079 (by decide +kernel) rfl, zt_t 11 (by decide +kernel) rfl, zt_t 1080 rfl rfl⟩, rfl, by decide +kernel, by decide +kernel, by decide +kernel⟩
set_option maxRecDepth 100000 in
theorem zM_X2_isSpan : zt_S RX2 yX2_isSpan cX2_isSpan 1 (some .boolean) 1 := ⟨⟨zt_t 929 (by decide +kernel) rfl, zt_t 10 (by decide +kernel) rfl, zt_t 930 rfl rfl⟩, rfl, by decide +kernel, by decide +kernel, by decide +kernel⟩
set_option maxRecDepth 100000 in
theorem zM_X2_forget : zt_V RX2 yX2_forget cX2_forget 1 none 0 := ⟨⟨zt_t 638 (by decide +kernel) rfl, zt_t 639 (by decide +kernel) rfl, zt_t 10 (by decide +kernel) rfl, zt_t 640 rfl rfl⟩, rfl, by decide +kernel, by decide +kernel, by decide +kernel⟩
set_option maxRecDepth 100000 in
theorem zM_X2_knows : zt_V RX2 yX2_knows cX2_knows 5 (some .boolean) 3 := ⟨⟨zt_t 933 (by decide +kernel) rfl, zt_t 934 (by decide +kernel) rfl, zt_t 10 (by decide +kernel) rfl, zt_t 935 rfl rfl⟩, rfl, by decide +kernel, by decide +kernel, by decide +kernel⟩
set_option maxRecDepth 100000 in
theorem zM_X2_worldAfter : zt_V RX2 yX2_worldAfter cX2_worldAfter 5 (some (.object "PondIceTrade$World")) 3 := ⟨⟨zt_t 901 (by decide +kernel) rfl, zt_t 902 (by decide +kernel) rfl, zt_t 10 (by decide +kernel) rfl, zt_t 903 rfl rfl⟩, rfl, by decide +kernel, by decide +kernel, by decide +kernel⟩
set_option maxRecDepth 100000 in
theorem zM_X2_moneyThen : zt_V RX2 yX2_moneyThen cX2_moneyThen 3 (some .int) 1 := ⟨⟨zt_t 950 (by decide +kernel) rfl, zt_p 17 (by decide +kernel : _ = some (⟨"PondIceTrade$Planner", "moneyThen", "(LPondIceTrade$Rule;)I"⟩, 6)), zt_t 10 (by decide +kernel) rfl, zt_t 951 rfl rfl⟩, rfl, by decide +kernel, by decide +kernel, by decide +kernel⟩
set_option maxRecDepth 100000 in
theorem zM_X2_setBest : zt_V RX2 yX2_setBest cX2_setBest 5 none 4 := ⟨⟨zt_t 943 (by decide +kernel) rfl, zt_p 16 (by decide +kernel : _ = some (⟨"PondIceTrade$Planner", "setBest", "(IIII)V"⟩, 6)), zt_t 10 (by decide +kernel) rfl, zt_t 944 rfl rfl⟩, rfl, by decide +kernel, by decide +kernel, by decide +kernel⟩
set_option maxRecDepth 100000 in
theorem zM_X2_keepBetter : zt_V RX2 yX2_keepBetter cX2_keepBetter 5 none 4 := ⟨⟨zt_t 954 (by decide +kernel) rfl, zt_p 18 (by decide +kernel : _ = some (⟨"PondIceTrade$Planner", "keepBetter", "(IIII)V"⟩, 6)), zt_t 10 (by decide +kernel) rfl, zt_t 955 rfl rfl⟩, rfl, by decide +kernel, by decide +kernel, by decide +kernel⟩
set_option maxRecDepth 100000 in
theorem zM_X2_findSend : zt_V RX2 yX2_findSend cX2_findSend 8 none 3 := ⟨⟨zt_t 937 (by decide +kernel) rfl, zt_t 938 (by decide +kernel) rfl, zt_t 10 (by decide +kernel) rfl, zt_t 939 rfl rfl⟩, rfl, by decide +kernel, by decide +kernel, by decide +kernel⟩
set_option maxRecDepth 100000 in
theorem zM_X2_findFleet : zt_V RX2 yX2_findFleet cX2_findFleet 6 none 2 := ⟨⟨zt_t 961 (by decide +kernel) rfl, zt_t 962 (by decide +kernel) rfl, zt_t 10 (by decide +kernel) rfl, zt_t 963 rfl rfl⟩, rfl, by decide +kernel, by decide +kernel, by decide +kernel⟩
set_option maxRecDepth 100000 in
theorem zM_X2_sailsRow : zt_V RX2 yX2_sailsRow cX2_sailsRow 4 (some .boolean) 1 := ⟨⟨zt_t 966 (by decide +kernel) rfl, zt_p 19 (by decide +kernel : _ = some (⟨"PondIceTrade$Planner", "sailsRow", "(LPondIceTrade$World;)Z"⟩, 6)), zt_t 10 (by decide +kernel) rfl, zt_t 967 rfl rfl⟩, rfl, by decide +kernel, by decide +kernel, by decide +kernel⟩
set_option maxRecDepth 100000 in
theorem zM_X2_findGift : zt_V RX2 yX2_findGift cX2_findGift 5 none 3 := ⟨⟨zt_t 973 (by decide +kernel) rfl, zt_t 974 (by decide +kernel) rfl, zt_t 10 (by decide +kernel) rfl, zt_t 975 rfl rfl⟩, rfl, by decide +kernel, by decide +kernel, by decide +kernel⟩
set_option maxRecDepth 100000 in
theorem zM_X2_findSite : zt_V RX2 yX2_findSite cX2_findSite 4 none 2 := ⟨⟨zt_t 983 (by decide +kernel) rfl, zt_t 984 (by decide +kernel) rfl, zt_t 10 (by decide +kernel) rfl, zt_t 985 rfl rfl⟩, rfl, by decide +kernel, by decide +kernel, by decide +kernel⟩
set_option maxRecDepth 100000 in
theorem zM_X2_findPrice : zt_V RX2 yX2_findPrice cX2_findPrice 5 none 3 := ⟨⟨zt_t 993 (by decide +kernel) rfl, zt_t 994 (by decide +kernel) rfl, zt_t 10 (by decide +kernel) rfl, zt_t 995 rfl rfl⟩, rfl, by decide +kernel, by decide +kernel, by decide +kernel⟩
set_option maxRecDepth 100000 in
theorem zM_X2_findPeace : zt_V RX2 yX2_findPeace cX2_findPeace 4 none 1 := ⟨⟨zt_t 1002 (by decide +kernel) rfl, zt_t 1003 (by decide +kernel) rfl, zt_t 10 (by decide +kernel) rfl, zt_t 1004 rfl rfl⟩, rfl, by decide +kernel, by decide +kernel, by decide +kernel⟩
set_option maxRecDepth 100000 in
theorem zM_X2_isContent : zt_S RX2 yX2_isContent cX2_isContent 5 (some .boolean) 3 := ⟨⟨zt_t 1007 (by decide +kernel) rfl, zt_t 10 (by decide +kernel) rfl, zt_t 1008 rfl rfl⟩, rfl, by decide +kernel, by decide +kernel, by decide +kernel⟩
set_option maxRecDepth 100000 in
theorem zM_X2_gainOf : zt_S RX2 yX2_gainOf cX2_gainOf 5 (some .int) 3 := ⟨⟨zt_t 1010 (by decide +kernel) rfl, zt_t 10 (by decide +kernel) rfl, zt_t 1011 rfl rfl⟩, rfl, by decide +kernel, by decide +kernel, by decide +kernel⟩
set_option maxRecDepth 100000 in
theorem zM_X2_monthOut : zt_V RX2 yX2_monthOut cX2_monthOut 4 (some .int) 2 := ⟨⟨zt_t 1018 (by decide +kernel) rfl, zt_t 1019 (by decide +kernel) rfl, zt_t 10 (by decide +kernel) rfl, zt_t 1020 rfl rfl⟩, rfl, by decide +kernel, by decide +kernel, by decide +kernel⟩
set_option maxRecDepth 100000 in
theorem zM_X2_findFirstBlocks : zt_V RX2 yX2_findFirstBlocks cX2_findFirstBlocks 5 none 3 := ⟨⟨zt_t 1030 (by decide +kernel) rfl, zt_t 1031 (by decide +kernel) rfl, zt_t 10 (by decide +kernel) rfl, zt_t 1032 rfl rfl⟩, rfl, by decide +kernel, by decide +kernel, by decide +kernel⟩
set_option maxRecDepth 100000 in
theorem zM_X2_drawYears : zt_V RX2 yX2_drawYears cX2_drawYears 9 none 4 := ⟨⟨zt_t 1092 (by decide +kernel) rfl, zt_t 1093 (by decide +kernel) rfl, zt_t 10 (by decide +kernel) rfl, zt_t 1094 rfl rfl⟩, rfl, by decide +kernel, by decide +kernel, by decide +kernel⟩
set_option maxRecDepth 100000 in
theorem zM_X3_clear : zt_V RX3 yX3_clear cX3_clear 1 none 0 := ⟨⟨zt_t 649 (by decide +kernel) rfl, zt_t 650 (by decide +kernel) rfl, zt_t 5 (by decide +kernel) rfl, zt_t 651 rfl rfl⟩, rfl, by decide +kernel, by decide +kernel, by decide +kernel⟩
set_option maxRecDepth 100000 in
theorem zM_X3_hasRoomForClause : zt_V RX3 yX3_hasRoomForClause cX3_hasRoomForClause 1 (some .boolean) 0 := ⟨⟨zt_t 661 (by decide +kernel) rfl, zt_t 662 (by decide +kernel) rfl, zt_t 5 (by decide +kernel) rfl, zt_t 663 rfl rfl⟩, rfl, by decide +kernel, by decide +kernel, by decide +kernel⟩
set_option maxRecDepth 100000 in
theorem zM_X3_hasRoomForPart : zt_V RX3 yX3_hasRoomForPart cX3_hasRoomForPart 1 (some .boolean) 0 := ⟨⟨zt_t 671 (by decide +kernel) rfl, zt_t 672 (by decide +kernel) rfl, zt_t 5 (by decide +kernel) rfl, zt_t 673 rfl rfl⟩, rfl, by decide +kernel, by decide +kernel, by decide +kernel⟩
set_option maxRecDepth 100000 in
theorem zM_X3_asOperand : zt_S RX3 yX3_asOperand cX3_asOperand 1 (some .int) 1 := ⟨⟨zt_t 675 (by decide +kernel) rfl, zt_t 5 (by decide +kernel) rfl, zt_t 676 rfl rfl⟩, rfl, by decide +kernel, by decide +kernel, by decide +kernel⟩
set_option maxRecDepth 100000 in
theorem zM_X3_addValue : zt_V RX3 yX3_addValue cX3_addValue 3 none 2 := ⟨⟨zt_t 678 (by decide +kernel) rfl, zt_t 679 (by decide +kernel) rfl, zt_t 5 (by decide +kernel) rfl, zt_t 680 rfl rfl⟩, rfl, by decide +kernel, by decide +kernel, by decide +kernel⟩
set_option maxRecDepth 100000 in
theorem zM_X3_addFact : zt_V RX3 yX3_addFact cX3_addFact 3 (some .int) 2 := ⟨⟨zt_t 701 (by decide +kernel) rfl, zt_t 702 (by decide +kernel) rfl, zt_t 5 (by decide +kernel) rfl, zt_t 703 rfl rfl⟩, rfl, by decide +kernel, by decide +kernel, by decide +kernel⟩
set_option maxRecDepth 100000 in
theorem zM_X3_closeFact : zt_V RX3 yX3_closeFact cX3_closeFact 2 none 1 := ⟨⟨zt_t 705 (by decide +kernel) rfl, zt_t 706 (by decide +kernel) rfl, zt_t 5 (by decide +kernel) rfl, zt_t 707 rfl rfl⟩, rfl, by decide +kernel, by decide +kernel, by decide +kernel⟩
set_option maxRecDepth 100000 in
theorem zM_X3_addStep : zt_V RX3 yX3_addStep cX3_addStep 2 none 1 := ⟨⟨zt_t 709 (by decide +kernel) rfl, zt_t 710 (by decide +kernel) rfl, zt_t 5 (by decide +kernel) rfl, zt_t 711 rfl rfl⟩, rfl, by decide +kernel, by decide +kernel, by decide +kernel⟩
set_option maxRecDepth 100000 in
theorem zM_X3_addClause : zt_V RX3 yX3_addClause cX3_addClause 4 none 3 := ⟨⟨zt_t 721 (by decide +kernel) rfl, zt_t 722 (by decide +kernel) rfl, zt_t 5 (by decide +kernel) rfl, zt_t 723 rfl rfl⟩, rfl, by decide +kernel, by decide +kernel, by decide +kernel⟩
set_option maxRecDepth 100000 in
theorem zM_X3_blocksWished : zt_V RX3 yX3_blocksWished cX3_blocksWished 5 (some .long) 3 := ⟨⟨zt_t 783 (by decide +kernel) rfl, zt_t 784 (by decide +kernel) rfl, zt_t 5 (by decide +kernel) rfl, zt_t 785 rfl rfl⟩, rfl, by decide +kernel, by decide +kernel, by decide +kernel⟩
set_option maxRecDepth 100000 in
theorem zM_X3_fillWords : zt_V RX3 yX3_fillWords cX3_fillWords 5 none 3 := ⟨⟨zt_t 788 (by decide +kernel) rfl, zt_p 10 (by decide +kernel : _ = some (⟨"PondIceTrade$Rule", "fillWords", "(LPondIceTrade$World;II)V"⟩, 16)), zt_t 5 (by decide +kernel) rfl, zt_t 789 rfl rfl⟩, rfl, by decide +kernel, by decide +kernel, by decide +kernel⟩
set_option maxRecDepth 100000 in
theorem zM_X3_holds : zt_V RX3 yX3_holds cX3_holds 11 (some .boolean) 2 := ⟨⟨zt_t 795 (by decide +kernel) rfl, zt_p 11 (by decide +kernel : _ = some (⟨"PondIceTrade$Rule", "holds", "(II)Z"⟩, 16)), zt_t 5 (by decide +kernel) rfl, zt_t 796 rfl rfl⟩, rfl, by decide +kernel, by decide +kernel, by decide +kernel⟩
set_option maxRecDepth 100000 in
theorem zM_X3_isSo : zt_S RX3 yX3_isSo cX3_isSo 5 (some .boolean) 3 := ⟨⟨zt_t 803 (by decide +kernel) rfl, zt_t 5 (by decide +kernel) rfl, zt_t 804 rfl rfl⟩, rfl, by decide +kernel, by decide +kernel, by decide +kernel⟩
set_option maxRecDepth 100000 in
theorem zM_X3_sumOf : zt_V RX3 yX3_sumOf cX3_sumOf 12 (some .long) 2 := ⟨⟨zt_t 800 (by decide +kernel) rfl, zt_p 12 (by decide +kernel : _ = some (⟨"PondIceTrade$Rule", "sumOf", "(II)J"⟩, 16)), zt_t 5 (by decide +kernel) rfl, zt_t 801 rfl rfl⟩, rfl, by decide +kernel, by decide +kernel, by decide +kernel⟩
set_option maxRecDepth 100000 in
theorem zM_X4_reads : zt_S RX4 yX4_reads cX4_reads 3 (some .boolean) 2 := ⟨⟨zt_t 646 (by decide +kernel) rfl, zt_t 20 (by decide +kernel) rfl, zt_t 647 rfl rfl⟩, rfl, by decide +kernel, by decide +kernel, by decide +kernel⟩
set_option maxRecDepth 100000 in
theorem zM_X4_readClause : zt_S RX4 yX4_readClause cX4_readClause 5 (some .boolean) 2 := ⟨⟨zt_t 654 (by decide +kernel) rfl, zt_t 20 (by decide +kernel) rfl, zt_t 655 rfl rfl⟩, rfl, by decide +kernel, by decide +kernel, by decide +kernel⟩
set_option maxRecDepth 100000 in
theorem zM_X4_readTest : zt_S RX4 yX4_readTest cX4_readTest 6 (some .boolean) 3 := ⟨⟨zt_t 687 (by decide +kernel) rfl, zt_t 20 (by decide +kernel) rfl, zt_t 688 rfl rfl⟩, rfl, by decide +kernel, by decide +kernel, by decide +kernel⟩
set_option maxRecDepth 100000 in
theorem zM_X4_readFact : zt_S RX4 yX4_readFact cX4_readFact 4 (some .boolean) 3 := ⟨⟨zt_t 690 (by decide +kernel) rfl, zt_t 20 (by decide +kernel) rfl, zt_t 691 rfl rfl⟩, rfl, by decide +kernel, by decide +kernel, by decide +kernel⟩
set_option maxRecDepth 100000 in
theorem zM_X4_readComparison : zt_S RX4 yX4_readComparison cX4_readComparison 5 (some .boolean) 2 := ⟨⟨zt_t 695 (by decide +kernel) rfl, zt_t 20 (by decide +kernel) rfl, zt_t 696 rfl rfl⟩, rfl, by decide +kernel, by decide +kernel, by decide +kernel⟩
set_option maxRecDepth 100000 in
theorem zM_X4_readSum : zt_S RX4 yX4_readSum cX4_readSum 7 (some .boolean) 2 := ⟨⟨zt_t 666 (by decide +kernel) rfl, zt_t 20 (by decide +kernel) rfl, zt_t 667 rfl rfl⟩, rfl, by decide +kernel, by decide +kernel, by decide +kernel⟩
set_option maxRecDepth 100000 in
theorem zM_X4_isAndOr : zt_S RX4 yX4_isAndOr cX4_isAndOr 1 (some .boolean) 1 := ⟨⟨zt_t 714 (by decide +kernel) rfl, zt_t 20 (by decide +kernel) rfl, zt_t 715 rfl rfl⟩, rfl, by decide +kernel, by decide +kernel, by decide +kernel⟩
set_option maxRecDepth 100000 in
theorem zM_X4_isComparison : zt_S RX4 yX4_isComparison cX4_isComparison 1 (some .boolean) 1 := ⟨⟨zt_t 698 (by decide +kernel) rfl, zt_t 20 (by decide +kernel) rfl, zt_t 699 rfl rfl⟩, rfl, by decide +kernel, by decide +kernel, by decide +kernel⟩
set_option maxRecDepth 100000 in
theorem zM_X4_isJoin : zt_S RX4 yX4_isJoin cX4_isJoin 1 (some .boolean) 1 := ⟨⟨zt_t 682 (by decide +kernel) rfl, zt_t 20 (by decide +kernel) rfl, zt_t 683 rfl rfl⟩, rfl, by decide +kernel, by decide +kernel, by decide +kernel⟩
set_option maxRecDepth 100000 in
theorem zM_X5_copyFrom : zt_V RX5 yX5_copyFrom cX5_copyFrom 2 none 1 := ⟨⟨zt_t 626 (by decide +kernel) rfl, zt_t 627 (by decide +kernel) rfl, zt_t 8 (by decide +kernel) rfl, zt_t 628 rfl rfl⟩, rfl, by decide +kernel, by decide +kernel, by decide +kernel⟩
set_option maxRecDepth 100000 in
theorem zM_X5_unload : zt_V RX5 yX5_unload cX5_unload 1 none 0 := ⟨⟨zt_t 841 (by decide +kernel) rfl, zt_t 842 (by decide +kernel) rfl, zt_t 8 (by decide +kernel) rfl, zt_t 843 rfl rfl⟩, rfl, by decide +kernel, by decide +kernel, by decide +kernel⟩
set_option maxRecDepth 100000 in
theorem zM_X5_detail : zt_V RX5 yX5_detail cX5_detail 2 (some .int) 1 := ⟨⟨zt_t 737 (by decide +kernel) rfl, zt_t 738 (by decide +kernel) rfl, zt_t 8 (by decide +kernel) rfl, zt_t 739 rfl rfl⟩, rfl, by decide +kernel, by decide +kernel, by decide +kernel⟩
set_option maxRecDepth 100000 in
theorem zM_X6_hasRoomFor : zt_V RX6 yX6_hasRoomFor cX6_hasRoomFor 2 (some .boolean) 1 := ⟨⟨zt_t 429 (by decide +kernel) rfl, zt_t 430 (by decide +kernel) rfl, zt_t 2 (by decide +kernel) rfl, zt_t 431 rfl rfl⟩, rfl, by decide +kernel, by decide +kernel, by decide +kernel⟩
set_option maxRecDepth 100000 in
theorem zM_X6_add : zt_V RX6 yX6_add cX6_add 3 none 1 := ⟨⟨zt_t 433 (by decide +kernel) rfl, zt_t 434 (by decide +kernel) rfl, zt_t 2 (by decide +kernel) rfl, zt_t 435 rfl rfl⟩, rfl, by decide +kernel, by decide +kernel, by decide +kernel⟩
set_option maxRecDepth 100000 in
theorem zM_X6_split : zt_V RX6 yX6_split cX6_split 4 none 0 := ⟨⟨zt_t 455 (by decide +kernel) rfl, zt_t 456 (by decide +kernel) rfl, zt_t 2 (by decide +kernel) rfl, zt_t 457 rfl rfl⟩, rfl, by decide +kernel, by decide +kernel, by decide +kernel⟩
set_option maxRecDepth 100000 in
theorem zM_X6_byteAt : zt_V RX6 yX6_byteAt cX6_byteAt 2 (some .int) 1 := ⟨⟨zt_t 460 (by decide +kernel) rfl, zt_p 0 (by decide +kernel : _ = some (⟨"PondIceTrade$Tape", "byteAt", "(I)I"⟩, 10)), zt_t 2 (by decide +kernel) rfl, zt_t 461 rfl rfl⟩, rfl, by decide +kernel, by decide +kernel, by decide +kernel⟩
set_option maxRecDepth 100000 in
theorem zM_X6_isDigit : zt_S RX6 yX6_isDigit cX6_isDigit 1 (some .boolean) 1 := ⟨⟨zt_t 463 (by decide +kernel) rfl, zt_t 2 (by decide +kernel) rfl, zt_t 464 rfl rfl⟩, rfl, by decide +kernel, by decide +kernel, by decide +kernel⟩
set_option maxRecDepth 100000 in
theorem zM_X6_isLetter : zt_S RX6 yX6_isLetter cX6_isLetter 1 (some .boolean) 1 := ⟨⟨zt_t 474 (by decide +kernel) rfl, zt_t 2 (by decide +kernel) rfl, zt_t 475 rfl rfl⟩, rfl, by decide +kernel, by decide +kernel, by decide +kernel⟩
set_option maxRecDepth 100000 in
theorem zM_X6_addToken : zt_V RX6 yX6_addToken cX6_addToken 5 none 4 := ⟨⟨zt_t 471 (by decide +kernel) rfl, zt_p 2 (by decide +kernel : _ = some (⟨"PondIceTrade$Tape", "addToken", "(IIILPondIceTrade$Word;)V"⟩, 10)), zt_t 2 (by decide +kernel) rfl, zt_t 472 rfl rfl⟩, rfl, by decide +kernel, by decide +kernel, by decide +kernel⟩
set_option maxRecDepth 100000 in
theorem zM_X6_splitNumber : zt_V RX6 yX6_splitNumber cX6_splitNumber 4 (some .int) 1 := ⟨⟨zt_t 467 (by decide +kernel) rfl, zt_p 1 (by decide +kernel : _ = some (⟨"PondIceTrade$Tape", "splitNumber", "(I)I"⟩, 10)), zt_t 2 (by decide +kernel) rfl, zt_t 468 rfl rfl⟩, rfl, by decide +kernel, by decide +kernel, by decide +kernel⟩
set_option maxRecDepth 100000 in
theorem zM_X6_splitWord : zt_V RX6 yX6_splitWord cX6_splitWord 5 (some .int) 1 := ⟨⟨zt_t 478 (by decide +kernel) rfl, zt_p 3 (by decide +kernel : _ = some (⟨"PondIceTrade$Tape", "splitWord", "(I)I"⟩, 10)), zt_t 2 (by decide +kernel) rfl, zt_t 479 rfl rfl⟩, rfl, by decide +kernel, by decide +kernel, by decide +kernel⟩
set_option maxRecDepth 100000 in
theorem zM_X6_isText : zt_V RX6 yX6_isText cX6_isText 5 (some .boolean) 3 := ⟨⟨zt_t 482 (by decide +kernel) rfl, zt_p 4 (by decide +kernel : _ = some (⟨"PondIceTrade$Tape", "isText", "(Ljava/lang/String;II)Z"⟩, 10)), zt_t 2 (by decide +kernel) rfl, zt_t 483 rfl rfl⟩, rfl, by decide +kernel, by decide +kernel, by decide +kernel⟩
set_option maxRecDepth 100000 in
theorem zM_X6_splitSign : zt_V RX6 yX6_splitSign cX6_splitSign 5 (some .int) 1 := ⟨⟨zt_t 534 (by decide +kernel) rfl, zt_p 5 (by decide +kernel : _ = some (⟨"PondIceTrade$Tape", "splitSign", "(I)I"⟩, 10)), zt_t 2 (by decide +kernel) rfl, zt_t 535 rfl rfl⟩, rfl, by decide +kernel, by decide +kernel, by decide +kernel⟩
set_option maxRecDepth 100000 in
theorem zM_X6_kind : zt_V RX6 yX6_kind cX6_kind 1 (some .int) 0 := ⟨⟨zt_t 587 (by decide +kernel) rfl, zt_t 588 (by decide +kernel) rfl, zt_t 2 (by decide +kernel) rfl, zt_t 589 rfl rfl⟩, rfl, by decide +kernel, by decide +kernel, by decide +kernel⟩
set_option maxRecDepth 100000 in
theorem zM_X6_number : zt_V RX6 yX6_number cX6_number 1 (some .int) 0 := ⟨⟨zt_t 583 (by decide +kernel) rfl, zt_t 584 (by decide +kernel) rfl, zt_t 2 (by decide +kernel) rfl, zt_t 585 rfl rfl⟩, rfl, by decide +kernel, by decide +kernel, by decide +kernel⟩
set_option maxRecDepth 100000 in
theorem zM_X6_word : zt_V RX6 yX6_word cX6_word 1 (some (.object "PondIceTrade$Word")) 0 := ⟨⟨zt_t 543 (by decide +kernel) rfl, zt_t 544 (by decide +kernel) rfl, zt_t 2 (by decide +kernel) rfl, zt_t 545 rfl rfl⟩, rfl, by decide +kernel, by decide +kernel, by decide +kernel⟩
set_option maxRecDepth 100000 in
theorem zM_X6_advance : zt_V RX6 yX6_advance cX6_advance 1 none 0 := ⟨⟨zt_t 572 (by decide +kernel) rfl, zt_t 573 (by decide +kernel) rfl, zt_t 2 (by decide +kernel) rfl, zt_t 574 rfl rfl⟩, rfl, by decide +kernel, by decide +kernel, by decide +kernel⟩
set_option maxRecDepth 100000 in
theorem zM_X6_fail : zt_V RX6 yX6_fail cX6_fail 2 (some .boolean) 1 := ⟨⟨zt_t 557 (by decide +kernel) rfl, zt_t 558 (by decide +kernel) rfl, zt_t 2 (by decide +kernel) rfl, zt_t 559 rfl rfl⟩, rfl, by decide +kernel, by decide +kernel, by decide +kernel⟩
set_option maxRecDepth 100000 in
theorem zM_X6_passes : zt_V RX6 yX6_passes cX6_passes 2 (some .boolean) 1 := ⟨⟨zt_t 611 (by decide +kernel) rfl, zt_t 612 (by decide +kernel) rfl, zt_t 2 (by decide +kernel) rfl, zt_t 613 rfl rfl⟩, rfl, by decide +kernel, by decide +kernel, by decide +kernel⟩
set_option maxRecDepth 100000 in
theorem zM_X6_takeNumber : zt_V RX6 yX6_takeNumber cX6_takeNumber 4 (some .int) 2 := ⟨⟨zt_t 579 (by decide +kernel) rfl, zt_t 580 (by decide +kernel) rfl, zt_t 2 (by decide +kernel) rfl, zt_t 581 rfl rfl⟩, rfl, by decide +kernel, by decide +kernel, by decide +kernel⟩
set_option maxRecDepth 100000 in
theorem zM_X7_copyFrom : zt_V RX7 yX7_copyFrom cX7_copyFrom 2 none 1 := ⟨⟨zt_t 630 (by decide +kernel) rfl, zt_t 631 (by decide +kernel) rfl, zt_t 9 (by decide +kernel) rfl, zt_t 632 rfl rfl⟩, rfl, by decide +kernel, by decide +kernel, by decide +kernel⟩
set_option maxRecDepth 100000 in
theorem zM_X7_detail : zt_V RX7 yX7_detail cX7_detail 2 (some .int) 1 := ⟨⟨zt_t 750 (by decide +kernel) rfl, zt_t 751 (by decide +kernel) rfl, zt_t 9 (by decide +kernel) rfl, zt_t 752 rfl rfl⟩, rfl, by decide +kernel, by decide +kernel, by decide +kernel⟩
set_option maxRecDepth 100000 in
theorem zM_X7_melted : zt_S RX7 yX7_melted cX7_melted 2 (some .int) 2 := ⟨⟨zt_t 830 (by decide +kernel) rfl, zt_t 9 (by decide +kernel) rfl, zt_t 831 rfl rfl⟩, rfl, by decide +kernel, by decide +kernel, by decide +kernel⟩
set_option maxRecDepth 100000 in
theorem zM_X7_heatFor : zt_V RX7 yX7_heatFor cX7_heatFor 2 (some .int) 1 := ⟨⟨zt_t 837 (by decide +kernel) rfl, zt_t 838 (by decide +kernel) rfl, zt_t 9 (by decide +kernel) rfl, zt_t 839 rfl rfl⟩, rfl, by decide +kernel, by decide +kernel, by decide +kernel⟩
set_option maxRecDepth 100000 in
theorem zM_X7_arriving : zt_V RX7 yX7_arriving cX7_arriving 6 (some .int) 2 := ⟨⟨zt_t 911 (by decide +kernel) rfl, zt_t 912 (by decide +kernel) rfl, zt_t 9 (by decide +kernel) rfl, zt_t 913 rfl rfl⟩, rfl, by decide +kernel, by decide +kernel, by decide +kernel⟩
set_option maxRecDepth 100000 in
theorem zM_X7_firstLoad : zt_V RX7 yX7_firstLoad cX7_firstLoad 4 (some .int) 2 := ⟨⟨zt_t 919 (by decide +kernel) rfl, zt_t 920 (by decide +kernel) rfl, zt_t 9 (by decide +kernel) rfl, zt_t 921 rfl rfl⟩, rfl, by decide +kernel, by decide +kernel, by decide +kernel⟩
set_option maxRecDepth 100000 in
theorem zM_X7_giveAway : zt_V RX7 yX7_giveAway cX7_giveAway 2 none 1 := ⟨⟨zt_t 868 (by decide +kernel) rfl, zt_t 869 (by decide +kernel) rfl, zt_t 9 (by decide +kernel) rfl, zt_t 870 rfl rfl⟩, rfl, by decide +kernel, by decide +kernel, by decide +kernel⟩
set_option maxRecDepth 100000 in
theorem zM_X7_setPrice : zt_V RX7 yX7_setPrice cX7_setPrice 2 none 1 := ⟨⟨zt_t 888 (by decide +kernel) rfl, zt_t 889 (by decide +kernel) rfl, zt_t 9 (by decide +kernel) rfl, zt_t 890 rfl rfl⟩, rfl, by decide +kernel, by decide +kernel, by decide +kernel⟩
set_option maxRecDepth 100000 in
theorem zM_X7_sellMonth : zt_V RX7 yX7_sellMonth cX7_sellMonth 3 (some .int) 0 := ⟨⟨zt_t 845 (by decide +kernel) rfl, zt_t 846 (by decide +kernel) rfl, zt_t 9 (by decide +kernel) rfl, zt_t 847 rfl rfl⟩, rfl, by decide +kernel, by decide +kernel, by decide +kernel⟩
set_option maxRecDepth 100000 in
theorem zM_X8_reads : zt_S RX8 yX8_reads cX8_reads 3 (some .boolean) 2 := ⟨⟨zt_t 448 (by decide +kernel) rfl, zt_t 13 (by decide +kernel) rfl, zt_t 449 rfl rfl⟩, rfl, by decide +kernel, by decide +kernel, by decide +kernel⟩
set_option maxRecDepth 100000 in
theorem zM_X8_opens : zt_S RX8 yX8_opens cX8_opens 4 (some .boolean) 3 := ⟨⟨zt_t 540 (by decide +kernel) rfl, zt_t 13 (by decide +kernel) rfl, zt_t 541 rfl rfl⟩, rfl, by decide +kernel, by decide +kernel, by decide +kernel⟩
set_option maxRecDepth 100000 in
theorem zM_X8_readClause : zt_S RX8 yX8_readClause cX8_readClause 3 (some .boolean) 2 := ⟨⟨zt_t 569 (by decide +kernel) rfl, zt_t 13 (by decide +kernel) rfl, zt_t 570 rfl rfl⟩, rfl, by decide +kernel, by decide +kernel, by decide +kernel⟩
set_option maxRecDepth 100000 in
theorem zM_X8_readStart : zt_S RX8 yX8_readStart cX8_readStart 2 none 2 := ⟨⟨zt_t 576 (by decide +kernel) rfl, zt_t 13 (by decide +kernel) rfl, zt_t 577 rfl rfl⟩, rfl, by decide +kernel, by decide +kernel, by decide +kernel⟩
set_option maxRecDepth 100000 in
theorem zM_X8_readFrost : zt_S RX8 yX8_readFrost cX8_readFrost 4 none 2 := ⟨⟨zt_t 593 (by decide +kernel) rfl, zt_t 13 (by decide +kernel) rfl, zt_t 594 rfl rfl⟩, rfl, by decide +kernel, by decide +kernel, by decide +kernel⟩
set_option maxRecDepth 100000 in
theorem zM_X8_readShip : zt_S RX8 yX8_readShip cX8_readShip 3 none 2 := ⟨⟨zt_t 597 (by decide +kernel) rfl, zt_t 13 (by decide +kernel) rfl, zt_t 598 rfl rfl⟩, rfl, by decide +kernel, by decide +kernel, by decide +kernel⟩
set_option maxRecDepth 100000 in
theorem zM_X8_readTown : zt_S RX8 yX8_readTown cX8_readTown 3 none 2 := ⟨⟨zt_t 600 (by decide +kernel) rfl, zt_t 13 (by decide +kernel) rfl, zt_t 601 rfl rfl⟩, rfl, by decide +kernel, by decide +kernel, by decide +kernel⟩
set_option maxRecDepth 100000 in
theorem zM_X8_readHouse : zt_S RX8 yX8_readHouse cX8_readHouse 3 none 2 := ⟨⟨zt_t 603 (by decide +kernel) rfl, zt_t 13 (by decide +kernel) rfl, zt_t 604 rfl rfl⟩, rfl, by decide +kernel, by decide +kernel, by decide +kernel⟩
set_option maxRecDepth 100000 in
theorem zM_X9_values : zt_S RX9 yX9_values cX9_values 0 (some (.array (.object "PondIceTrade$Word"))) 0 := ⟨⟨zt_t 36 (by decide +kernel) rfl, zt_t 4 (by decide +kernel) rfl, zt_t 37 rfl rfl⟩, rfl, by decide +kernel, by decide +kernel, by decide +kernel⟩
set_option maxRecDepth 100000 in
theorem zM_X10_copyFrom : zt_V RX10 yX10_copyFrom cX10_copyFrom 3 none 1 := ⟨⟨zt_t 619 (by decide +kernel) rfl, zt_t 620 (by decide +kernel) rfl, zt_t 7 (by decide +kernel) rfl, zt_t 621 rfl rfl⟩, rfl, by decide +kernel, by decide +kernel, by decide +kernel⟩
set_option maxRecDepth 100000 in
theorem zM_X10_clear : zt_V RX10 yX10_clear cX10_clear 2 none 0 := ⟨⟨zt_t 451 (by decide +kernel) rfl, zt_t 452 (by decide +kernel) rfl, zt_t 7 (by decide +kernel) rfl, zt_t 453 rfl rfl⟩, rfl, by decide +kernel, by decide +kernel, by decide +kernel⟩
set_option maxRecDepth 100000 in
theorem zM_X10_hasRoomForShip : zt_V RX10 yX10_hasRoomForShip cX10_hasRoomForShip 1 (some .boolean) 0 := ⟨⟨zt_t 561 (by decide +kernel) rfl, zt_t 562 (by decide +kernel) rfl, zt_t 7 (by decide +kernel) rfl, zt_t 563 rfl rfl⟩, rfl, by decide +kernel, by decide +kernel, by decide +kernel⟩
set_option maxRecDepth 100000 in
theorem zM_X10_hasRoomForTown : zt_V RX10 yX10_hasRoomForTown cX10_hasRoomForTown 1 (some .boolean) 0 := ⟨⟨zt_t 565 (by decide +kernel) rfl, zt_t 566 (by decide +kernel) rfl, zt_t 7 (by decide +kernel) rfl, zt_t 567 rfl rfl⟩, rfl, by decide +kernel, by decide +kernel, by decide +kernel⟩
set_option maxRecDepth 100000 in
theorem zM_X10_hasShip : zt_V RX10 yX10_hasShip cX10_hasShip 2 (some .boolean) 1 := ⟨⟨zt_t 733 (by decide +kernel) rfl, zt_t 734 (by decide +kernel) rfl, zt_t 7 (by decide +kernel) rfl, zt_t 735 rfl rfl⟩, rfl, by decide +kernel, by decide +kernel, by decide +kernel⟩
set_option maxRecDepth 100000 in
theorem zM_X10_hasTown : zt_V RX10 yX10_hasTown cX10_hasTown 2 (some .boolean) 1 := ⟨⟨zt_t 606 (by decide +kernel) rfl, zt_t 607 (by decide +kernel) rfl, zt_t 7 (by decide +kernel) rfl, zt_t 608 rfl rfl⟩, rfl, by decide +kernel, by decide +kernel, by decide +kernel⟩
set_option maxRecDepth 100000 in
theorem zM_X10_isAtHome : zt_V RX10 yX10_isAtHome cX10_isAtHome 2 (some .boolean) 1 := ⟨⟨zt_t 774 (by decide +kernel) rfl, zt_t 775 (by decide +kernel) rfl, zt_t 7 (by decide +kernel) rfl, zt_t 776 rfl rfl⟩, rfl, by decide +kernel, by decide +kernel, by decide +kernel⟩
set_option maxRecDepth 100000 in
theorem zM_X10_blocksFor : zt_V RX10 yX10_blocksFor cX10_blocksFor 4 (some .int) 1 := ⟨⟨zt_t 746 (by decide +kernel) rfl, zt_t 747 (by decide +kernel) rfl, zt_t 7 (by decide +kernel) rfl, zt_t 748 rfl rfl⟩, rfl, by decide +kernel, by decide +kernel, by decide +kernel⟩
set_option maxRecDepth 100000 in
theorem zM_X10_blocksAtSea : zt_V RX10 yX10_blocksAtSea cX10_blocksAtSea 3 (some .int) 0 := ⟨⟨zt_t 1109 (by decide +kernel) rfl, zt_t 1110 (by decide +kernel) rfl, zt_t 7 (by decide +kernel) rfl, zt_t 1111 rfl rfl⟩, rfl, by decide +kernel, by decide +kernel, by decide +kernel⟩
set_option maxRecDepth 100000 in
theorem zM_X10_soldSoFar : zt_V RX10 yX10_soldSoFar cX10_soldSoFar 3 (some .int) 0 := ⟨⟨zt_t 1113 (by decide +kernel) rfl, zt_t 1114 (by decide +kernel) rfl, zt_t 7 (by decide +kernel) rfl, zt_t 1115 rfl rfl⟩, rfl, by decide +kernel, by decide +kernel, by decide +kernel⟩
set_option maxRecDepth 100000 in
theorem zM_X10_homeBits : zt_V RX10 yX10_homeBits cX10_homeBits 3 (some .int) 0 := ⟨⟨zt_t 1105 (by decide +kernel) rfl, zt_t 1106 (by decide +kernel) rfl, zt_t 7 (by decide +kernel) rfl, zt_t 1107 rfl rfl⟩, rfl, by decide +kernel, by decide +kernel, by decide +kernel⟩
set_option maxRecDepth 100000 in
theorem zM_X10_houseBits : zt_V RX10 yX10_houseBits cX10_houseBits 3 (some .int) 0 := ⟨⟨zt_t 1117 (by decide +kernel) rfl, zt_t 1118 (by decide +kernel) rfl, zt_t 7 (by decide +kernel) rfl, zt_t 1119 rfl rfl⟩, rfl, by decide +kernel, by decide +kernel, by decide +kernel⟩
set_option maxRecDepth 100000 in
theorem zM_X10_mostBlocks : zt_V RX10 yX10_mostBlocks cX10_mostBlocks 3 (some .int) 1 := ⟨⟨zt_t 806 (by decide +kernel) rfl, zt_t 807 (by decide +kernel) rfl, zt_t 7 (by decide +kernel) rfl, zt_t 808 rfl rfl⟩, rfl, by decide +kernel, by decide +kernel, by decide +kernel⟩
set_option maxRecDepth 100000 in
theorem zM_X10_canSail : zt_V RX10 yX10_canSail cX10_canSail 5 (some .boolean) 4 := ⟨⟨zt_t 858 (by decide +kernel) rfl, zt_t 859 (by decide +kernel) rfl, zt_t 7 (by decide +kernel) rfl, zt_t 860 rfl rfl⟩, rfl, by decide +kernel, by decide +kernel, by decide +kernel⟩
set_option maxRecDepth 100000 in
theorem zM_X10_setSail : zt_V RX10 yX10_setSail cX10_setSail 5 none 4 := ⟨⟨zt_t 814 (by decide +kernel) rfl, zt_t 815 (by decide +kernel) rfl, zt_t 7 (by decide +kernel) rfl, zt_t 816 rfl rfl⟩, rfl, by decide +kernel, by decide +kernel, by decide +kernel⟩
set_option maxRecDepth 100000 in
theorem zM_X10_fare : zt_V RX10 yX10_fare cX10_fare 4 (some .int) 3 := ⟨⟨zt_t 820 (by decide +kernel) rfl, zt_p 13 (by decide +kernel : _ = some (⟨"PondIceTrade$World", "fare", "(IIZ)I"⟩, 10)), zt_t 7 (by decide +kernel) rfl, zt_t 821 rfl rfl⟩, rfl, by decide +kernel, by decide +kernel, by decide +kernel⟩
set_option maxRecDepth 100000 in
theorem zM_X10_canBuild : zt_V RX10 yX10_canBuild cX10_canBuild 2 (some .boolean) 1 := ⟨⟨zt_t 876 (by decide +kernel) rfl, zt_t 877 (by decide +kernel) rfl, zt_t 7 (by decide +kernel) rfl, zt_t 878 rfl rfl⟩, rfl, by decide +kernel, by decide +kernel, by decide +kernel⟩
set_option maxRecDepth 100000 in
theorem zM_X10_putHouse : zt_V RX10 yX10_putHouse cX10_putHouse 2 none 1 := ⟨⟨zt_t 880 (by decide +kernel) rfl, zt_t 881 (by decide +kernel) rfl, zt_t 7 (by decide +kernel) rfl, zt_t 882 rfl rfl⟩, rfl, by decide +kernel, by decide +kernel, by decide +kernel⟩
set_option maxRecDepth 100000 in
theorem zM_X10_isOut : zt_V RX10 yX10_isOut cX10_isOut 2 (some .boolean) 0 := ⟨⟨zt_t 1022 (by decide +kernel) rfl, zt_t 1023 (by decide +kernel) rfl, zt_t 7 (by decide +kernel) rfl, zt_t 1024 rfl rfl⟩, rfl, by decide +kernel, by decide +kernel, by decide +kernel⟩
set_option maxRecDepth 100000 in
theorem zM_X10_passMonth : zt_V RX10 yX10_passMonth cX10_passMonth 6 (some .int) 2 := ⟨⟨zt_t 770 (by decide +kernel) rfl, zt_t 771 (by decide +kernel) rfl, zt_t 7 (by decide +kernel) rfl, zt_t 772 rfl rfl⟩, rfl, by decide +kernel, by decide +kernel, by decide +kernel⟩
set_option maxRecDepth 100000 in
theorem zM_X10_sailByRule : zt_V RX10 yX10_sailByRule cX10_sailByRule 9 none 2 := ⟨⟨zt_t 780 (by decide +kernel) rfl, zt_p 9 (by decide +kernel : _ = some (⟨"PondIceTrade$World", "sailByRule", "(LPondIceTrade$Rule;I)V"⟩, 10)), zt_t 7 (by decide +kernel) rfl, zt_t 781 rfl rfl⟩, rfl, by decide +kernel, by decide +kernel, by decide +kernel⟩
set_option maxRecDepth 100000 in
theorem zM_X10_growPond : zt_V RX10 yX10_growPond cX10_growPond 3 none 1 := ⟨⟨zt_t 824 (by decide +kernel) rfl, zt_p 14 (by decide +kernel : _ = some (⟨"PondIceTrade$World", "growPond", "(I)V"⟩, 10)), zt_t 7 (by decide +kernel) rfl, zt_t 825 rfl rfl⟩, rfl, by decide +kernel, by decide +kernel, by decide +kernel⟩
set_option maxRecDepth 100000 in
theorem zM_X10_moveShip : zt_V RX10 yX10_moveShip cX10_moveShip 3 none 1 := ⟨⟨zt_t 834 (by decide +kernel) rfl, zt_p 15 (by decide +kernel : _ = some (⟨"PondIceTrade$World", "moveShip", "(LPondIceTrade$Ship;)V"⟩, 10)), zt_t 7 (by decide +kernel) rfl, zt_t 835 rfl rfl⟩, rfl, by decide +kernel, by decide +kernel, by decide +kernel⟩
set_option maxRecDepth 100000 in
theorem zM_X11_feed : zt_V RX11 yX11_feed cX11_feed 6 (some .int) 5 := ⟨⟨zt_t 425 (by decide +kernel) rfl, zt_t 426 (by decide +kernel) rfl, zt_t 1 (by decide +kernel) rfl, zt_t 427 rfl rfl⟩, rfl, by decide +kernel, by decide +kernel, by decide +kernel⟩
set_option maxRecDepth 100000 in
theorem zM_X11_end : zt_V RX11 yX11_end cX11_end 2 (some .int) 1 := ⟨⟨zt_t 437 (by decide +kernel) rfl, zt_t 438 (by decide +kernel) rfl, zt_t 1 (by decide +kernel) rfl, zt_t 439 rfl rfl⟩, rfl, by decide +kernel, by decide +kernel, by decide +kernel⟩
set_option maxRecDepth 100000 in
theorem zM_X11_trade : zt_V RX11 yX11_trade cX11_trade 1 (some .int) 0 := ⟨⟨zt_t 444 (by decide +kernel) rfl, zt_t 445 (by decide +kernel) rfl, zt_t 1 (by decide +kernel) rfl, zt_t 446 rfl rfl⟩, rfl, by decide +kernel, by decide +kernel, by decide +kernel⟩
set_option maxRecDepth 100000 in
theorem zM_X11_rule : zt_V RX11 yX11_rule cX11_rule 2 (some .int) 0 := ⟨⟨zt_t 642 (by decide +kernel) rfl, zt_t 643 (by decide +kernel) rfl, zt_t 1 (by decide +kernel) rfl, zt_t 644 rfl rfl⟩, rfl, by decide +kernel, by decide +kernel, by decide +kernel⟩
set_option maxRecDepth 100000 in
theorem zM_X11_force : zt_V RX11 yX11_force cX11_force 3 (some .int) 1 := ⟨⟨zt_t 725 (by decide +kernel) rfl, zt_t 726 (by decide +kernel) rfl, zt_t 1 (by decide +kernel) rfl, zt_t 727 rfl rfl⟩, rfl, by decide +kernel, by decide +kernel, by decide +kernel⟩
set_option maxRecDepth 100000 in
theorem zM_X11_ship : zt_V RX11 yX11_ship cX11_ship 3 (some .int) 2 := ⟨⟨zt_t 729 (by decide +kernel) rfl, zt_t 730 (by decide +kernel) rfl, zt_t 1 (by decide +kernel) rfl, zt_t 731 rfl rfl⟩, rfl, by decide +kernel, by decide +kernel, by decide +kernel⟩
set_option maxRecDepth 100000 in
theorem zM_X11_town : zt_V RX11 yX11_town cX11_town 3 (some .int) 2 := ⟨⟨zt_t 741 (by decide +kernel) rfl, zt_t 742 (by decide +kernel) rfl, zt_t 1 (by decide +kernel) rfl, zt_t 743 rfl rfl⟩, rfl, by decide +kernel, by decide +kernel, by decide +kernel⟩
set_option maxRecDepth 100000 in
theorem zM_X11_month : zt_V RX11 yX11_month cX11_month 1 (some .int) 0 := ⟨⟨zt_t 754 (by decide +kernel) rfl, zt_t 755 (by decide +kernel) rfl, zt_t 1 (by decide +kernel) rfl, zt_t 756 rfl rfl⟩, rfl, by decide +kernel, by decide +kernel, by decide +kernel⟩
set_option maxRecDepth 100000 in
theorem zM_X11_sail : zt_V RX11 yX11_sail cX11_sail 5 (some .int) 4 := ⟨⟨zt_t 854 (by decide +kernel) rfl, zt_t 855 (by decide +kernel) rfl, zt_t 1 (by decide +kernel) rfl, zt_t 856 rfl rfl⟩, rfl, by decide +kernel, by decide +kernel, by decide +kernel⟩
set_option maxRecDepth 100000 in
theorem zM_X11_teach : zt_V RX11 yX11_teach cX11_teach 3 (some .int) 2 := ⟨⟨zt_t 864 (by decide +kernel) rfl, zt_t 865 (by decide +kernel) rfl, zt_t 1 (by decide +kernel) rfl, zt_t 866 rfl rfl⟩, rfl, by decide +kernel, by decide +kernel, by decide +kernel⟩
set_option maxRecDepth 100000 in
theorem zM_X11_build : zt_V RX11 yX11_build cX11_build 2 (some .int) 1 := ⟨⟨zt_t 872 (by decide +kernel) rfl, zt_t 873 (by decide +kernel) rfl, zt_t 1 (by decide +kernel) rfl, zt_t 874 rfl rfl⟩, rfl, by decide +kernel, by decide +kernel, by decide +kernel⟩
set_option maxRecDepth 100000 in
theorem zM_X11_ask : zt_V RX11 yX11_ask cX11_ask 3 (some .int) 2 := ⟨⟨zt_t 884 (by decide +kernel) rfl, zt_t 885 (by decide +kernel) rfl, zt_t 1 (by decide +kernel) rfl, zt_t 886 rfl rfl⟩, rfl, by decide +kernel, by decide +kernel, by decide +kernel⟩
set_option maxRecDepth 100000 in
theorem zM_X11_undo : zt_V RX11 yX11_undo cX11_undo 1 (some .int) 0 := ⟨⟨zt_t 892 (by decide +kernel) rfl, zt_t 893 (by decide +kernel) rfl, zt_t 1 (by decide +kernel) rfl, zt_t 894 rfl rfl⟩, rfl, by decide +kernel, by decide +kernel, by decide +kernel⟩
set_option maxRecDepth 100000 in
theorem zM_X11_ahead : zt_V RX11 yX11_ahead cX11_ahead 5 (some .int) 3 := ⟨⟨zt_t 897 (by decide +kernel) rfl, zt_t 898 (by decide +kernel) rfl, zt_t 1 (by decide +kernel) rfl, zt_t 899 rfl rfl⟩, rfl, by decide +kernel, by decide +kernel, by decide +kernel⟩
set_option maxRecDepth 100000 in
theorem zM_X11_comes : zt_V RX11 yX11_comes cX11_comes 4 (some .int) 3 := ⟨⟨zt_t 907 (by decide +kernel) rfl, zt_t 908 (by decide +kernel) rfl, zt_t 1 (by decide +kernel) rfl, zt_t 909 rfl rfl⟩, rfl, by decide +kernel, by decide +kernel, by decide +kernel⟩
set_option maxRecDepth 100000 in
theorem zM_X11_load : zt_V RX11 yX11_load cX11_load 4 (some .int) 3 := ⟨⟨zt_t 915 (by decide +kernel) rfl, zt_t 916 (by decide +kernel) rfl, zt_t 1 (by decide +kernel) rfl, zt_t 917 rfl rfl⟩, rfl, by decide +kernel, by decide +kernel, by decide +kernel⟩
set_option maxRecDepth 100000 in
theorem zM_X11_send : zt_V RX11 yX11_send cX11_send 4 (some .int) 3 := ⟨⟨zt_t 924 (by decide +kernel) rfl, zt_t 925 (by decide +kernel) rfl, zt_t 1 (by decide +kernel) rfl, zt_t 926 rfl rfl⟩, rfl, by decide +kernel, by decide +kernel, by decide +kernel⟩
set_option maxRecDepth 100000 in
theorem zM_X11_fleet : zt_V RX11 yX11_fleet cX11_fleet 3 (some .int) 2 := ⟨⟨zt_t 957 (by decide +kernel) rfl, zt_t 958 (by decide +kernel) rfl, zt_t 1 (by decide +kernel) rfl, zt_t 959 rfl rfl⟩, rfl, by decide +kernel, by decide +kernel, by decide +kernel⟩
set_option maxRecDepth 100000 in
theorem zM_X11_give : zt_V RX11 yX11_give cX11_give 4 (some .int) 3 := ⟨⟨zt_t 969 (by decide +kernel) rfl, zt_t 970 (by decide +kernel) rfl, zt_t 1 (by decide +kernel) rfl, zt_t 971 rfl rfl⟩, rfl, by decide +kernel, by decide +kernel, by decide +kernel⟩
set_option maxRecDepth 100000 in
theorem zM_X11_site : zt_V RX11 yX11_site cX11_site 3 (some .int) 2 := ⟨⟨zt_t 979 (by decide +kernel) rfl, zt_t 980 (by decide +kernel) rfl, zt_t 1 (by decide +kernel) rfl, zt_t 981 rfl rfl⟩, rfl, by decide +kernel, by decide +kernel, by decide +kernel⟩
set_option maxRecDepth 100000 in
theorem zM_X11_pricing : zt_V RX11 yX11_pricing cX11_pricing 4 (some .int) 3 := ⟨⟨zt_t 989 (by decide +kernel) rfl, zt_t 990 (by decide +kernel) rfl, zt_t 1 (by decide +kernel) rfl, zt_t 991 rfl rfl⟩, rfl, by decide +kernel, by decide +kernel, by decide +kernel⟩
set_option maxRecDepth 100000 in
theorem zM_X11_war : zt_V RX11 yX11_war cX11_war 3 (some .int) 2 := ⟨⟨zt_t 998 (by decide +kernel) rfl, zt_t 999 (by decide +kernel) rfl, zt_t 1 (by decide +kernel) rfl, zt_t 1000 rfl rfl⟩, rfl, by decide +kernel, by decide +kernel, by decide +kernel⟩
set_option maxRecDepth 100000 in
theorem zM_X11_out : zt_V RX11 yX11_out cX11_out 1 (some .int) 0 := ⟨⟨zt_t 1014 (by decide +kernel) rfl, zt_t 1015 (by decide +kernel) rfl, zt_t 1 (by decide +kernel) rfl, zt_t 1016 rfl rfl⟩, rfl, by decide +kernel, by decide +kernel, by decide +kernel⟩
set_option maxRecDepth 100000 in
theorem zM_X11_hatch : zt_V RX11 yX11_hatch cX11_hatch 5 (some .int) 4 := ⟨⟨zt_t 1026 (by decide +kernel) rfl, zt_t 1027 (by decide +kernel) rfl, zt_t 1 (by decide +kernel) rfl, zt_t 1028 rfl rfl⟩, rfl, by decide +kernel, by decide +kernel, by decide +kernel⟩
set_option maxRecDepth 100000 in
theorem zM_X11_note : zt_V RX11 yX11_note cX11_note 3 (some .int) 2 := ⟨⟨zt_t 1035 (by decide +kernel) rfl, zt_t 1036 (by decide +kernel) rfl, zt_t 1 (by decide +kernel) rfl, zt_t 1037 rfl rfl⟩, rfl, by decide +kernel, by decide +kernel, by decide +kernel⟩
set_option maxRecDepth 100000 in
theorem zM_X11_ruled : zt_V RX11 yX11_ruled cX11_ruled 2 (some .int) 1 := ⟨⟨zt_t 1044 (by decide +kernel) rfl, zt_t 1045 (by decide +kernel) rfl, zt_t 1 (by decide +kernel) rfl, zt_t 1046 rfl rfl⟩, rfl, by decide +kernel, by decide +kernel, by decide +kernel⟩
set_option maxRecDepth 100000 in
theorem zM_X11_look : zt_V RX11 yX11_look cX11_look 3 (some .int) 1 := ⟨⟨zt_t 1070 (by decide +kernel) rfl, zt_t 1071 (by decide +kernel) rfl, zt_t 1 (by decide +kernel) rfl, zt_t 1072 rfl rfl⟩, rfl, by decide +kernel, by decide +kernel, by decide +kernel⟩
set_option maxRecDepth 100000 in
theorem zM_X11_seed : zt_V RX11 yX11_seed cX11_seed 3 (some .int) 1 := ⟨⟨zt_t 1084 (by decide +kernel) rfl, zt_t 1085 (by decide +kernel) rfl, zt_t 1 (by decide +kernel) rfl, zt_t 1086 rfl rfl⟩, rfl, by decide +kernel, by decide +kernel, by decide +kernel⟩
set_option maxRecDepth 100000 in
theorem zM_X11_years : zt_V RX11 yX11_years cX11_years 4 (some .int) 3 := ⟨⟨zt_t 1088 (by decide +kernel) rfl, zt_t 1089 (by decide +kernel) rfl, zt_t 1 (by decide +kernel) rfl, zt_t 1090 rfl rfl⟩, rfl, by decide +kernel, by decide +kernel, by decide +kernel⟩
set_option maxRecDepth 100000 in
theorem zM_X11_count : zt_V RX11 yX11_count cX11_count 3 (some .int) 1 := ⟨⟨zt_t 1101 (by decide +kernel) rfl, zt_t 1102 (by decide +kernel) rfl, zt_t 1 (by decide +kernel) rfl, zt_t 1103 rfl rfl⟩, rfl, by decide +kernel, by decide +kernel, by decide +kernel⟩
set_option maxRecDepth 100000 in
theorem zM_X11_image : zt_V RX11 yX11_image cX11_image 2 (some .int) 1 := ⟨⟨zt_t 1121 (by decide +kernel) rfl, zt_t 1122 (by decide +kernel) rfl, zt_t 1 (by decide +kernel) rfl, zt_t 1123 rfl rfl⟩, rfl, by decide +kernel, by decide +kernel, by decide +kernel⟩
set_option maxRecDepth 100000 in
theorem zM_X11_back : zt_V RX11 yX11_back cX11_back 2 (some .int) 1 := ⟨⟨zt_t 1130 (by decide +kernel) rfl, zt_t 1131 (by decide +kernel) rfl, zt_t 1 (by decide +kernel) rfl, zt_t 1132 rfl rfl⟩, rfl, by decide +kernel, by decide +kernel, by decide +kernel⟩
set_option maxRecDepth 100000 in
theorem zM_X11_isWithin : zt_S RX11 yX11_isWithin cX11_isWithin 3 (some .boolean) 3 := ⟨⟨zt_t 441 (by decide +kernel) rfl, zt_t 1 (by decide +kernel) rfl, zt_t 442 rfl rfl⟩, rfl, by decide +kernel, by decide +kernel, by decide +kernel⟩
set_option maxRecDepth 100000 in
theorem zM_X11_ruleInForce : zt_V RX11 yX11_ruleInForce cX11_ruleInForce 1 (some (.object "PondIceTrade$Rule")) 0 := ⟨⟨zt_t 767 (by decide +kernel) rfl, zt_p 8 (by decide +kernel : _ = some (⟨"PondIceTrade", "ruleInForce", "()LPondIceTrade$Rule;"⟩, 12)), zt_t 1 (by decide +kernel) rfl, zt_t 768 rfl rfl⟩, rfl, by decide +kernel, by decide +kernel, by decide +kernel⟩
set_option maxRecDepth 100000 in
theorem zM_X11_keepPast : zt_V RX11 yX11_keepPast cX11_keepPast 1 none 0 := ⟨⟨zt_t 759 (by decide +kernel) rfl, zt_p 7 (by decide +kernel : _ = some (⟨"PondIceTrade", "keepPast", "()V"⟩, 12)), zt_t 1 (by decide +kernel) rfl, zt_t 760 rfl rfl⟩, rfl, by decide +kernel, by decide +kernel, by decide +kernel⟩
set_option maxRecDepth 100000 in
theorem zM_X11_forgetPast : zt_V RX11 yX11_forgetPast cX11_forgetPast 1 none 0 := ⟨⟨zt_t 635 (by decide +kernel) rfl, zt_p 6 (by decide +kernel : _ = some (⟨"PondIceTrade", "forgetPast", "()V"⟩, 12)), zt_t 1 (by decide +kernel) rfl, zt_t 636 rfl rfl⟩, rfl, by decide +kernel, by decide +kernel, by decide +kernel⟩
set_option maxRecDepth 100000 in
theorem zM_X12_in : zt_S RX12 yX12_in cX12_in 6 (some .boolean) 3 := ⟨⟨zt_t 1317 (by decide +kernel) rfl, zt_t 12 (by decide +kernel) rfl, zt_t 1318 rfl rfl⟩, rfl, by decide +kernel, by decide +kernel, by decide +kernel⟩
set_option maxRecDepth 100000 in
theorem zM_X12_atMost : zt_S RX12 yX12_atMost cX12_atMost 2 (some .int) 2 := ⟨⟨zt_t 1530 (by decide +kernel) rfl, zt_t 12 (by decide +kernel) rfl, zt_t 1531 rfl rfl⟩, rfl, by decide +kernel, by decide +kernel, by decide +kernel⟩
set_option maxRecDepth 100000 in
theorem zM_X12_four : zt_V RX12 yX12_four cX12_four 3 none 1 := ⟨⟨zt_t 1248 (by decide +kernel) rfl, zt_p 21 (by decide +kernel : _ = some (⟨"PondIceTradeModel", "four", "(I)V"⟩, 34)), zt_t 12 (by decide +kernel) rfl, zt_t 1249 rfl rfl⟩, rfl, by decide +kernel, by decide +kernel, by decide +kernel⟩
set_option maxRecDepth 100000 in
theorem zM_X12_feed : zt_V RX12 yX12_feed cX12_feed 6 (some .int) 5 := ⟨⟨zt_t 1243 (by decide +kernel) rfl, zt_t 1244 (by decide +kernel) rfl, zt_t 12 (by decide +kernel) rfl, zt_t 1245 rfl rfl⟩, rfl, by decide +kernel, by decide +kernel, by decide +kernel⟩
set_option maxRecDepth 100000 in
theorem zM_X12_end : zt_V RX12 yX12_end cX12_end 2 (some .int) 1 := ⟨⟨zt_t 1251 (by decide +kernel) rfl, zt_t 1252 (by decide +kernel) rfl, zt_t 12 (by decide +kernel) rfl, zt_t 1253 rfl rfl⟩, rfl, by decide +kernel, by decide +kernel, by decide +kernel⟩
set_option maxRecDepth 100000 in
theorem zM_X12_fails : zt_V RX12 yX12_fails cX12_fails 3 (some .boolean) 2 := ⟨⟨zt_t 1290 (by decide +kernel) rfl, zt_p 28 (by decide +kernel : _ = some (⟨"PondIceTradeModel", "fails", "(II)Z"⟩, 34)), zt_t 12 (by decide +kernel) rfl, zt_t 1291 rfl rfl⟩, rfl, by decide +kernel, by decide +kernel, by decide +kernel⟩
set_option maxRecDepth 100000 in
theorem zM_X12_see : zt_V RX12 yX12_see cX12_see 1 (some .int) 0 := ⟨⟨zt_t 1268 (by decide +kernel) rfl, zt_p 24 (by decide +kernel : _ = some (⟨"PondIceTradeModel", "see", "()I"⟩, 34)), zt_t 12 (by decide +kernel) rfl, zt_t 1269 rfl rfl⟩, rfl, by decide +kernel, by decide +kernel, by decide +kernel⟩
set_option maxRecDepth 100000 in
theorem zM_X12_isDigit : zt_V RX12 yX12_isDigit cX12_isDigit 2 (some .boolean) 1 := ⟨⟨zt_t 1314 (by decide +kernel) rfl, zt_p 34 (by decide +kernel : _ = some (⟨"PondIceTradeModel", "isDigit", "(I)Z"⟩, 34)), zt_t 12 (by decide +kernel) rfl, zt_t 1315 rfl rfl⟩, rfl, by decide +kernel, by decide +kernel, by decide +kernel⟩
set_option maxRecDepth 100000 in
theorem zM_X12_isLetter : zt_V RX12 yX12_isLetter cX12_isLetter 2 (some .boolean) 1 := ⟨⟨zt_t 1281 (by decide +kernel) rfl, zt_p 27 (by decide +kernel : _ = some (⟨"PondIceTradeModel", "isLetter", "(I)Z"⟩, 34)), zt_t 12 (by decide +kernel) rfl, zt_t 1282 rfl rfl⟩, rfl, by decide +kernel, by decide +kernel, by decide +kernel⟩
set_option maxRecDepth 100000 in
theorem zM_X12_isWord : zt_V RX12 yX12_isWord cX12_isWord 6 (some .boolean) 1 := ⟨⟨zt_t 1277 (by decide +kernel) rfl, zt_p 26 (by decide +kernel : _ = some (⟨"PondIceTradeModel", "isWord", "(J)Z"⟩, 34)), zt_t 12 (by decide +kernel) rfl, zt_t 1278 rfl rfl⟩, rfl, by decide +kernel, by decide +kernel, by decide +kernel⟩
set_option maxRecDepth 100000 in
theorem zM_X12_passWord : zt_V RX12 yX12_passWord cX12_passWord 1 none 0 := ⟨⟨zt_t 1302 (by decide +kernel) rfl, zt_p 31 (by decide +kernel : _ = some (⟨"PondIceTradeModel", "passWord", "()V"⟩, 34)), zt_t 12 (by decide +kernel) rfl, zt_t 1303 rfl rfl⟩, rfl, by decide +kernel, by decide +kernel, by decide +kernel⟩
set_option maxRecDepth 100000 in
theorem zM_X12_takesWord : zt_V RX12 yX12_takesWord cX12_takesWord 3 (some .boolean) 1 := ⟨⟨zt_t 1377 (by decide +kernel) rfl, zt_p 46 (by decide +kernel : _ = some (⟨"PondIceTradeModel", "takesWord", "(J)Z"⟩, 34)), zt_t 12 (by decide +kernel) rfl, zt_t 1378 rfl rfl⟩, rfl, by decide +kernel, by decide +kernel, by decide +kernel⟩
set_option maxRecDepth 100000 in
theorem zM_X12_numberHere : zt_V RX12 yX12_numberHere cX12_numberHere 5 (some .boolean) 2 := ⟨⟨zt_t 1310 (by decide +kernel) rfl, zt_p 33 (by decide +kernel : _ = some (⟨"PondIceTradeModel", "numberHere", "(II)Z"⟩, 34)), zt_t 12 (by decide +kernel) rfl, zt_t 1311 rfl rfl⟩, rfl, by decide +kernel, by decide +kernel, by decide +kernel⟩
set_option maxRecDepth 100000 in
theorem zM_X12_wordHere : zt_V RX12 yX12_wordHere cX12_wordHere 1 (some .int) 0 := ⟨⟨zt_t 1362 (by decide +kernel) rfl, zt_p 45 (by decide +kernel : _ = some (⟨"PondIceTradeModel", "wordHere", "()I"⟩, 34)), zt_t 12 (by decide +kernel) rfl, zt_t 1363 rfl rfl⟩, rfl, by decide +kernel, by decide +kernel, by decide +kernel⟩
set_option maxRecDepth 100000 in
theorem zM_X12_puts : zt_V RX12 yX12_puts cX12_puts 3 none 2 := ⟨⟨zt_t 1358 (by decide +kernel) rfl, zt_p 44 (by decide +kernel : _ = some (⟨"PondIceTradeModel", "puts", "(II)V"⟩, 34)), zt_t 12 (by decide +kernel) rfl, zt_t 1359 rfl rfl⟩, rfl, by decide +kernel, by decide +kernel, by decide +kernel⟩
set_option maxRecDepth 100000 in
theorem zM_X12_makes : zt_V RX12 yX12_makes cX12_makes 2 (some .boolean) 1 := ⟨⟨zt_t 1354 (by decide +kernel) rfl, zt_p 43 (by decide +kernel : _ = some (⟨"PondIceTradeModel", "makes", "(I)Z"⟩, 34)), zt_t 12 (by decide +kernel) rfl, zt_t 1355 rfl rfl⟩, rfl, by decide +kernel, by decide +kernel, by decide +kernel⟩
set_option maxRecDepth 100000 in
theorem zM_X12_opens : zt_V RX12 yX12_opens cX12_opens 2 (some .boolean) 1 := ⟨⟨zt_t 1390 (by decide +kernel) rfl, zt_p 49 (by decide +kernel : _ = some (⟨"PondIceTradeModel", "opens", "(I)Z"⟩, 34)), zt_t 12 (by decide +kernel) rfl, zt_t 1391 rfl rfl⟩, rfl, by decide +kernel, by decide +kernel, by decide +kernel⟩
set_option maxRecDepth 100000 in
theorem zM_X12_strength : zt_S RX12 yX12_strength cX12_strength 1 (some .int) 1 := ⟨⟨zt_t 1405 (by decide +kernel) rfl, zt_t 12 (by decide +kernel) rfl, zt_t 1406 rfl rfl⟩, rfl, by decide +kernel, by decide +kernel, by decide +kernel⟩
set_option maxRecDepth 100000 in
theorem zM_X12_settles : zt_V RX12 yX12_settles cX12_settles 2 none 1 := ⟨⟨zt_t 1402 (by decide +kernel) rfl, zt_p 52 (by decide +kernel : _ = some (⟨"PondIceTradeModel", "settles", "(I)V"⟩, 34)), zt_t 12 (by decide +kernel) rfl, zt_t 1403 rfl rfl⟩, rfl, by decide +kernel, by decide +kernel, by decide +kernel⟩
set_option maxRecDepth 100000 in
theorem zM_X12_value : zt_V RX12 yX12_value cX12_value 3 (some .boolean) 0 := ⟨⟨zt_t 1349 (by decide +kernel) rfl, zt_p 42 (by decide +kernel : _ = some (⟨"PondIceTradeModel", "value", "()Z"⟩, 34)), zt_t 12 (by decide +kernel) rfl, zt_t 1350 rfl rfl⟩, rfl, by decide +kernel, by decide +kernel, by decide +kernel⟩
set_option maxRecDepth 100000 in
theorem zM_X12_term : zt_V RX12 yX12_term cX12_term 2 (some .boolean) 0 := ⟨⟨zt_t 1345 (by decide +kernel) rfl, zt_p 41 (by decide +kernel : _ = some (⟨"PondIceTradeModel", "term", "()Z"⟩, 34)), zt_t 12 (by decide +kernel) rfl, zt_t 1346 rfl rfl⟩, rfl, by decide +kernel, by decide +kernel, by decide +kernel⟩
set_option maxRecDepth 100000 in
theorem zM_X12_sum : zt_V RX12 yX12_sum cX12_sum 2 (some .boolean) 0 := ⟨⟨zt_t 1341 (by decide +kernel) rfl, zt_p 40 (by decide +kernel : _ = some (⟨"PondIceTradeModel", "sum", "()Z"⟩, 34)), zt_t 12 (by decide +kernel) rfl, zt_t 1342 rfl rfl⟩, rfl, by decide +kernel, by decide +kernel, by decide +kernel⟩
set_option maxRecDepth 100000 in
theorem zM_X12_compare : zt_V RX12 yX12_compare cX12_compare 5 (some .boolean) 0 := ⟨⟨zt_t 1394 (by decide +kernel) rfl, zt_p 50 (by decide +kernel : _ = some (⟨"PondIceTradeModel", "compare", "()Z"⟩, 34)), zt_t 12 (by decide +kernel) rfl, zt_t 1395 rfl rfl⟩, rfl, by decide +kernel, by decide +kernel, by decide +kernel⟩
set_option maxRecDepth 100000 in
theorem zM_X12_fact : zt_V RX12 yX12_fact cX12_fact 3 (some .boolean) 0 := ⟨⟨zt_t 1385 (by decide +kernel) rfl, zt_p 48 (by decide +kernel : _ = some (⟨"PondIceTradeModel", "fact", "()Z"⟩, 34)), zt_t 12 (by decide +kernel) rfl, zt_t 1386 rfl rfl⟩, rfl, by decide +kernel, by decide +kernel, by decide +kernel⟩
set_option maxRecDepth 100000 in
theorem zM_X12_isInside : zt_V RX12 yX12_isInside cX12_isInside 2 (some .boolean) 0 := ⟨⟨zt_t 1409 (by decide +kernel) rfl, zt_p 53 (by decide +kernel : _ = some (⟨"PondIceTradeModel", "isInside", "()Z"⟩, 34)), zt_t 12 (by decide +kernel) rfl, zt_t 1410 rfl rfl⟩, rfl, by decide +kernel, by decide +kernel, by decide +kernel⟩
set_option maxRecDepth 100000 in
theorem zM_X12_closes : zt_V RX12 yX12_closes cX12_closes 1 none 0 := ⟨⟨zt_t 1398 (by decide +kernel) rfl, zt_p 51 (by decide +kernel : _ = some (⟨"PondIceTradeModel", "closes", "()V"⟩, 34)), zt_t 12 (by decide +kernel) rfl, zt_t 1399 rfl rfl⟩, rfl, by decide +kernel, by decide +kernel, by decide +kernel⟩
set_option maxRecDepth 100000 in
theorem zM_X12_tested : zt_V RX12 yX12_tested cX12_tested 3 (some .boolean) 0 := ⟨⟨zt_t 1381 (by decide +kernel) rfl, zt_p 47 (by decide +kernel : _ = some (⟨"PondIceTradeModel", "tested", "()Z"⟩, 34)), zt_t 12 (by decide +kernel) rfl, zt_t 1382 rfl rfl⟩, rfl, by decide +kernel, by decide +kernel, by decide +kernel⟩
set_option maxRecDepth 100000 in
theorem zM_X12_isSailHere : zt_V RX12 yX12_isSailHere cX12_isSailHere 2 (some .boolean) 0 := ⟨⟨zt_t 1337 (by decide +kernel) rfl, zt_p 39 (by decide +kernel : _ = some (⟨"PondIceTradeModel", "isSailHere", "()Z"⟩, 34)), zt_t 12 (by decide +kernel) rfl, zt_t 1338 rfl rfl⟩, rfl, by decide +kernel, by decide +kernel, by decide +kernel⟩
set_option maxRecDepth 100000 in
theorem zM_X12_cellHere : zt_V RX12 yX12_cellHere cX12_cellHere 4 (some .boolean) 3 := ⟨⟨zt_t 1306 (by decide +kernel) rfl, zt_p 32 (by decide +kernel : _ = some (⟨"PondIceTradeModel", "cellHere", "(III)Z"⟩, 34)), zt_t 12 (by decide +kernel) rfl, zt_t 1307 rfl rfl⟩, rfl, by decide +kernel, by decide +kernel, by decide +kernel⟩
set_option maxRecDepth 100000 in
theorem zM_X12_isTradeHere : zt_V RX12 yX12_isTradeHere cX12_isTradeHere 2 (some .boolean) 1 := ⟨⟨zt_t 1298 (by decide +kernel) rfl, zt_p 30 (by decide +kernel : _ = some (⟨"PondIceTradeModel", "isTradeHere", "(I)Z"⟩, 34)), zt_t 12 (by decide +kernel) rfl, zt_t 1299 rfl rfl⟩, rfl, by decide +kernel, by decide +kernel, by decide +kernel⟩
set_option maxRecDepth 100000 in
theorem zM_X12_isFrostHere : zt_V RX12 yX12_isFrostHere cX12_isFrostHere 1 (some .boolean) 0 := ⟨⟨zt_t 1321 (by decide +kernel) rfl, zt_p 35 (by decide +kernel : _ = some (⟨"PondIceTradeModel", "isFrostHere", "()Z"⟩, 34)), zt_t 12 (by decide +kernel) rfl, zt_t 1322 rfl rfl⟩, rfl, by decide +kernel, by decide +kernel, by decide +kernel⟩
set_option maxRecDepth 100000 in
theorem zM_X12_isShipHere : zt_V RX12 yX12_isShipHere cX12_isShipHere 3 (some .boolean) 1 := ⟨⟨zt_t 1325 (by decide +kernel) rfl, zt_p 36 (by decide +kernel : _ = some (⟨"PondIceTradeModel", "isShipHere", "(I)Z"⟩, 34)), zt_t 12 (by decide +kernel) rfl, zt_t 1326 rfl rfl⟩, rfl, by decide +kernel, by decide +kernel, by decide +kernel⟩
set_option maxRecDepth 100000 in
theorem zM_X12_isTownHere : zt_V RX12 yX12_isTownHere cX12_isTownHere 4 (some .boolean) 1 := ⟨⟨zt_t 1329 (by decide +kernel) rfl, zt_p 37 (by decide +kernel : _ = some (⟨"PondIceTradeModel", "isTownHere", "(I)Z"⟩, 34)), zt_t 12 (by decide +kernel) rfl, zt_t 1330 rfl rfl⟩, rfl, by decide +kernel, by decide +kernel, by decide +kernel⟩
set_option maxRecDepth 100000 in
theorem zM_X12_isHouseHere : zt_V RX12 yX12_isHouseHere cX12_isHouseHere 1 (some .boolean) 0 := ⟨⟨zt_t 1333 (by decide +kernel) rfl, zt_p 38 (by decide +kernel : _ = some (⟨"PondIceTradeModel", "isHouseHere", "()Z"⟩, 34)), zt_t 12 (by decide +kernel) rfl, zt_t 1334 rfl rfl⟩, rfl, by decide +kernel, by decide +kernel, by decide +kernel⟩
set_option maxRecDepth 100000 in
theorem zM_X12_tradeLineHere : zt_V RX12 yX12_tradeLineHere cX12_tradeLineHere 2 (some .boolean) 1 := ⟨⟨zt_t 1294 (by decide +kernel) rfl, zt_p 29 (by decide +kernel : _ = some (⟨"PondIceTradeModel", "tradeLineHere", "(I)Z"⟩, 34)), zt_t 12 (by decide +kernel) rfl, zt_t 1295 rfl rfl⟩, rfl, by decide +kernel, by decide +kernel, by decide +kernel⟩
set_option maxRecDepth 100000 in
theorem zM_X12_isTradeWord : zt_V RX12 yX12_isTradeWord cX12_isTradeWord 1 (some .boolean) 0 := ⟨⟨zt_t 1272 (by decide +kernel) rfl, zt_p 25 (by decide +kernel : _ = some (⟨"PondIceTradeModel", "isTradeWord", "()Z"⟩, 34)), zt_t 12 (by decide +kernel) rfl, zt_t 1273 rfl rfl⟩, rfl, by decide +kernel, by decide +kernel, by decide +kernel⟩
set_option maxRecDepth 100000 in
theorem zM_X12_clauseHere : zt_V RX12 yX12_clauseHere cX12_clauseHere 3 (some .boolean) 0 := ⟨⟨zt_t 1264 (by decide +kernel) rfl, zt_p 23 (by decide +kernel : _ = some (⟨"PondIceTradeModel", "clauseHere", "()Z"⟩, 34)), zt_t 12 (by decide +kernel) rfl, zt_t 1265 rfl rfl⟩, rfl, by decide +kernel, by decide +kernel, by decide +kernel⟩
set_option maxRecDepth 100000 in
theorem zM_X12_readsAll : zt_V RX12 yX12_readsAll cX12_readsAll 2 (some .boolean) 0 := ⟨⟨zt_t 1260 (by decide +kernel) rfl, zt_p 22 (by decide +kernel : _ = some (⟨"PondIceTradeModel", "readsAll", "()Z"⟩, 34)), zt_t 12 (by decide +kernel) rfl, zt_t 1261 rfl rfl⟩, rfl, by decide +kernel, by decide +kernel, by decide +kernel⟩
set_option maxRecDepth 100000 in
theorem zM_X12_rule : zt_V RX12 yX12_rule cX12_rule 1 (some .int) 0 := ⟨⟨zt_t 1255 (by decide +kernel) rfl, zt_t 1256 (by decide +kernel) rfl, zt_t 12 (by decide +kernel) rfl, zt_t 1257 rfl rfl⟩, rfl, by decide +kernel, by decide +kernel, by decide +kernel⟩
set_option maxRecDepth 100000 in
theorem zM_X12_trade : zt_V RX12 yX12_trade cX12_trade 2 (some .int) 0 := ⟨⟨zt_t 1414 (by decide +kernel) rfl, zt_t 1415 (by decide +kernel) rfl, zt_t 12 (by decide +kernel) rfl, zt_t 1416 rfl rfl⟩, rfl, by decide +kernel, by decide +kernel, by decide +kernel⟩
set_option maxRecDepth 100000 in
theorem zM_X12_isRule : zt_V RX12 yX12_isRule cX12_isRule 2 (some .boolean) 1 := ⟨⟨zt_t 1427 (by decide +kernel) rfl, zt_p 55 (by decide +kernel : _ = some (⟨"PondIceTradeModel", "isRule", "(I)Z"⟩, 34)), zt_t 12 (by decide +kernel) rfl, zt_t 1428 rfl rfl⟩, rfl, by decide +kernel, by decide +kernel, by decide +kernel⟩
set_option maxRecDepth 100000 in
theorem zM_X12_push : zt_V RX12 yX12_push cX12_push 3 none 1 := ⟨⟨zt_t 1516 (by decide +kernel) rfl, zt_p 73 (by decide +kernel : _ = some (⟨"PondIceTradeModel", "push", "(J)V"⟩, 34)), zt_t 12 (by decide +kernel) rfl, zt_t 1517 rfl rfl⟩, rfl, by decide +kernel, by decide +kernel, by decide +kernel⟩
set_option maxRecDepth 100000 in
theorem zM_X12_pop : zt_V RX12 yX12_pop cX12_pop 1 (some .long) 0 := ⟨⟨zt_t 1520 (by decide +kernel) rfl, zt_p 74 (by decide +kernel : _ = some (⟨"PondIceTradeModel", "pop", "()J"⟩, 34)), zt_t 12 (by decide +kernel) rfl, zt_t 1521 rfl rfl⟩, rfl, by decide +kernel, by decide +kernel, by decide +kernel⟩
set_option maxRecDepth 100000 in
theorem zM_X12_one : zt_S RX12 yX12_one cX12_one 5 (some .long) 3 := ⟨⟨zt_t 1523 (by decide +kernel) rfl, zt_t 12 (by decide +kernel) rfl, zt_t 1524 rfl rfl⟩, rfl, by decide +kernel, by decide +kernel, by decide +kernel⟩
set_option maxRecDepth 100000 in
theorem zM_X12_reckons : zt_V RX12 yX12_reckons cX12_reckons 11 (some .long) 3 := ⟨⟨zt_t 1512 (by decide +kernel) rfl, zt_p 72 (by decide +kernel : _ = some (⟨"PondIceTradeModel", "reckons", "(III)J"⟩, 34)), zt_t 12 (by decide +kernel) rfl, zt_t 1513 rfl rfl⟩, rfl, by decide +kernel, by decide +kernel, by decide +kernel⟩
set_option maxRecDepth 100000 in
theorem zM_X12_isTrade : zt_V RX12 yX12_isTrade cX12_isTrade 1 (some .boolean) 0 := ⟨⟨zt_t 1484 (by decide +kernel) rfl, zt_p 65 (by decide +kernel : _ = some (⟨"PondIceTradeModel", "isTrade", "()Z"⟩, 34)), zt_t 12 (by decide +kernel) rfl, zt_t 1485 rfl rfl⟩, rfl, by decide +kernel, by decide +kernel, by decide +kernel⟩
set_option maxRecDepth 100000 in
theorem zM_X12_isShip : zt_V RX12 yX12_isShip cX12_isShip 2 (some .boolean) 1 := ⟨⟨zt_t 1435 (by decide +kernel) rfl, zt_p 56 (by decide +kernel : _ = some (⟨"PondIceTradeModel", "isShip", "(I)Z"⟩, 34)), zt_t 12 (by decide +kernel) rfl, zt_t 1436 rfl rfl⟩, rfl, by decide +kernel, by decide +kernel, by decide +kernel⟩
set_option maxRecDepth 100000 in
theorem zM_X12_isTown : zt_V RX12 yX12_isTown cX12_isTown 2 (some .boolean) 1 := ⟨⟨zt_t 1456 (by decide +kernel) rfl, zt_p 60 (by decide +kernel : _ = some (⟨"PondIceTradeModel", "isTown", "(I)Z"⟩, 34)), zt_t 12 (by decide +kernel) rfl, zt_t 1457 rfl rfl⟩, rfl, by decide +kernel, by decide +kernel, by decide +kernel⟩
set_option maxRecDepth 100000 in
theorem zM_X12_shipOf : zt_V RX12 yX12_shipOf cX12_shipOf 3 (some .int) 2 := ⟨⟨zt_t 1448 (by decide +kernel) rfl, zt_p 59 (by decide +kernel : _ = some (⟨"PondIceTradeModel", "shipOf", "(II)I"⟩, 34)), zt_t 12 (by decide +kernel) rfl, zt_t 1449 rfl rfl⟩, rfl, by decide +kernel, by decide +kernel, by decide +kernel⟩
set_option maxRecDepth 100000 in
theorem zM_X12_townOf : zt_V RX12 yX12_townOf cX12_townOf 3 (some .int) 2 := ⟨⟨zt_t 1468 (by decide +kernel) rfl, zt_p 63 (by decide +kernel : _ = some (⟨"PondIceTradeModel", "townOf", "(II)I"⟩, 34)), zt_t 12 (by decide +kernel) rfl, zt_t 1469 rfl rfl⟩, rfl, by decide +kernel, by decide +kernel, by decide +kernel⟩
set_option maxRecDepth 100000 in
theorem zM_X12_holdOf : zt_V RX12 yX12_holdOf cX12_holdOf 2 (some .int) 1 := ⟨⟨zt_t 1440 (by decide +kernel) rfl, zt_p 57 (by decide +kernel : _ = some (⟨"PondIceTradeModel", "holdOf", "(I)I"⟩, 34)), zt_t 12 (by decide +kernel) rfl, zt_t 1441 rfl rfl⟩, rfl, by decide +kernel, by decide +kernel, by decide +kernel⟩
set_option maxRecDepth 100000 in
theorem zM_X12_costOf : zt_V RX12 yX12_costOf cX12_costOf 2 (some .int) 1 := ⟨⟨zt_t 1444 (by decide +kernel) rfl, zt_p 58 (by decide +kernel : _ = some (⟨"PondIceTradeModel", "costOf", "(I)I"⟩, 34)), zt_t 12 (by decide +kernel) rfl, zt_t 1445 rfl rfl⟩, rfl, by decide +kernel, by decide +kernel, by decide +kernel⟩
set_option maxRecDepth 100000 in
theorem zM_X12_monthsTo : zt_V RX12 yX12_monthsTo cX12_monthsTo 2 (some .int) 1 := ⟨⟨zt_t 1460 (by decide +kernel) rfl, zt_p 61 (by decide +kernel : _ = some (⟨"PondIceTradeModel", "monthsTo", "(I)I"⟩, 34)), zt_t 12 (by decide +kernel) rfl, zt_t 1461 rfl rfl⟩, rfl, by decide +kernel, by decide +kernel, by decide +kernel⟩
set_option maxRecDepth 100000 in
theorem zM_X12_heatOf : zt_V RX12 yX12_heatOf cX12_heatOf 2 (some .int) 1 := ⟨⟨zt_t 1464 (by decide +kernel) rfl, zt_p 62 (by decide +kernel : _ = some (⟨"PondIceTradeModel", "heatOf", "(I)I"⟩, 34)), zt_t 12 (by decide +kernel) rfl, zt_t 1465 rfl rfl⟩, rfl, by decide +kernel, by decide +kernel, by decide +kernel⟩
set_option maxRecDepth 100000 in
theorem zM_X12_isHome : zt_V RX12 yX12_isHome cX12_isHome 2 (some .boolean) 1 := ⟨⟨zt_t 1496 (by decide +kernel) rfl, zt_p 68 (by decide +kernel : _ = some (⟨"PondIceTradeModel", "isHome", "(I)Z"⟩, 34)), zt_t 12 (by decide +kernel) rfl, zt_t 1497 rfl rfl⟩, rfl, by decide +kernel, by decide +kernel, by decide +kernel⟩
set_option maxRecDepth 100000 in
theorem zM_X12_begins : zt_V RX12 yX12_begins cX12_begins 3 none 0 := ⟨⟨zt_t 1419 (by decide +kernel) rfl, zt_p 54 (by decide +kernel : _ = some (⟨"PondIceTradeModel", "begins", "()V"⟩, 34)), zt_t 12 (by decide +kernel) rfl, zt_t 1420 rfl rfl⟩, rfl, by decide +kernel, by decide +kernel, by decide +kernel⟩
set_option maxRecDepth 100000 in
theorem zM_X12_coming : zt_V RX12 yX12_coming cX12_coming 4 (some .int) 1 := ⟨⟨zt_t 1472 (by decide +kernel) rfl, zt_p 64 (by decide +kernel : _ = some (⟨"PondIceTradeModel", "coming", "(I)I"⟩, 34)), zt_t 12 (by decide +kernel) rfl, zt_t 1473 rfl rfl⟩, rfl, by decide +kernel, by decide +kernel, by decide +kernel⟩
set_option maxRecDepth 100000 in
theorem zM_X12_force : zt_V RX12 yX12_force cX12_force 3 (some .int) 1 := ⟨⟨zt_t 1422 (by decide +kernel) rfl, zt_t 1423 (by decide +kernel) rfl, zt_t 12 (by decide +kernel) rfl, zt_t 1424 rfl rfl⟩, rfl, by decide +kernel, by decide +kernel, by decide +kernel⟩
set_option maxRecDepth 100000 in
theorem zM_X12_ship : zt_V RX12 yX12_ship cX12_ship 3 (some .int) 2 := ⟨⟨zt_t 1430 (by decide +kernel) rfl, zt_t 1431 (by decide +kernel) rfl, zt_t 12 (by decide +kernel) rfl, zt_t 1432 rfl rfl⟩, rfl, by decide +kernel, by decide +kernel, by decide +kernel⟩
set_option maxRecDepth 100000 in
theorem zM_X12_town : zt_V RX12 yX12_town cX12_town 3 (some .int) 2 := ⟨⟨zt_t 1451 (by decide +kernel) rfl, zt_t 1452 (by decide +kernel) rfl, zt_t 12 (by decide +kernel) rfl, zt_t 1453 rfl rfl⟩, rfl, by decide +kernel, by decide +kernel, by decide +kernel⟩
set_option maxRecDepth 100000 in
theorem zM_X12_melted : zt_S RX12 yX12_melted cX12_melted 2 (some .int) 2 := ⟨⟨zt_t 1541 (by decide +kernel) rfl, zt_t 12 (by decide +kernel) rfl, zt_t 1542 rfl rfl⟩, rfl, by decide +kernel, by decide +kernel, by decide +kernel⟩
set_option maxRecDepth 100000 in
theorem zM_X12_atSea : zt_V RX12 yX12_atSea cX12_atSea 4 (some .int) 3 := ⟨⟨zt_t 1549 (by decide +kernel) rfl, zt_p 79 (by decide +kernel : _ = some (⟨"PondIceTradeModel", "atSea", "(IIZ)I"⟩, 34)), zt_t 12 (by decide +kernel) rfl, zt_t 1550 rfl rfl⟩, rfl, by decide +kernel, by decide +kernel, by decide +kernel⟩
set_option maxRecDepth 100000 in
theorem zM_X12_summedBy : zt_V RX12 yX12_summedBy cX12_summedBy 4 (some .long) 1 := ⟨⟨zt_t 1508 (by decide +kernel) rfl, zt_p 71 (by decide +kernel : _ = some (⟨"PondIceTradeModel", "summedBy", "(I)J"⟩, 34)), zt_t 12 (by decide +kernel) rfl, zt_t 1509 rfl rfl⟩, rfl, by decide +kernel, by decide +kernel, by decide +kernel⟩
set_option maxRecDepth 100000 in
theorem zM_X12_words : zt_V RX12 yX12_words cX12_words 3 none 2 := ⟨⟨zt_t 1504 (by decide +kernel) rfl, zt_p 70 (by decide +kernel : _ = some (⟨"PondIceTradeModel", "words", "(II)V"⟩, 34)), zt_t 12 (by decide +kernel) rfl, zt_t 1505 rfl rfl⟩, rfl, by decide +kernel, by decide +kernel, by decide +kernel⟩
set_option maxRecDepth 100000 in
theorem zM_X12_mostFor : zt_V RX12 yX12_mostFor cX12_mostFor 4 (some .int) 1 := ⟨⟨zt_t 1527 (by decide +kernel) rfl, zt_p 75 (by decide +kernel : _ = some (⟨"PondIceTradeModel", "mostFor", "(I)I"⟩, 34)), zt_t 12 (by decide +kernel) rfl, zt_t 1528 rfl rfl⟩, rfl, by decide +kernel, by decide +kernel, by decide +kernel⟩
set_option maxRecDepth 100000 in
theorem zM_X12_sails : zt_V RX12 yX12_sails cX12_sails 6 none 4 := ⟨⟨zt_t 1534 (by decide +kernel) rfl, zt_p 76 (by decide +kernel : _ = some (⟨"PondIceTradeModel", "sails", "(IIIZ)V"⟩, 34)), zt_t 12 (by decide +kernel) rfl, zt_t 1535 rfl rfl⟩, rfl, by decide +kernel, by decide +kernel, by decide +kernel⟩
set_option maxRecDepth 100000 in
theorem zM_X12_sailsBy : zt_V RX12 yX12_sailsBy cX12_sailsBy 8 none 1 := ⟨⟨zt_t 1500 (by decide +kernel) rfl, zt_p 69 (by decide +kernel : _ = some (⟨"PondIceTradeModel", "sailsBy", "(I)V"⟩, 34)), zt_t 12 (by decide +kernel) rfl, zt_t 1501 rfl rfl⟩, rfl, by decide +kernel, by decide +kernel, by decide +kernel⟩
set_option maxRecDepth 100000 in
theorem zM_X12_grows : zt_V RX12 yX12_grows cX12_grows 2 none 0 := ⟨⟨zt_t 1538 (by decide +kernel) rfl, zt_p 77 (by decide +kernel : _ = some (⟨"PondIceTradeModel", "grows", "()V"⟩, 34)), zt_t 12 (by decide +kernel) rfl, zt_t 1539 rfl rfl⟩, rfl, by decide +kernel, by decide +kernel, by decide +kernel⟩
set_option maxRecDepth 100000 in
theorem zM_X12_moves : zt_V RX12 yX12_moves cX12_moves 4 none 1 := ⟨⟨zt_t 1545 (by decide +kernel) rfl, zt_p 78 (by decide +kernel : _ = some (⟨"PondIceTradeModel", "moves", "(I)V"⟩, 34)), zt_t 12 (by decide +kernel) rfl, zt_t 1546 rfl rfl⟩, rfl, by decide +kernel, by decide +kernel, by decide +kernel⟩
set_option maxRecDepth 100000 in
theorem zM_X12_sells : zt_V RX12 yX12_sells cX12_sells 6 (some .int) 1 := ⟨⟨zt_t 1553 (by decide +kernel) rfl, zt_p 80 (by decide +kernel : _ = some (⟨"PondIceTradeModel", "sells", "(I)I"⟩, 34)), zt_t 12 (by decide +kernel) rfl, zt_t 1554 rfl rfl⟩, rfl, by decide +kernel, by decide +kernel, by decide +kernel⟩
set_option maxRecDepth 100000 in
theorem zM_X12_passes : zt_V RX12 yX12_passes cX12_passes 3 (some .int) 0 := ⟨⟨zt_t 1492 (by decide +kernel) rfl, zt_p 67 (by decide +kernel : _ = some (⟨"PondIceTradeModel", "passes", "()I"⟩, 34)), zt_t 12 (by decide +kernel) rfl, zt_t 1493 rfl rfl⟩, rfl, by decide +kernel, by decide +kernel, by decide +kernel⟩
set_option maxRecDepth 100000 in
theorem zM_X12_keepsAct : zt_V RX12 yX12_keepsAct cX12_keepsAct 2 none 0 := ⟨⟨zt_t 1488 (by decide +kernel) rfl, zt_p 66 (by decide +kernel : _ = some (⟨"PondIceTradeModel", "keepsAct", "()V"⟩, 34)), zt_t 12 (by decide +kernel) rfl, zt_t 1489 rfl rfl⟩, rfl, by decide +kernel, by decide +kernel, by decide +kernel⟩
set_option maxRecDepth 100000 in
theorem zM_X12_undo : zt_V RX12 yX12_undo cX12_undo 2 (some .int) 0 := ⟨⟨zt_t 1475 (by decide +kernel) rfl, zt_t 1476 (by decide +kernel) rfl, zt_t 12 (by decide +kernel) rfl, zt_t 1477 rfl rfl⟩, rfl, by decide +kernel, by decide +kernel, by decide +kernel⟩
set_option maxRecDepth 100000 in
theorem zM_X12_month : zt_V RX12 yX12_month cX12_month 1 (some .int) 0 := ⟨⟨zt_t 1479 (by decide +kernel) rfl, zt_t 1480 (by decide +kernel) rfl, zt_t 12 (by decide +kernel) rfl, zt_t 1481 rfl rfl⟩, rfl, by decide +kernel, by decide +kernel, by decide +kernel⟩
set_option maxRecDepth 100000 in
theorem zM_X12_canSail : zt_V RX12 yX12_canSail cX12_canSail 5 (some .boolean) 3 := ⟨⟨zt_t 1562 (by decide +kernel) rfl, zt_p 81 (by decide +kernel : _ = some (⟨"PondIceTradeModel", "canSail", "(IIZ)Z"⟩, 34)), zt_t 12 (by decide +kernel) rfl, zt_t 1563 rfl rfl⟩, rfl, by decide +kernel, by decide +kernel, by decide +kernel⟩
set_option maxRecDepth 100000 in
theorem zM_X12_sail : zt_V RX12 yX12_sail cX12_sail 5 (some .int) 4 := ⟨⟨zt_t 1556 (by decide +kernel) rfl, zt_t 1557 (by decide +kernel) rfl, zt_t 12 (by decide +kernel) rfl, zt_t 1558 rfl rfl⟩, rfl, by decide +kernel, by decide +kernel, by decide +kernel⟩
set_option maxRecDepth 100000 in
theorem zM_X12_teaches : zt_V RX12 yX12_teaches cX12_teaches 3 none 2 := ⟨⟨zt_t 1570 (by decide +kernel) rfl, zt_p 82 (by decide +kernel : _ = some (⟨"PondIceTradeModel", "teaches", "(II)V"⟩, 34)), zt_t 12 (by decide +kernel) rfl, zt_t 1571 rfl rfl⟩, rfl, by decide +kernel, by decide +kernel, by decide +kernel⟩
set_option maxRecDepth 100000 in
theorem zM_X12_teach : zt_V RX12 yX12_teach cX12_teach 3 (some .int) 2 := ⟨⟨zt_t 1565 (by decide +kernel) rfl, zt_t 1566 (by decide +kernel) rfl, zt_t 12 (by decide +kernel) rfl, zt_t 1567 rfl rfl⟩, rfl, by decide +kernel, by decide +kernel, by decide +kernel⟩
set_option maxRecDepth 100000 in
theorem zM_X12_canBuild : zt_V RX12 yX12_canBuild cX12_canBuild 2 (some .boolean) 1 := ⟨⟨zt_t 1578 (by decide +kernel) rfl, zt_p 83 (by decide +kernel : _ = some (⟨"PondIceTradeModel", "canBuild", "(I)Z"⟩, 34)), zt_t 12 (by decide +kernel) rfl, zt_t 1579 rfl rfl⟩, rfl, by decide +kernel, by decide +kernel, by decide +kernel⟩
set_option maxRecDepth 100000 in
theorem zM_X12_builds : zt_V RX12 yX12_builds cX12_builds 2 none 1 := ⟨⟨zt_t 1582 (by decide +kernel) rfl, zt_p 84 (by decide +kernel : _ = some (⟨"PondIceTradeModel", "builds", "(I)V"⟩, 34)), zt_t 12 (by decide +kernel) rfl, zt_t 1583 rfl rfl⟩, rfl, by decide +kernel, by decide +kernel, by decide +kernel⟩
set_option maxRecDepth 100000 in
theorem zM_X12_build : zt_V RX12 yX12_build cX12_build 2 (some .int) 1 := ⟨⟨zt_t 1573 (by decide +kernel) rfl, zt_t 1574 (by decide +kernel) rfl, zt_t 12 (by decide +kernel) rfl, zt_t 1575 rfl rfl⟩, rfl, by decide +kernel, by decide +kernel, by decide +kernel⟩
set_option maxRecDepth 100000 in
theorem zM_X12_asks : zt_V RX12 yX12_asks cX12_asks 3 none 2 := ⟨⟨zt_t 1590 (by decide +kernel) rfl, zt_p 85 (by decide +kernel : _ = some (⟨"PondIceTradeModel", "asks", "(II)V"⟩, 34)), zt_t 12 (by decide +kernel) rfl, zt_t 1591 rfl rfl⟩, rfl, by decide +kernel, by decide +kernel, by decide +kernel⟩
set_option maxRecDepth 100000 in
theorem zM_X12_ask : zt_V RX12 yX12_ask cX12_ask 3 (some .int) 2 := ⟨⟨zt_t 1585 (by decide +kernel) rfl, zt_t 1586 (by decide +kernel) rfl, zt_t 12 (by decide +kernel) rfl, zt_t 1587 rfl rfl⟩, rfl, by decide +kernel, by decide +kernel, by decide +kernel⟩
set_option maxRecDepth 100000 in
theorem zM_X12_keeps : zt_V RX12 yX12_keeps cX12_keeps 2 none 0 := ⟨⟨zt_t 1600 (by decide +kernel) rfl, zt_p 86 (by decide +kernel : _ = some (⟨"PondIceTradeModel", "keeps", "()V"⟩, 34)), zt_t 12 (by decide +kernel) rfl, zt_t 1601 rfl rfl⟩, rfl, by decide +kernel, by decide +kernel, by decide +kernel⟩
set_option maxRecDepth 100000 in
theorem zM_X12_laysBack : zt_V RX12 yX12_laysBack cX12_laysBack 2 none 0 := ⟨⟨zt_t 1604 (by decide +kernel) rfl, zt_p 87 (by decide +kernel : _ = some (⟨"PondIceTradeModel", "laysBack", "()V"⟩, 34)), zt_t 12 (by decide +kernel) rfl, zt_t 1605 rfl rfl⟩, rfl, by decide +kernel, by decide +kernel, by decide +kernel⟩
set_option maxRecDepth 100000 in
theorem zM_X12_ahead : zt_V RX12 yX12_ahead cX12_ahead 5 (some .int) 3 := ⟨⟨zt_t 1593 (by decide +kernel) rfl, zt_t 1594 (by decide +kernel) rfl, zt_t 12 (by decide +kernel) rfl, zt_t 1595 rfl rfl⟩, rfl, by decide +kernel, by decide +kernel, by decide +kernel⟩
set_option maxRecDepth 100000 in
theorem zM_X12_comesOf : zt_V RX12 yX12_comesOf cX12_comesOf 6 (some .int) 3 := ⟨⟨zt_t 1613 (by decide +kernel) rfl, zt_p 88 (by decide +kernel : _ = some (⟨"PondIceTradeModel", "comesOf", "(IIZ)I"⟩, 34)), zt_t 12 (by decide +kernel) rfl, zt_t 1614 rfl rfl⟩, rfl, by decide +kernel, by decide +kernel, by decide +kernel⟩
set_option maxRecDepth 100000 in
theorem zM_X12_comes : zt_V RX12 yX12_comes cX12_comes 4 (some .int) 3 := ⟨⟨zt_t 1607 (by decide +kernel) rfl, zt_t 1608 (by decide +kernel) rfl, zt_t 12 (by decide +kernel) rfl, zt_t 1609 rfl rfl⟩, rfl, by decide +kernel, by decide +kernel, by decide +kernel⟩
set_option maxRecDepth 100000 in
theorem zM_X12_load : zt_V RX12 yX12_load cX12_load 5 (some .int) 3 := ⟨⟨zt_t 1616 (by decide +kernel) rfl, zt_t 1617 (by decide +kernel) rfl, zt_t 12 (by decide +kernel) rfl, zt_t 1618 rfl rfl⟩, rfl, by decide +kernel, by decide +kernel, by decide +kernel⟩
set_option maxRecDepth 100000 in
theorem zM_X12_moneyIn : zt_V RX12 yX12_moneyIn cX12_moneyIn 3 (some .int) 1 := ⟨⟨zt_t 1626 (by decide +kernel) rfl, zt_p 89 (by decide +kernel : _ = some (⟨"PondIceTradeModel", "moneyIn", "(I)I"⟩, 34)), zt_t 12 (by decide +kernel) rfl, zt_t 1627 rfl rfl⟩, rfl, by decide +kernel, by decide +kernel, by decide +kernel⟩
set_option maxRecDepth 100000 in
theorem zM_X12_send : zt_V RX12 yX12_send cX12_send 12 (some .int) 3 := ⟨⟨zt_t 1620 (by decide +kernel) rfl, zt_t 1621 (by decide +kernel) rfl, zt_t 12 (by decide +kernel) rfl, zt_t 1622 rfl rfl⟩, rfl, by decide +kernel, by decide +kernel, by decide +kernel⟩
set_option maxRecDepth 100000 in
theorem zM_X12_power : zt_S RX12 yX12_power cX12_power 4 (some .int) 2 := ⟨⟨zt_t 1633 (by decide +kernel) rfl, zt_t 12 (by decide +kernel) rfl, zt_t 1634 rfl rfl⟩, rfl, by decide +kernel, by decide +kernel, by decide +kernel⟩
set_option maxRecDepth 100000 in
theorem zM_X12_townIn : zt_V RX12 yX12_townIn cX12_townIn 3 (some .int) 2 := ⟨⟨zt_t 1637 (by decide +kernel) rfl, zt_p 90 (by decide +kernel : _ = some (⟨"PondIceTradeModel", "townIn", "(II)I"⟩, 34)), zt_t 12 (by decide +kernel) rfl, zt_t 1638 rfl rfl⟩, rfl, by decide +kernel, by decide +kernel, by decide +kernel⟩
set_option maxRecDepth 100000 in
theorem zM_X12_fleet : zt_V RX12 yX12_fleet cX12_fleet 9 (some .int) 2 := ⟨⟨zt_t 1629 (by decide +kernel) rfl, zt_t 1630 (by decide +kernel) rfl, zt_t 12 (by decide +kernel) rfl, zt_t 1631 rfl rfl⟩, rfl, by decide +kernel, by decide +kernel, by decide +kernel⟩
set_option maxRecDepth 100000 in
theorem zM_X12_give : zt_V RX12 yX12_give cX12_give 9 (some .int) 3 := ⟨⟨zt_t 1640 (by decide +kernel) rfl, zt_t 1641 (by decide +kernel) rfl, zt_t 12 (by decide +kernel) rfl, zt_t 1642 rfl rfl⟩, rfl, by decide +kernel, by decide +kernel, by decide +kernel⟩
set_option maxRecDepth 100000 in
theorem zM_X12_site : zt_V RX12 yX12_site cX12_site 7 (some .int) 2 := ⟨⟨zt_t 1644 (by decide +kernel) rfl, zt_t 1645 (by decide +kernel) rfl, zt_t 12 (by decide +kernel) rfl, zt_t 1646 rfl rfl⟩, rfl, by decide +kernel, by decide +kernel, by decide +kernel⟩
set_option maxRecDepth 100000 in
theorem zM_X12_pricing : zt_V RX12 yX12_pricing cX12_pricing 8 (some .int) 3 := ⟨⟨zt_t 1648 (by decide +kernel) rfl, zt_t 1649 (by decide +kernel) rfl, zt_t 12 (by decide +kernel) rfl, zt_t 1650 rfl rfl⟩, rfl, by decide +kernel, by decide +kernel, by decide +kernel⟩
set_option maxRecDepth 100000 in
theorem zM_X12_priceBy : zt_V RX12 yX12_priceBy cX12_priceBy 4 (some .int) 2 := ⟨⟨zt_t 1666 (by decide +kernel) rfl, zt_p 93 (by decide +kernel : _ = some (⟨"PondIceTradeModel", "priceBy", "(II)I"⟩, 34)), zt_t 12 (by decide +kernel) rfl, zt_t 1667 rfl rfl⟩, rfl, by decide +kernel, by decide +kernel, by decide +kernel⟩
set_option maxRecDepth 100000 in
theorem zM_X12_earns : zt_V RX12 yX12_earns cX12_earns 7 (some .int) 3 := ⟨⟨zt_t 1662 (by decide +kernel) rfl, zt_p 92 (by decide +kernel : _ = some (⟨"PondIceTradeModel", "earns", "(III)I"⟩, 34)), zt_t 12 (by decide +kernel) rfl, zt_t 1663 rfl rfl⟩, rfl, by decide +kernel, by decide +kernel, by decide +kernel⟩
set_option maxRecDepth 100000 in
theorem zM_X12_isRest : zt_V RX12 yX12_isRest cX12_isRest 5 (some .boolean) 3 := ⟨⟨zt_t 1658 (by decide +kernel) rfl, zt_p 91 (by decide +kernel : _ = some (⟨"PondIceTradeModel", "isRest", "(III)Z"⟩, 34)), zt_t 12 (by decide +kernel) rfl, zt_t 1659 rfl rfl⟩, rfl, by decide +kernel, by decide +kernel, by decide +kernel⟩
set_option maxRecDepth 100000 in
theorem zM_X12_war : zt_V RX12 yX12_war cX12_war 6 (some .int) 2 := ⟨⟨zt_t 1652 (by decide +kernel) rfl, zt_t 1653 (by decide +kernel) rfl, zt_t 12 (by decide +kernel) rfl, zt_t 1654 rfl rfl⟩, rfl, by decide +kernel, by decide +kernel, by decide +kernel⟩
set_option maxRecDepth 100000 in
theorem zM_X12_blocksAtSea : zt_V RX12 yX12_blocksAtSea cX12_blocksAtSea 3 (some .int) 0 := ⟨⟨zt_t 1678 (by decide +kernel) rfl, zt_p 95 (by decide +kernel : _ = some (⟨"PondIceTradeModel", "blocksAtSea", "()I"⟩, 34)), zt_t 12 (by decide +kernel) rfl, zt_t 1679 rfl rfl⟩, rfl, by decide +kernel, by decide +kernel, by decide +kernel⟩
set_option maxRecDepth 100000 in
theorem zM_X12_isOut : zt_V RX12 yX12_isOut cX12_isOut 2 (some .boolean) 0 := ⟨⟨zt_t 1674 (by decide +kernel) rfl, zt_p 94 (by decide +kernel : _ = some (⟨"PondIceTradeModel", "isOut", "()Z"⟩, 34)), zt_t 12 (by decide +kernel) rfl, zt_t 1675 rfl rfl⟩, rfl, by decide +kernel, by decide +kernel, by decide +kernel⟩
set_option maxRecDepth 100000 in
theorem zM_X12_out : zt_V RX12 yX12_out cX12_out 3 (some .int) 0 := ⟨⟨zt_t 1669 (by decide +kernel) rfl, zt_t 1670 (by decide +kernel) rfl, zt_t 12 (by decide +kernel) rfl, zt_t 1671 rfl rfl⟩, rfl, by decide +kernel, by decide +kernel, by decide +kernel⟩
set_option maxRecDepth 100000 in
theorem zM_X12_hatch : zt_V RX12 yX12_hatch cX12_hatch 9 (some .int) 4 := ⟨⟨zt_t 1681 (by decide +kernel) rfl, zt_t 1682 (by decide +kernel) rfl, zt_t 12 (by decide +kernel) rfl, zt_t 1683 rfl rfl⟩, rfl, by decide +kernel, by decide +kernel, by decide +kernel⟩
set_option maxRecDepth 100000 in
theorem zM_X12_note : zt_V RX12 yX12_note cX12_note 3 (some .int) 2 := ⟨⟨zt_t 1685 (by decide +kernel) rfl, zt_t 1686 (by decide +kernel) rfl, zt_t 12 (by decide +kernel) rfl, zt_t 1687 rfl rfl⟩, rfl, by decide +kernel, by decide +kernel, by decide +kernel⟩
set_option maxRecDepth 100000 in
theorem zM_X12_spot : zt_S RX12 yX12_spot cX12_spot 2 (some .int) 2 := ⟨⟨zt_t 1698 (by decide +kernel) rfl, zt_t 12 (by decide +kernel) rfl, zt_t 1699 rfl rfl⟩, rfl, by decide +kernel, by decide +kernel, by decide +kernel⟩
set_option maxRecDepth 100000 in
theorem zM_X12_fillsFits : zt_V RX12 yX12_fillsFits cX12_fillsFits 5 none 0 := ⟨⟨zt_t 1695 (by decide +kernel) rfl, zt_p 96 (by decide +kernel : _ = some (⟨"PondIceTradeModel", "fillsFits", "()V"⟩, 34)), zt_t 12 (by decide +kernel) rfl, zt_t 1696 rfl rfl⟩, rfl, by decide +kernel, by decide +kernel, by decide +kernel⟩
set_option maxRecDepth 100000 in
theorem zM_X12_ruled : zt_V RX12 yX12_ruled cX12_ruled 5 (some .int) 1 := ⟨⟨zt_t 1690 (by decide +kernel) rfl, zt_t 1691 (by decide +kernel) rfl, zt_t 12 (by decide +kernel) rfl, zt_t 1692 rfl rfl⟩, rfl, by decide +kernel, by decide +kernel, by decide +kernel⟩
set_option maxRecDepth 100000 in
theorem zM_X12_alikeAt : zt_V RX12 yX12_alikeAt cX12_alikeAt 6 (some .int) 1 := ⟨⟨zt_t 1706 (by decide +kernel) rfl, zt_p 97 (by decide +kernel : _ = some (⟨"PondIceTradeModel", "alikeAt", "(I)I"⟩, 34)), zt_t 12 (by decide +kernel) rfl, zt_t 1707 rfl rfl⟩, rfl, by decide +kernel, by decide +kernel, by decide +kernel⟩
set_option maxRecDepth 100000 in
theorem zM_X12_look : zt_V RX12 yX12_look cX12_look 4 (some .int) 1 := ⟨⟨zt_t 1701 (by decide +kernel) rfl, zt_t 1702 (by decide +kernel) rfl, zt_t 12 (by decide +kernel) rfl, zt_t 1703 rfl rfl⟩, rfl, by decide +kernel, by decide +kernel, by decide +kernel⟩
set_option maxRecDepth 100000 in
theorem zM_X12_seed : zt_V RX12 yX12_seed cX12_seed 3 (some .int) 1 := ⟨⟨zt_t 1709 (by decide +kernel) rfl, zt_t 1710 (by decide +kernel) rfl, zt_t 12 (by decide +kernel) rfl, zt_t 1711 rfl rfl⟩, rfl, by decide +kernel, by decide +kernel, by decide +kernel⟩
set_option maxRecDepth 100000 in
theorem zM_X12_draw : zt_V RX12 yX12_draw cX12_draw 2 (some .int) 1 := ⟨⟨zt_t 1719 (by decide +kernel) rfl, zt_p 98 (by decide +kernel : _ = some (⟨"PondIceTradeModel", "draw", "(I)I"⟩, 34)), zt_t 12 (by decide +kernel) rfl, zt_t 1720 rfl rfl⟩, rfl, by decide +kernel, by decide +kernel, by decide +kernel⟩
set_option maxRecDepth 100000 in
theorem zM_X12_years : zt_V RX12 yX12_years cX12_years 8 (some .int) 3 := ⟨⟨zt_t 1713 (by decide +kernel) rfl, zt_t 1714 (by decide +kernel) rfl, zt_t 12 (by decide +kernel) rfl, zt_t 1715 rfl rfl⟩, rfl, by decide +kernel, by decide +kernel, by decide +kernel⟩
set_option maxRecDepth 100000 in
theorem zM_X12_count : zt_V RX12 yX12_count cX12_count 4 (some .int) 1 := ⟨⟨zt_t 1726 (by decide +kernel) rfl, zt_t 1727 (by decide +kernel) rfl, zt_t 12 (by decide +kernel) rfl, zt_t 1728 rfl rfl⟩, rfl, by decide +kernel, by decide +kernel, by decide +kernel⟩
set_option maxRecDepth 100000 in
theorem zM_X12_image : zt_V RX12 yX12_image cX12_image 3 (some .int) 1 := ⟨⟨zt_t 1730 (by decide +kernel) rfl, zt_t 1731 (by decide +kernel) rfl, zt_t 12 (by decide +kernel) rfl, zt_t 1732 rfl rfl⟩, rfl, by decide +kernel, by decide +kernel, by decide +kernel⟩
set_option maxRecDepth 100000 in
theorem zM_X12_back : zt_V RX12 yX12_back cX12_back 3 (some .int) 1 := ⟨⟨zt_t 1734 (by decide +kernel) rfl, zt_t 1735 (by decide +kernel) rfl, zt_t 12 (by decide +kernel) rfl, zt_t 1736 rfl rfl⟩, rfl, by decide +kernel, by decide +kernel, by decide +kernel⟩
set_option maxRecDepth 100000 in
theorem zM_J9_floorMod_7cf53 : zt_S RJ9 yJ9_floorMod_7cf53 cJ9_floorMod_7cf53 3 (some .int) 2 := ⟨⟨zt_t 827 (by decide +kernel) rfl, zt_t 18 (by decide +kernel) rfl, zt_t 828 rfl rfl⟩, rfl, by decide +kernel, by decide +kernel, by decide +kernel⟩
set_option maxRecDepth 100000 in
theorem zM_J9_max_7cf53 : zt_S RJ9 yJ9_max_7cf53 cJ9_max_7cf53 2 (some .int) 2 := ⟨⟨zt_t 537 (by decide +kernel) rfl, zt_t 18 (by decide +kernel) rfl, zt_t 538 rfl rfl⟩, rfl, by decide +kernel, by decide +kernel, by decide +kernel⟩
set_option maxRecDepth 100000 in
theorem zM_J9_min_7cf53 : zt_S RJ9 yJ9_min_7cf53 cJ9_min_7cf53 2 (some .int) 2 := ⟨⟨zt_t 763 (by decide +kernel) rfl, zt_t 18 (by decide +kernel) rfl, zt_t 764 rfl rfl⟩, rfl, by decide +kernel, by decide +kernel, by decide +kernel⟩
set_option maxRecDepth 100000 in
theorem zM_J9_min_f86c9 : zt_S RJ9 yJ9_min_f86c9 cJ9_min_f86c9 4 (some .long) 2 := ⟨⟨zt_t 811 (by decide +kernel) rfl, zt_t 18 (by decide +kernel) rfl, zt_t 812 rfl rfl⟩, rfl, by decide +kernel, by decide +kernel, by decide +kernel⟩
set_option maxRecDepth 100000 in
theorem zM_J0_length_8abf5 : zt_V RJ0 yJ0_length_8abf5 cJ0_length_8abf5 1 (some .int) 0 := ⟨⟨zt_t 485 (by decide +kernel) rfl, zt_t 486 (by decide +kernel) rfl, zt_t 14 (by decide +kernel) rfl, zt_t 487 rfl rfl⟩, rfl, by decide +kernel, by decide +kernel, by decide +kernel⟩
set_option maxRecDepth 100000 in
theorem zM_J0_charAt_5068e : zt_V RJ0 yJ0_charAt_5068e cJ0_charAt_5068e 2 (some .char) 1 := ⟨⟨zt_t 495 (by decide +kernel) rfl, zt_t 496 (by decide +kernel) rfl, zt_t 14 (by decide +kernel) rfl, zt_t 497 rfl rfl⟩, rfl, by decide +kernel, by decide +kernel, by decide +kernel⟩
set_option maxRecDepth 100000 in
theorem zM_J0_coder_7d493 : zt_V RJ0 yJ0_coder_7d493 cJ0_coder_7d493 1 (some .byte) 0 := ⟨⟨zt_t 489 (by decide +kernel) rfl, zt_t 490 (by decide +kernel) rfl, zt_t 14 (by decide +kernel) rfl, zt_t 491 rfl rfl⟩, rfl, by decide +kernel, by decide +kernel, by decide +kernel⟩
set_option maxRecDepth 100000 in
theorem zM_J0_isLatin1_aae02 : zt_V RJ0 yJ0_isLatin1_aae02 cJ0_isLatin1_aae02 1 (some .boolean) 0 := ⟨⟨zt_t 499 (by decide +kernel) rfl, zt_t 500 (by decide +kernel) rfl, zt_t 14 (by decide +kernel) rfl, zt_t 501 rfl rfl⟩, rfl, by decide +kernel, by decide +kernel, by decide +kernel⟩
set_option maxRecDepth 100000 in
theorem zM_J0_checkIndex_df160 : zt_S RJ0 yJ0_checkIndex_df160 cJ0_checkIndex_df160 2 none 2 := ⟨⟨zt_t 506 (by decide +kernel) rfl, zt_t 14 (by decide +kernel) rfl, zt_t 507 rfl rfl⟩, rfl, by decide +kernel, by decide +kernel, by decide +kernel⟩
set_option maxRecDepth 100000 in
theorem zM_J1_charAt_3b067 : zt_S RJ1 yJ1_charAt_3b067 cJ1_charAt_3b067 2 (some .char) 2 := ⟨⟨zt_t 503 (by decide +kernel) rfl, zt_t 15 (by decide +kernel) rfl, zt_t 504 rfl rfl⟩, rfl, by decide +kernel, by decide +kernel, by decide +kernel⟩
set_option maxRecDepth 100000 in
theorem zM_J2_getChar_3b067 : zt_S RJ2 yJ2_getChar_3b067 cJ2_getChar_3b067 2 (some .char) 2 := ⟨⟨zt_t 524 (by decide +kernel) rfl, zt_t 17 (by decide +kernel) rfl, zt_t 525 rfl rfl⟩, rfl, by decide +kernel, by decide +kernel, by decide +kernel⟩
set_option maxRecDepth 100000 in
theorem zM_J2_length_9d52b : zt_S RJ2 yJ2_length_9d52b cJ2_length_9d52b 1 (some .int) 1 := ⟨⟨zt_t 520 (by decide +kernel) rfl, zt_t 17 (by decide +kernel) rfl, zt_t 521 rfl rfl⟩, rfl, by decide +kernel, by decide +kernel, by decide +kernel⟩
set_option maxRecDepth 100000 in
theorem zM_J2_charAt_3b067 : zt_S RJ2 yJ2_charAt_3b067 cJ2_charAt_3b067 2 (some .char) 2 := ⟨⟨zt_t 514 (by decide +kernel) rfl, zt_t 17 (by decide +kernel) rfl, zt_t 515 rfl rfl⟩, rfl, by decide +kernel, by decide +kernel, by decide +kernel⟩
set_option maxRecDepth 100000 in
theorem zM_J2_checkIndex_2214a : zt_S RJ2 yJ2_checkIndex_2214a cJ2_checkIndex_2214a 2 none 2 := ⟨⟨zt_t 517 (by decide +kernel) rfl, zt_t 17 (by decide +kernel) rfl, zt_t 518 rfl rfl⟩, rfl, by decide +kernel, by decide +kernel, by decide +kernel⟩
set_option maxRecDepth 100000 in
theorem zM_J3_checkIndex_8e157 : zt_S RJ3 yJ3_checkIndex_8e157 cJ3_checkIndex_8e157 3 (some .int) 3 := ⟨⟨zt_t 511 (by decide +kernel) rfl, zt_t 16 (by decide +kernel) rfl, zt_t 512 rfl rfl⟩, rfl, by decide +kernel, by decide +kernel, by decide +kernel⟩
theorem zmL_9 : Cond.methodLink RL 9 yX11_init ∈ zt := zt_t 23 (by decide +kernel) rfl
theorem zmX11_9 : Cond.methodLink RX11 9 yX6_init ∈ zt := zt_t 31 (by decide +kernel) rfl
theorem zmX6_15 : Cond.methodLink RX6 15 yX9_values ∈ zt := zt_t 35 (by decide +kernel) rfl
theorem zmX11_22 : Cond.methodLink RX11 22 yX3_init ∈ zt := zt_t 90 (by decide +kernel) rfl
theorem zmX11_25 : Cond.methodLink RX11 25 yX0_init ∈ zt := zt_t 148 (by decide +kernel) rfl
theorem zmX0_11 : Cond.methodLink RX0 11 yX10_init ∈ zt := zt_t 154 (by decide +kernel) rfl
theorem zmX10_27 : Cond.methodLink RX10 27 yX5_init ∈ zt := zt_t 163 (by decide +kernel) rfl
theorem zmX10_28 : Cond.methodLink RX10 28 yX7_init ∈ zt := zt_t 196 (by decide +kernel) rfl
theorem zmX11_32 : Cond.methodLink RX11 32 yX10_init ∈ zt := zt_t 335 (by decide +kernel) rfl
theorem zmX11_51 : Cond.methodLink RX11 51 yX2_init ∈ zt := zt_t 340 (by decide +kernel) rfl
theorem zmX2_11 : Cond.methodLink RX2 11 yX10_init ∈ zt := zt_t 345 (by decide +kernel) rfl
theorem zmX11_58 : Cond.methodLink RX11 58 yX1_init ∈ zt := zt_t 369 (by decide +kernel) rfl
theorem zmX1_11 : Cond.methodLink RX1 11 yX10_init ∈ zt := zt_t 374 (by decide +kernel) rfl
theorem zmL_13 : Cond.methodLink RL 13 yX11_feed ∈ zt := zt_t 424 (by decide +kernel) rfl
theorem zmX11_63 : Cond.methodLink RX11 63 yX6_hasRoomFor ∈ zt := zt_t 428 (by decide +kernel) rfl
theorem zmX11_67 : Cond.methodLink RX11 67 yX6_add ∈ zt := zt_t 432 (by decide +kernel) rfl
theorem zmL_18 : Cond.methodLink RL 18 yX11_end ∈ zt := zt_t 436 (by decide +kernel) rfl
theorem zmX11_75 : Cond.methodLink RX11 75 yX11_isWithin ∈ zt := zt_t 440 (by decide +kernel) rfl
theorem zmL_23 : Cond.methodLink RL 23 yX11_trade ∈ zt := zt_t 443 (by decide +kernel) rfl
theorem zmX11_79 : Cond.methodLink RX11 79 yX8_reads ∈ zt := zt_t 447 (by decide +kernel) rfl
theorem zmX8_7 : Cond.methodLink RX8 7 yX10_clear ∈ zt := zt_t 450 (by decide +kernel) rfl
theorem zmX8_12 : Cond.methodLink RX8 12 yX6_split ∈ zt := zt_t 454 (by decide +kernel) rfl
theorem zmX6_55 : Cond.methodLink RX6 55 yX6_byteAt ∈ zt := zt_t 458 (by decide +kernel) rfl
theorem zmX6_59 : Cond.methodLink RX6 59 yX6_isDigit ∈ zt := zt_t 462 (by decide +kernel) rfl
theorem zmX6_63 : Cond.methodLink RX6 63 yX6_splitNumber ∈ zt := zt_t 465 (by decide +kernel) rfl
theorem zmX6_81 : Cond.methodLink RX6 81 yX6_addToken ∈ zt := zt_t 469 (by decide +kernel) rfl
theorem zmX6_66 : Cond.methodLink RX6 66 yX6_isLetter ∈ zt := zt_t 473 (by decide +kernel) rfl
theorem zmX6_69 : Cond.methodLink RX6 69 yX6_splitWord ∈ zt := zt_t 476 (by decide +kernel) rfl
theorem zmX6_89 : Cond.methodLink RX6 89 yX6_isText ∈ zt := zt_t 480 (by decide +kernel) rfl
theorem zmX6_93 : Cond.methodLink RX6 93 yJ0_length_8abf5 ∈ zt := zt_t 484 (by decide +kernel) rfl
theorem zmJ0_335 : Cond.methodLink RJ0 335 yJ0_coder_7d493 ∈ zt := zt_t 488 (by decide +kernel) rfl
theorem zmX6_98 : Cond.methodLink RX6 98 yJ0_charAt_5068e ∈ zt := zt_t 494 (by decide +kernel) rfl
theorem zmJ0_492 : Cond.methodLink RJ0 492 yJ0_isLatin1_aae02 ∈ zt := zt_t 498 (by decide +kernel) rfl
theorem zmJ0_495 : Cond.methodLink RJ0 495 yJ1_charAt_3b067 ∈ zt := zt_t 502 (by decide +kernel) rfl
theorem zmJ1_9 : Cond.methodLink RJ1 9 yJ0_checkIndex_df160 ∈ zt := zt_t 505 (by decide +kernel) rfl
theorem zmJ0_1059 : Cond.methodLink RJ0 1059 yJ3_checkIndex_8e157 ∈ zt := zt_t 510 (by decide +kernel) rfl
theorem zmJ0_498 : Cond.methodLink RJ0 498 yJ2_charAt_3b067 ∈ zt := zt_t 513 (by decide +kernel) rfl
theorem zmJ2_67 : Cond.methodLink RJ2 67 yJ2_checkIndex_2214a ∈ zt := zt_t 516 (by decide +kernel) rfl
theorem zmJ2_48 : Cond.methodLink RJ2 48 yJ2_length_9d52b ∈ zt := zt_t 519 (by decide +kernel) rfl
theorem zmJ2_414 : Cond.methodLink RJ2 414 yJ0_checkIndex_df160 ∈ zt := zt_t 522 (by decide +kernel) rfl
theorem zmJ2_71 : Cond.methodLink RJ2 71 yJ2_getChar_3b067 ∈ zt := zt_t 523 (by decide +kernel) rfl
theorem zmX6_72 : Cond.methodLink RX6 72 yX6_splitSign ∈ zt := zt_t 532 (by decide +kernel) rfl
theorem zmX6_75 : Cond.methodLink RX6 75 yJ9_max_7cf53 ∈ zt := zt_t 536 (by decide +kernel) rfl
theorem zmX8_19 : Cond.methodLink RX8 19 yX8_opens ∈ zt := zt_t 539 (by decide +kernel) rfl
theorem zmX8_38 : Cond.methodLink RX8 38 yX6_word ∈ zt := zt_t 542 (by decide +kernel) rfl
theorem zmX8_35 : Cond.methodLink RX8 35 yX6_fail ∈ zt := zt_t 556 (by decide +kernel) rfl
theorem zmX8_60 : Cond.methodLink RX8 60 yX10_hasRoomForShip ∈ zt := zt_t 560 (by decide +kernel) rfl
theorem zmX8_64 : Cond.methodLink RX8 64 yX10_hasRoomForTown ∈ zt := zt_t 564 (by decide +kernel) rfl
theorem zmX8_23 : Cond.methodLink RX8 23 yX8_readClause ∈ zt := zt_t 568 (by decide +kernel) rfl
theorem zmX8_67 : Cond.methodLink RX8 67 yX6_advance ∈ zt := zt_t 571 (by decide +kernel) rfl
theorem zmX8_70 : Cond.methodLink RX8 70 yX8_readStart ∈ zt := zt_t 575 (by decide +kernel) rfl
theorem zmX8_90 : Cond.methodLink RX8 90 yX6_takeNumber ∈ zt := zt_t 578 (by decide +kernel) rfl
theorem zmX6_111 : Cond.methodLink RX6 111 yX6_number ∈ zt := zt_t 582 (by decide +kernel) rfl
theorem zmX6_102 : Cond.methodLink RX6 102 yX6_kind ∈ zt := zt_t 586 (by decide +kernel) rfl
theorem zmX6_105 : Cond.methodLink RX6 105 yX6_fail ∈ zt := zt_t 590 (by decide +kernel) rfl
theorem zmX6_108 : Cond.methodLink RX6 108 yX6_advance ∈ zt := zt_t 591 (by decide +kernel) rfl
theorem zmX8_74 : Cond.methodLink RX8 74 yX8_readFrost ∈ zt := zt_t 592 (by decide +kernel) rfl
theorem zmX8_77 : Cond.methodLink RX8 77 yX8_readShip ∈ zt := zt_t 596 (by decide +kernel) rfl
theorem zmX8_80 : Cond.methodLink RX8 80 yX8_readTown ∈ zt := zt_t 599 (by decide +kernel) rfl
theorem zmX8_83 : Cond.methodLink RX8 83 yX8_readHouse ∈ zt := zt_t 602 (by decide +kernel) rfl
theorem zmX8_149 : Cond.methodLink RX8 149 yX10_hasTown ∈ zt := zt_t 605 (by decide +kernel) rfl
theorem zmX8_27 : Cond.methodLink RX8 27 yX6_kind ∈ zt := zt_t 609 (by decide +kernel) rfl
theorem zmX8_31 : Cond.methodLink RX8 31 yX6_passes ∈ zt := zt_t 610 (by decide +kernel) rfl
theorem zmX11_88 : Cond.methodLink RX11 88 yX0_open ∈ zt := zt_t 614 (by decide +kernel) rfl
theorem zmX0_32 : Cond.methodLink RX0 32 yX10_copyFrom ∈ zt := zt_t 618 (by decide +kernel) rfl
theorem zmX10_58 : Cond.methodLink RX10 58 yX5_copyFrom ∈ zt := zt_t 625 (by decide +kernel) rfl
theorem zmX10_62 : Cond.methodLink RX10 62 yX7_copyFrom ∈ zt := zt_t 629 (by decide +kernel) rfl
theorem zmX11_92 : Cond.methodLink RX11 92 yX11_forgetPast ∈ zt := zt_t 633 (by decide +kernel) rfl
theorem zmX11_112 : Cond.methodLink RX11 112 yX2_forget ∈ zt := zt_t 637 (by decide +kernel) rfl
theorem zmL_28 : Cond.methodLink RL 28 yX11_rule ∈ zt := zt_t 641 (by decide +kernel) rfl
theorem zmX11_104 : Cond.methodLink RX11 104 yX4_reads ∈ zt := zt_t 645 (by decide +kernel) rfl
theorem zmX4_9 : Cond.methodLink RX4 9 yX3_clear ∈ zt := zt_t 648 (by decide +kernel) rfl
theorem zmX4_14 : Cond.methodLink RX4 14 yX6_split ∈ zt := zt_t 652 (by decide +kernel) rfl
theorem zmX4_19 : Cond.methodLink RX4 19 yX4_readClause ∈ zt := zt_t 653 (by decide +kernel) rfl
theorem zmX4_36 : Cond.methodLink RX4 36 yX6_word ∈ zt := zt_t 656 (by decide +kernel) rfl
theorem zmX4_33 : Cond.methodLink RX4 33 yX6_fail ∈ zt := zt_t 659 (by decide +kernel) rfl
theorem zmX4_46 : Cond.methodLink RX4 46 yX3_hasRoomForClause ∈ zt := zt_t 660 (by decide +kernel) rfl
theorem zmX4_50 : Cond.methodLink RX4 50 yX6_advance ∈ zt := zt_t 664 (by decide +kernel) rfl
theorem zmX4_60 : Cond.methodLink RX4 60 yX4_readSum ∈ zt := zt_t 665 (by decide +kernel) rfl
theorem zmX4_25 : Cond.methodLink RX4 25 yX6_kind ∈ zt := zt_t 668 (by decide +kernel) rfl
theorem zmX4_107 : Cond.methodLink RX4 107 yX6_number ∈ zt := zt_t 669 (by decide +kernel) rfl
theorem zmX4_97 : Cond.methodLink RX4 97 yX3_hasRoomForPart ∈ zt := zt_t 670 (by decide +kernel) rfl
theorem zmX4_113 : Cond.methodLink RX4 113 yX3_asOperand ∈ zt := zt_t 674 (by decide +kernel) rfl
theorem zmX4_117 : Cond.methodLink RX4 117 yX3_addValue ∈ zt := zt_t 677 (by decide +kernel) rfl
theorem zmX4_121 : Cond.methodLink RX4 121 yX4_isJoin ∈ zt := zt_t 681 (by decide +kernel) rfl
theorem zmX4_66 : Cond.methodLink RX4 66 yX4_readTest ∈ zt := zt_t 686 (by decide +kernel) rfl
theorem zmX4_74 : Cond.methodLink RX4 74 yX4_readFact ∈ zt := zt_t 689 (by decide +kernel) rfl
theorem zmX4_91 : Cond.methodLink RX4 91 yX4_readComparison ∈ zt := zt_t 694 (by decide +kernel) rfl
theorem zmX4_94 : Cond.methodLink RX4 94 yX4_isComparison ∈ zt := zt_t 697 (by decide +kernel) rfl
theorem zmX4_100 : Cond.methodLink RX4 100 yX3_addFact ∈ zt := zt_t 700 (by decide +kernel) rfl
theorem zmX4_104 : Cond.methodLink RX4 104 yX3_closeFact ∈ zt := zt_t 704 (by decide +kernel) rfl
theorem zmX4_84 : Cond.methodLink RX4 84 yX3_addStep ∈ zt := zt_t 708 (by decide +kernel) rfl
theorem zmX4_29 : Cond.methodLink RX4 29 yX6_passes ∈ zt := zt_t 712 (by decide +kernel) rfl
theorem zmX4_77 : Cond.methodLink RX4 77 yX4_isAndOr ∈ zt := zt_t 713 (by decide +kernel) rfl
theorem zmX4_70 : Cond.methodLink RX4 70 yX3_addClause ∈ zt := zt_t 720 (by decide +kernel) rfl
theorem zmL_32 : Cond.methodLink RL 32 yX11_force ∈ zt := zt_t 724 (by decide +kernel) rfl
theorem zmL_36 : Cond.methodLink RL 36 yX11_ship ∈ zt := zt_t 728 (by decide +kernel) rfl
theorem zmX11_115 : Cond.methodLink RX11 115 yX10_hasShip ∈ zt := zt_t 732 (by decide +kernel) rfl
theorem zmX11_122 : Cond.methodLink RX11 122 yX5_detail ∈ zt := zt_t 736 (by decide +kernel) rfl
theorem zmL_41 : Cond.methodLink RL 41 yX11_town ∈ zt := zt_t 740 (by decide +kernel) rfl
theorem zmX11_128 : Cond.methodLink RX11 128 yX10_hasTown ∈ zt := zt_t 744 (by decide +kernel) rfl
theorem zmX11_131 : Cond.methodLink RX11 131 yX10_blocksFor ∈ zt := zt_t 745 (by decide +kernel) rfl
theorem zmX11_138 : Cond.methodLink RX11 138 yX7_detail ∈ zt := zt_t 749 (by decide +kernel) rfl
theorem zmL_45 : Cond.methodLink RL 45 yX11_month ∈ zt := zt_t 753 (by decide +kernel) rfl
theorem zmX11_148 : Cond.methodLink RX11 148 yX11_keepPast ∈ zt := zt_t 757 (by decide +kernel) rfl
theorem zmX11_203 : Cond.methodLink RX11 203 yX10_copyFrom ∈ zt := zt_t 761 (by decide +kernel) rfl
theorem zmX11_315 : Cond.methodLink RX11 315 yJ9_min_7cf53 ∈ zt := zt_t 762 (by decide +kernel) rfl
theorem zmX11_151 : Cond.methodLink RX11 151 yX11_ruleInForce ∈ zt := zt_t 765 (by decide +kernel) rfl
theorem zmX11_155 : Cond.methodLink RX11 155 yX10_passMonth ∈ zt := zt_t 769 (by decide +kernel) rfl
theorem zmX10_84 : Cond.methodLink RX10 84 yX10_isAtHome ∈ zt := zt_t 773 (by decide +kernel) rfl
theorem zmX10_68 : Cond.methodLink RX10 68 yX10_hasShip ∈ zt := zt_t 777 (by decide +kernel) rfl
theorem zmX10_123 : Cond.methodLink RX10 123 yX10_sailByRule ∈ zt := zt_t 778 (by decide +kernel) rfl
theorem zmX10_142 : Cond.methodLink RX10 142 yX3_blocksWished ∈ zt := zt_t 782 (by decide +kernel) rfl
theorem zmX3_64 : Cond.methodLink RX3 64 yX3_fillWords ∈ zt := zt_t 786 (by decide +kernel) rfl
theorem zmX3_76 : Cond.methodLink RX3 76 yX10_hasShip ∈ zt := zt_t 790 (by decide +kernel) rfl
theorem zmX3_82 : Cond.methodLink RX3 82 yX10_hasTown ∈ zt := zt_t 791 (by decide +kernel) rfl
theorem zmX3_106 : Cond.methodLink RX3 106 yX10_blocksFor ∈ zt := zt_t 792 (by decide +kernel) rfl
theorem zmX3_68 : Cond.methodLink RX3 68 yX3_holds ∈ zt := zt_t 793 (by decide +kernel) rfl
theorem zmX3_72 : Cond.methodLink RX3 72 yX3_sumOf ∈ zt := zt_t 798 (by decide +kernel) rfl
theorem zmX3_134 : Cond.methodLink RX3 134 yX3_isSo ∈ zt := zt_t 802 (by decide +kernel) rfl
theorem zmX10_116 : Cond.methodLink RX10 116 yX10_mostBlocks ∈ zt := zt_t 805 (by decide +kernel) rfl
theorem zmX10_93 : Cond.methodLink RX10 93 yJ9_min_7cf53 ∈ zt := zt_t 809 (by decide +kernel) rfl
theorem zmX10_148 : Cond.methodLink RX10 148 yJ9_min_f86c9 ∈ zt := zt_t 810 (by decide +kernel) rfl
theorem zmX10_151 : Cond.methodLink RX10 151 yX10_setSail ∈ zt := zt_t 813 (by decide +kernel) rfl
theorem zmX10_99 : Cond.methodLink RX10 99 yX10_hasTown ∈ zt := zt_t 817 (by decide +kernel) rfl
theorem zmX10_106 : Cond.methodLink RX10 106 yX10_fare ∈ zt := zt_t 818 (by decide +kernel) rfl
theorem zmX10_127 : Cond.methodLink RX10 127 yX10_growPond ∈ zt := zt_t 822 (by decide +kernel) rfl
theorem zmX10_155 : Cond.methodLink RX10 155 yJ9_floorMod_7cf53 ∈ zt := zt_t 826 (by decide +kernel) rfl
theorem zmX10_158 : Cond.methodLink RX10 158 yX7_melted ∈ zt := zt_t 829 (by decide +kernel) rfl
theorem zmX10_131 : Cond.methodLink RX10 131 yX10_moveShip ∈ zt := zt_t 832 (by decide +kernel) rfl
theorem zmX10_161 : Cond.methodLink RX10 161 yX7_heatFor ∈ zt := zt_t 836 (by decide +kernel) rfl
theorem zmX10_165 : Cond.methodLink RX10 165 yX5_unload ∈ zt := zt_t 840 (by decide +kernel) rfl
theorem zmX10_134 : Cond.methodLink RX10 134 yX7_sellMonth ∈ zt := zt_t 844 (by decide +kernel) rfl
theorem zmX7_46 : Cond.methodLink RX7 46 yJ9_min_7cf53 ∈ zt := zt_t 848 (by decide +kernel) rfl
theorem zmX7_34 : Cond.methodLink RX7 34 yX7_heatFor ∈ zt := zt_t 849 (by decide +kernel) rfl
theorem zmX7_38 : Cond.methodLink RX7 38 yX7_melted ∈ zt := zt_t 850 (by decide +kernel) rfl
theorem zmX7_51 : Cond.methodLink RX7 51 yJ9_max_7cf53 ∈ zt := zt_t 851 (by decide +kernel) rfl
theorem zmL_49 : Cond.methodLink RL 49 yX11_sail ∈ zt := zt_t 853 (by decide +kernel) rfl
theorem zmX11_159 : Cond.methodLink RX11 159 yX10_canSail ∈ zt := zt_t 857 (by decide +kernel) rfl
theorem zmX11_163 : Cond.methodLink RX11 163 yX10_setSail ∈ zt := zt_t 862 (by decide +kernel) rfl
theorem zmL_54 : Cond.methodLink RL 54 yX11_teach ∈ zt := zt_t 863 (by decide +kernel) rfl
theorem zmX11_173 : Cond.methodLink RX11 173 yX7_giveAway ∈ zt := zt_t 867 (by decide +kernel) rfl
theorem zmL_58 : Cond.methodLink RL 58 yX11_build ∈ zt := zt_t 871 (by decide +kernel) rfl
theorem zmX11_179 : Cond.methodLink RX11 179 yX10_canBuild ∈ zt := zt_t 875 (by decide +kernel) rfl
theorem zmX11_182 : Cond.methodLink RX11 182 yX10_putHouse ∈ zt := zt_t 879 (by decide +kernel) rfl
theorem zmL_62 : Cond.methodLink RL 62 yX11_ask ∈ zt := zt_t 883 (by decide +kernel) rfl
theorem zmX11_188 : Cond.methodLink RX11 188 yX7_setPrice ∈ zt := zt_t 887 (by decide +kernel) rfl
theorem zmL_66 : Cond.methodLink RL 66 yX11_undo ∈ zt := zt_t 891 (by decide +kernel) rfl
theorem zmX11_197 : Cond.methodLink RX11 197 yJ9_floorMod_7cf53 ∈ zt := zt_t 895 (by decide +kernel) rfl
theorem zmL_70 : Cond.methodLink RL 70 yX11_ahead ∈ zt := zt_t 896 (by decide +kernel) rfl
theorem zmX11_206 : Cond.methodLink RX11 206 yX2_worldAfter ∈ zt := zt_t 900 (by decide +kernel) rfl
theorem zmX2_39 : Cond.methodLink RX2 39 yX10_copyFrom ∈ zt := zt_t 904 (by decide +kernel) rfl
theorem zmX2_43 : Cond.methodLink RX2 43 yX10_passMonth ∈ zt := zt_t 905 (by decide +kernel) rfl
theorem zmL_75 : Cond.methodLink RL 75 yX11_comes ∈ zt := zt_t 906 (by decide +kernel) rfl
theorem zmX11_213 : Cond.methodLink RX11 213 yX7_arriving ∈ zt := zt_t 910 (by decide +kernel) rfl
theorem zmL_80 : Cond.methodLink RL 80 yX11_load ∈ zt := zt_t 914 (by decide +kernel) rfl
theorem zmX11_217 : Cond.methodLink RX11 217 yX7_firstLoad ∈ zt := zt_t 918 (by decide +kernel) rfl
theorem zmX7_42 : Cond.methodLink RX7 42 yX7_arriving ∈ zt := zt_t 922 (by decide +kernel) rfl
theorem zmL_84 : Cond.methodLink RL 84 yX11_send ∈ zt := zt_t 923 (by decide +kernel) rfl
theorem zmX11_220 : Cond.methodLink RX11 220 yX10_isAtHome ∈ zt := zt_t 927 (by decide +kernel) rfl
theorem zmX11_223 : Cond.methodLink RX11 223 yX2_isSpan ∈ zt := zt_t 928 (by decide +kernel) rfl
theorem zmX11_226 : Cond.methodLink RX11 226 yX2_knows ∈ zt := zt_t 932 (by decide +kernel) rfl
theorem zmX11_229 : Cond.methodLink RX11 229 yX2_findSend ∈ zt := zt_t 936 (by decide +kernel) rfl
theorem zmX2_54 : Cond.methodLink RX2 54 yX2_worldAfter ∈ zt := zt_t 940 (by decide +kernel) rfl
theorem zmX2_50 : Cond.methodLink RX2 50 yX2_setBest ∈ zt := zt_t 941 (by decide +kernel) rfl
theorem zmX2_58 : Cond.methodLink RX2 58 yX10_mostBlocks ∈ zt := zt_t 945 (by decide +kernel) rfl
theorem zmX2_65 : Cond.methodLink RX2 65 yX10_canSail ∈ zt := zt_t 946 (by decide +kernel) rfl
theorem zmX2_69 : Cond.methodLink RX2 69 yX10_setSail ∈ zt := zt_t 947 (by decide +kernel) rfl
theorem zmX2_73 : Cond.methodLink RX2 73 yX2_moneyThen ∈ zt := zt_t 948 (by decide +kernel) rfl
theorem zmX2_77 : Cond.methodLink RX2 77 yX2_keepBetter ∈ zt := zt_t 952 (by decide +kernel) rfl
theorem zmL_88 : Cond.methodLink RL 88 yX11_fleet ∈ zt := zt_t 956 (by decide +kernel) rfl
theorem zmX11_237 : Cond.methodLink RX11 237 yX2_findFleet ∈ zt := zt_t 960 (by decide +kernel) rfl
theorem zmX2_80 : Cond.methodLink RX2 80 yX2_sailsRow ∈ zt := zt_t 964 (by decide +kernel) rfl
theorem zmL_92 : Cond.methodLink RL 92 yX11_give ∈ zt := zt_t 968 (by decide +kernel) rfl
theorem zmX11_241 : Cond.methodLink RX11 241 yX2_findGift ∈ zt := zt_t 972 (by decide +kernel) rfl
theorem zmX2_84 : Cond.methodLink RX2 84 yX10_hasTown ∈ zt := zt_t 976 (by decide +kernel) rfl
theorem zmX2_97 : Cond.methodLink RX2 97 yX7_giveAway ∈ zt := zt_t 977 (by decide +kernel) rfl
theorem zmL_96 : Cond.methodLink RL 96 yX11_site ∈ zt := zt_t 978 (by decide +kernel) rfl
theorem zmX11_244 : Cond.methodLink RX11 244 yX2_findSite ∈ zt := zt_t 982 (by decide +kernel) rfl
theorem zmX2_101 : Cond.methodLink RX2 101 yX10_canBuild ∈ zt := zt_t 986 (by decide +kernel) rfl
theorem zmX2_104 : Cond.methodLink RX2 104 yX10_putHouse ∈ zt := zt_t 987 (by decide +kernel) rfl
theorem zmL_100 : Cond.methodLink RL 100 yX11_pricing ∈ zt := zt_t 988 (by decide +kernel) rfl
theorem zmX11_247 : Cond.methodLink RX11 247 yX2_findPrice ∈ zt := zt_t 992 (by decide +kernel) rfl
theorem zmX2_107 : Cond.methodLink RX2 107 yX7_setPrice ∈ zt := zt_t 996 (by decide +kernel) rfl
theorem zmL_104 : Cond.methodLink RL 104 yX11_war ∈ zt := zt_t 997 (by decide +kernel) rfl
theorem zmX11_250 : Cond.methodLink RX11 250 yX2_findPeace ∈ zt := zt_t 1001 (by decide +kernel) rfl
theorem zmX2_110 : Cond.methodLink RX2 110 yX2_forget ∈ zt := zt_t 1005 (by decide +kernel) rfl
theorem zmX2_113 : Cond.methodLink RX2 113 yX2_isContent ∈ zt := zt_t 1006 (by decide +kernel) rfl
theorem zmX2_117 : Cond.methodLink RX2 117 yX2_gainOf ∈ zt := zt_t 1009 (by decide +kernel) rfl
theorem zmX2_124 : Cond.methodLink RX2 124 yJ9_max_7cf53 ∈ zt := zt_t 1012 (by decide +kernel) rfl
theorem zmL_108 : Cond.methodLink RL 108 yX11_out ∈ zt := zt_t 1013 (by decide +kernel) rfl
theorem zmX11_254 : Cond.methodLink RX11 254 yX2_monthOut ∈ zt := zt_t 1017 (by decide +kernel) rfl
theorem zmX2_133 : Cond.methodLink RX2 133 yX10_isOut ∈ zt := zt_t 1021 (by decide +kernel) rfl
theorem zmL_112 : Cond.methodLink RL 112 yX11_hatch ∈ zt := zt_t 1025 (by decide +kernel) rfl
theorem zmX11_258 : Cond.methodLink RX11 258 yX2_findFirstBlocks ∈ zt := zt_t 1029 (by decide +kernel) rfl
theorem zmX2_140 : Cond.methodLink RX2 140 yX7_arriving ∈ zt := zt_t 1033 (by decide +kernel) rfl
theorem zmL_117 : Cond.methodLink RL 117 yX11_note ∈ zt := zt_t 1034 (by decide +kernel) rfl
theorem zmX11_266 : Cond.methodLink RX11 266 yX0_addNote ∈ zt := zt_t 1039 (by decide +kernel) rfl
theorem zmL_121 : Cond.methodLink RL 121 yX11_ruled ∈ zt := zt_t 1043 (by decide +kernel) rfl
theorem zmX11_270 : Cond.methodLink RX11 270 yX1_fill ∈ zt := zt_t 1047 (by decide +kernel) rfl
theorem zmX1_32 : Cond.methodLink RX1 32 yX1_fillRow ∈ zt := zt_t 1051 (by decide +kernel) rfl
theorem zmX1_40 : Cond.methodLink RX1 40 yX10_copyFrom ∈ zt := zt_t 1055 (by decide +kernel) rfl
theorem zmX1_48 : Cond.methodLink RX1 48 yX10_passMonth ∈ zt := zt_t 1056 (by decide +kernel) rfl
theorem zmX1_36 : Cond.methodLink RX1 36 yX1_agrees ∈ zt := zt_t 1057 (by decide +kernel) rfl
theorem zmX11_274 : Cond.methodLink RX11 274 yX1_fitting ∈ zt := zt_t 1061 (by decide +kernel) rfl
theorem zmX11_278 : Cond.methodLink RX11 278 yX1_firstFitting ∈ zt := zt_t 1065 (by decide +kernel) rfl
theorem zmL_125 : Cond.methodLink RL 125 yX11_look ∈ zt := zt_t 1069 (by decide +kernel) rfl
theorem zmX11_281 : Cond.methodLink RX11 281 yX1_partingMonth ∈ zt := zt_t 1073 (by decide +kernel) rfl
theorem zmX1_66 : Cond.methodLink RX1 66 yX1_mostAlike ∈ zt := zt_t 1077 (by decide +kernel) rfl
theorem zmX1_70 : Cond.methodLink RX1 70 yJ9_max_7cf53 ∈ zt := zt_t 1081 (by decide +kernel) rfl
theorem zmX11_284 : Cond.methodLink RX11 284 yX1_mostAlike ∈ zt := zt_t 1082 (by decide +kernel) rfl
theorem zmL_129 : Cond.methodLink RL 129 yX11_seed ∈ zt := zt_t 1083 (by decide +kernel) rfl
theorem zmL_133 : Cond.methodLink RL 133 yX11_years ∈ zt := zt_t 1087 (by decide +kernel) rfl
theorem zmX11_290 : Cond.methodLink RX11 290 yX2_drawYears ∈ zt := zt_t 1091 (by decide +kernel) rfl
theorem zmL_137 : Cond.methodLink RL 137 yX11_count ∈ zt := zt_t 1100 (by decide +kernel) rfl
theorem zmX11_300 : Cond.methodLink RX11 300 yX10_homeBits ∈ zt := zt_t 1104 (by decide +kernel) rfl
theorem zmX11_303 : Cond.methodLink RX11 303 yX10_blocksAtSea ∈ zt := zt_t 1108 (by decide +kernel) rfl
theorem zmX11_306 : Cond.methodLink RX11 306 yX10_soldSoFar ∈ zt := zt_t 1112 (by decide +kernel) rfl
theorem zmX11_309 : Cond.methodLink RX11 309 yX10_houseBits ∈ zt := zt_t 1116 (by decide +kernel) rfl
theorem zmL_141 : Cond.methodLink RL 141 yX11_image ∈ zt := zt_t 1120 (by decide +kernel) rfl
theorem zmX11_312 : Cond.methodLink RX11 312 yX0_copyFrom ∈ zt := zt_t 1124 (by decide +kernel) rfl
theorem zmL_145 : Cond.methodLink RL 145 yX11_back ∈ zt := zt_t 1129 (by decide +kernel) rfl
theorem zmL_12 : Cond.methodLink RL 12 yX12_init ∈ zt := zt_t 1135 (by decide +kernel) rfl
theorem zmL_17 : Cond.methodLink RL 17 yX12_feed ∈ zt := zt_t 1242 (by decide +kernel) rfl
theorem zmX12_77 : Cond.methodLink RX12 77 yX12_four ∈ zt := zt_t 1246 (by decide +kernel) rfl
theorem zmL_22 : Cond.methodLink RL 22 yX12_end ∈ zt := zt_t 1250 (by decide +kernel) rfl
theorem zmL_31 : Cond.methodLink RL 31 yX12_rule ∈ zt := zt_t 1254 (by decide +kernel) rfl
theorem zmX12_257 : Cond.methodLink RX12 257 yX12_readsAll ∈ zt := zt_t 1258 (by decide +kernel) rfl
theorem zmX12_251 : Cond.methodLink RX12 251 yX12_clauseHere ∈ zt := zt_t 1262 (by decide +kernel) rfl
theorem zmX12_87 : Cond.methodLink RX12 87 yX12_see ∈ zt := zt_t 1266 (by decide +kernel) rfl
theorem zmX12_237 : Cond.methodLink RX12 237 yX12_isTradeWord ∈ zt := zt_t 1270 (by decide +kernel) rfl
theorem zmX12_95 : Cond.methodLink RX12 95 yX12_isWord ∈ zt := zt_t 1275 (by decide +kernel) rfl
theorem zmX12_91 : Cond.methodLink RX12 91 yX12_isLetter ∈ zt := zt_t 1279 (by decide +kernel) rfl
theorem zmX12_105 : Cond.methodLink RX12 105 yX12_fails ∈ zt := zt_t 1288 (by decide +kernel) rfl
theorem zmX12_245 : Cond.methodLink RX12 245 yX12_tradeLineHere ∈ zt := zt_t 1292 (by decide +kernel) rfl
theorem zmX12_220 : Cond.methodLink RX12 220 yX12_isTradeHere ∈ zt := zt_t 1296 (by decide +kernel) rfl
theorem zmX12_99 : Cond.methodLink RX12 99 yX12_passWord ∈ zt := zt_t 1300 (by decide +kernel) rfl
theorem zmX12_214 : Cond.methodLink RX12 214 yX12_cellHere ∈ zt := zt_t 1304 (by decide +kernel) rfl
theorem zmX12_163 : Cond.methodLink RX12 163 yX12_numberHere ∈ zt := zt_t 1308 (by decide +kernel) rfl
theorem zmX12_102 : Cond.methodLink RX12 102 yX12_isDigit ∈ zt := zt_t 1312 (by decide +kernel) rfl
theorem zmX12_112 : Cond.methodLink RX12 112 yX12_in ∈ zt := zt_t 1316 (by decide +kernel) rfl
theorem zmX12_225 : Cond.methodLink RX12 225 yX12_isFrostHere ∈ zt := zt_t 1319 (by decide +kernel) rfl
theorem zmX12_228 : Cond.methodLink RX12 228 yX12_isShipHere ∈ zt := zt_t 1323 (by decide +kernel) rfl
theorem zmX12_231 : Cond.methodLink RX12 231 yX12_isTownHere ∈ zt := zt_t 1327 (by decide +kernel) rfl
theorem zmX12_234 : Cond.methodLink RX12 234 yX12_isHouseHere ∈ zt := zt_t 1331 (by decide +kernel) rfl
theorem zmX12_248 : Cond.methodLink RX12 248 yX12_isSailHere ∈ zt := zt_t 1335 (by decide +kernel) rfl
theorem zmX12_179 : Cond.methodLink RX12 179 yX12_sum ∈ zt := zt_t 1339 (by decide +kernel) rfl
theorem zmX12_176 : Cond.methodLink RX12 176 yX12_term ∈ zt := zt_t 1343 (by decide +kernel) rfl
theorem zmX12_172 : Cond.methodLink RX12 172 yX12_value ∈ zt := zt_t 1347 (by decide +kernel) rfl
theorem zmX12_166 : Cond.methodLink RX12 166 yX12_makes ∈ zt := zt_t 1352 (by decide +kernel) rfl
theorem zmX12_158 : Cond.methodLink RX12 158 yX12_puts ∈ zt := zt_t 1356 (by decide +kernel) rfl
theorem zmX12_169 : Cond.methodLink RX12 169 yX12_wordHere ∈ zt := zt_t 1360 (by decide +kernel) rfl
theorem zmX12_208 : Cond.methodLink RX12 208 yX12_takesWord ∈ zt := zt_t 1375 (by decide +kernel) rfl
theorem zmX12_211 : Cond.methodLink RX12 211 yX12_tested ∈ zt := zt_t 1379 (by decide +kernel) rfl
theorem zmX12_196 : Cond.methodLink RX12 196 yX12_fact ∈ zt := zt_t 1383 (by decide +kernel) rfl
theorem zmX12_184 : Cond.methodLink RX12 184 yX12_opens ∈ zt := zt_t 1388 (by decide +kernel) rfl
theorem zmX12_187 : Cond.methodLink RX12 187 yX12_compare ∈ zt := zt_t 1392 (by decide +kernel) rfl
theorem zmX12_199 : Cond.methodLink RX12 199 yX12_closes ∈ zt := zt_t 1396 (by decide +kernel) rfl
theorem zmX12_190 : Cond.methodLink RX12 190 yX12_settles ∈ zt := zt_t 1400 (by decide +kernel) rfl
theorem zmX12_154 : Cond.methodLink RX12 154 yX12_strength ∈ zt := zt_t 1404 (by decide +kernel) rfl
theorem zmX12_193 : Cond.methodLink RX12 193 yX12_isInside ∈ zt := zt_t 1407 (by decide +kernel) rfl
theorem zmL_27 : Cond.methodLink RL 27 yX12_trade ∈ zt := zt_t 1413 (by decide +kernel) rfl
theorem zmX12_260 : Cond.methodLink RX12 260 yX12_begins ∈ zt := zt_t 1417 (by decide +kernel) rfl
theorem zmL_35 : Cond.methodLink RL 35 yX12_force ∈ zt := zt_t 1421 (by decide +kernel) rfl
theorem zmX12_285 : Cond.methodLink RX12 285 yX12_isRule ∈ zt := zt_t 1425 (by decide +kernel) rfl
theorem zmL_40 : Cond.methodLink RL 40 yX12_ship ∈ zt := zt_t 1429 (by decide +kernel) rfl
theorem zmX12_288 : Cond.methodLink RX12 288 yX12_isShip ∈ zt := zt_t 1433 (by decide +kernel) rfl
theorem zmX12_293 : Cond.methodLink RX12 293 yX12_holdOf ∈ zt := zt_t 1438 (by decide +kernel) rfl
theorem zmX12_296 : Cond.methodLink RX12 296 yX12_costOf ∈ zt := zt_t 1442 (by decide +kernel) rfl
theorem zmX12_281 : Cond.methodLink RX12 281 yX12_shipOf ∈ zt := zt_t 1446 (by decide +kernel) rfl
theorem zmL_44 : Cond.methodLink RL 44 yX12_town ∈ zt := zt_t 1450 (by decide +kernel) rfl
theorem zmX12_299 : Cond.methodLink RX12 299 yX12_isTown ∈ zt := zt_t 1454 (by decide +kernel) rfl
theorem zmX12_302 : Cond.methodLink RX12 302 yX12_monthsTo ∈ zt := zt_t 1458 (by decide +kernel) rfl
theorem zmX12_305 : Cond.methodLink RX12 305 yX12_heatOf ∈ zt := zt_t 1462 (by decide +kernel) rfl
theorem zmX12_308 : Cond.methodLink RX12 308 yX12_townOf ∈ zt := zt_t 1466 (by decide +kernel) rfl
theorem zmX12_311 : Cond.methodLink RX12 311 yX12_coming ∈ zt := zt_t 1470 (by decide +kernel) rfl
theorem zmL_69 : Cond.methodLink RL 69 yX12_undo ∈ zt := zt_t 1474 (by decide +kernel) rfl
theorem zmL_48 : Cond.methodLink RL 48 yX12_month ∈ zt := zt_t 1478 (by decide +kernel) rfl
theorem zmX12_357 : Cond.methodLink RX12 357 yX12_isTrade ∈ zt := zt_t 1482 (by decide +kernel) rfl
theorem zmX12_360 : Cond.methodLink RX12 360 yX12_keepsAct ∈ zt := zt_t 1486 (by decide +kernel) rfl
theorem zmX12_363 : Cond.methodLink RX12 363 yX12_passes ∈ zt := zt_t 1490 (by decide +kernel) rfl
theorem zmX12_342 : Cond.methodLink RX12 342 yX12_isHome ∈ zt := zt_t 1494 (by decide +kernel) rfl
theorem zmX12_345 : Cond.methodLink RX12 345 yX12_sailsBy ∈ zt := zt_t 1498 (by decide +kernel) rfl
theorem zmX12_324 : Cond.methodLink RX12 324 yX12_words ∈ zt := zt_t 1502 (by decide +kernel) rfl
theorem zmX12_327 : Cond.methodLink RX12 327 yX12_summedBy ∈ zt := zt_t 1506 (by decide +kernel) rfl
theorem zmX12_317 : Cond.methodLink RX12 317 yX12_reckons ∈ zt := zt_t 1510 (by decide +kernel) rfl
theorem zmX12_269 : Cond.methodLink RX12 269 yX12_push ∈ zt := zt_t 1514 (by decide +kernel) rfl
theorem zmX12_273 : Cond.methodLink RX12 273 yX12_pop ∈ zt := zt_t 1518 (by decide +kernel) rfl
theorem zmX12_277 : Cond.methodLink RX12 277 yX12_one ∈ zt := zt_t 1522 (by decide +kernel) rfl
theorem zmX12_331 : Cond.methodLink RX12 331 yX12_mostFor ∈ zt := zt_t 1525 (by decide +kernel) rfl
theorem zmX12_321 : Cond.methodLink RX12 321 yX12_atMost ∈ zt := zt_t 1529 (by decide +kernel) rfl
theorem zmX12_334 : Cond.methodLink RX12 334 yX12_sails ∈ zt := zt_t 1532 (by decide +kernel) rfl
theorem zmX12_348 : Cond.methodLink RX12 348 yX12_grows ∈ zt := zt_t 1536 (by decide +kernel) rfl
theorem zmX12_314 : Cond.methodLink RX12 314 yX12_melted ∈ zt := zt_t 1540 (by decide +kernel) rfl
theorem zmX12_351 : Cond.methodLink RX12 351 yX12_moves ∈ zt := zt_t 1543 (by decide +kernel) rfl
theorem zmX12_338 : Cond.methodLink RX12 338 yX12_atSea ∈ zt := zt_t 1547 (by decide +kernel) rfl
theorem zmX12_354 : Cond.methodLink RX12 354 yX12_sells ∈ zt := zt_t 1551 (by decide +kernel) rfl
theorem zmL_53 : Cond.methodLink RL 53 yX12_sail ∈ zt := zt_t 1555 (by decide +kernel) rfl
theorem zmX12_368 : Cond.methodLink RX12 368 yX12_canSail ∈ zt := zt_t 1560 (by decide +kernel) rfl
theorem zmL_57 : Cond.methodLink RL 57 yX12_teach ∈ zt := zt_t 1564 (by decide +kernel) rfl
theorem zmX12_372 : Cond.methodLink RX12 372 yX12_teaches ∈ zt := zt_t 1568 (by decide +kernel) rfl
theorem zmL_61 : Cond.methodLink RL 61 yX12_build ∈ zt := zt_t 1572 (by decide +kernel) rfl
theorem zmX12_375 : Cond.methodLink RX12 375 yX12_canBuild ∈ zt := zt_t 1576 (by decide +kernel) rfl
theorem zmX12_378 : Cond.methodLink RX12 378 yX12_builds ∈ zt := zt_t 1580 (by decide +kernel) rfl
theorem zmL_65 : Cond.methodLink RL 65 yX12_ask ∈ zt := zt_t 1584 (by decide +kernel) rfl
theorem zmX12_381 : Cond.methodLink RX12 381 yX12_asks ∈ zt := zt_t 1588 (by decide +kernel) rfl
theorem zmL_74 : Cond.methodLink RL 74 yX12_ahead ∈ zt := zt_t 1592 (by decide +kernel) rfl
theorem zmX12_388 : Cond.methodLink RX12 388 yX12_keeps ∈ zt := zt_t 1598 (by decide +kernel) rfl
theorem zmX12_391 : Cond.methodLink RX12 391 yX12_laysBack ∈ zt := zt_t 1602 (by decide +kernel) rfl
theorem zmL_79 : Cond.methodLink RL 79 yX12_comes ∈ zt := zt_t 1606 (by decide +kernel) rfl
theorem zmX12_396 : Cond.methodLink RX12 396 yX12_comesOf ∈ zt := zt_t 1611 (by decide +kernel) rfl
theorem zmL_83 : Cond.methodLink RL 83 yX12_load ∈ zt := zt_t 1615 (by decide +kernel) rfl
theorem zmL_87 : Cond.methodLink RL 87 yX12_send ∈ zt := zt_t 1619 (by decide +kernel) rfl
theorem zmX12_401 : Cond.methodLink RX12 401 yX12_moneyIn ∈ zt := zt_t 1624 (by decide +kernel) rfl
theorem zmL_91 : Cond.methodLink RL 91 yX12_fleet ∈ zt := zt_t 1628 (by decide +kernel) rfl
theorem zmX12_404 : Cond.methodLink RX12 404 yX12_power ∈ zt := zt_t 1632 (by decide +kernel) rfl
theorem zmX12_407 : Cond.methodLink RX12 407 yX12_townIn ∈ zt := zt_t 1635 (by decide +kernel) rfl
theorem zmL_95 : Cond.methodLink RL 95 yX12_give ∈ zt := zt_t 1639 (by decide +kernel) rfl
theorem zmL_99 : Cond.methodLink RL 99 yX12_site ∈ zt := zt_t 1643 (by decide +kernel) rfl
theorem zmL_103 : Cond.methodLink RL 103 yX12_pricing ∈ zt := zt_t 1647 (by decide +kernel) rfl
theorem zmL_107 : Cond.methodLink RL 107 yX12_war ∈ zt := zt_t 1651 (by decide +kernel) rfl
theorem zmX12_419 : Cond.methodLink RX12 419 yX12_isRest ∈ zt := zt_t 1656 (by decide +kernel) rfl
theorem zmX12_413 : Cond.methodLink RX12 413 yX12_earns ∈ zt := zt_t 1660 (by decide +kernel) rfl
theorem zmX12_410 : Cond.methodLink RX12 410 yX12_priceBy ∈ zt := zt_t 1664 (by decide +kernel) rfl
theorem zmL_111 : Cond.methodLink RL 111 yX12_out ∈ zt := zt_t 1668 (by decide +kernel) rfl
theorem zmX12_425 : Cond.methodLink RX12 425 yX12_isOut ∈ zt := zt_t 1672 (by decide +kernel) rfl
theorem zmX12_422 : Cond.methodLink RX12 422 yX12_blocksAtSea ∈ zt := zt_t 1676 (by decide +kernel) rfl
theorem zmL_116 : Cond.methodLink RL 116 yX12_hatch ∈ zt := zt_t 1680 (by decide +kernel) rfl
theorem zmL_120 : Cond.methodLink RL 120 yX12_note ∈ zt := zt_t 1684 (by decide +kernel) rfl
theorem zmL_124 : Cond.methodLink RL 124 yX12_ruled ∈ zt := zt_t 1689 (by decide +kernel) rfl
theorem zmX12_433 : Cond.methodLink RX12 433 yX12_fillsFits ∈ zt := zt_t 1693 (by decide +kernel) rfl
theorem zmX12_430 : Cond.methodLink RX12 430 yX12_spot ∈ zt := zt_t 1697 (by decide +kernel) rfl
theorem zmL_128 : Cond.methodLink RL 128 yX12_look ∈ zt := zt_t 1700 (by decide +kernel) rfl
theorem zmX12_436 : Cond.methodLink RX12 436 yX12_alikeAt ∈ zt := zt_t 1704 (by decide +kernel) rfl
theorem zmL_132 : Cond.methodLink RL 132 yX12_seed ∈ zt := zt_t 1708 (by decide +kernel) rfl
theorem zmL_136 : Cond.methodLink RL 136 yX12_years ∈ zt := zt_t 1712 (by decide +kernel) rfl
theorem zmX12_456 : Cond.methodLink RX12 456 yX12_draw ∈ zt := zt_t 1717 (by decide +kernel) rfl
theorem zmL_140 : Cond.methodLink RL 140 yX12_count ∈ zt := zt_t 1725 (by decide +kernel) rfl
theorem zmL_144 : Cond.methodLink RL 144 yX12_image ∈ zt := zt_t 1729 (by decide +kernel) rfl
theorem zmL_148 : Cond.methodLink RL 148 yX12_back ∈ zt := zt_t 1733 (by decide +kernel) rfl
