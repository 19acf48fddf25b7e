/-! TEMPLATES: which cells a constructor makes, in their order: kind, references by offset -/
def zTm5 : List (Nat × List Nat) := [(5, [])]
def zTm7 : List (Nat × List Nat) := [(7, [])]
def zTm8 : List (Nat × List Nat) := [(8, [0, 0, 0, 0, 0, 0, 0, 1, 2, 3]), (30, []), (31, [4, 5, 6]), (32, [7, 8, 9, 10]), (5, []), (5, []), (5, []), (7, []), (7, []), (7, []), (7, [])]
def zTm4 : List (Nat × List Nat) := [(4, [1, 2, 3, 0, 4, 5, 6, 7, 0, 8, 0, 9, 10, 11, 12]), (24, []), (25, []), (25, []), (26, []), (26, []), (25, []), (25, []), (27, []), (28, []), (29, []), (28, []), (29, [])]
def zTm1 : List (Nat × List Nat) := [(1, [1, 12, 0, 0, 23, 24]), (8, [0, 0, 0, 0, 0, 0, 0, 2, 3, 4]), (30, []), (31, [5, 6, 7]), (32, [8, 9, 10, 11]), (5, []), (5, []), (5, []), (7, []), (7, []), (7, []), (7, []), (8, [0, 0, 0, 0, 0, 0, 0, 13, 14, 15]), (30, []), (31, [16, 17, 18]), (32, [19, 20, 21, 22]), (5, []), (5, []), (5, []), (7, []), (7, []), (7, []), (7, []), (33, []), (33, [])]
def zTm2 : List (Nat × List Nat) := [(2, [1, 12, 20]), (8, [0, 0, 0, 0, 0, 0, 0, 2, 3, 4]), (30, []), (31, [5, 6, 7]), (32, [8, 9, 10, 11]), (5, []), (5, []), (5, []), (7, []), (7, []), (7, []), (7, []), (36, [13, 14, 15, 16, 17, 18, 19]), (37, []), (37, []), (37, []), (37, []), (37, []), (37, []), (37, []), (38, [])]
def zTm3 : List (Nat × List Nat) := [(3, [1, 12, 13]), (8, [0, 0, 0, 0, 0, 0, 0, 2, 3, 4]), (30, []), (31, [5, 6, 7]), (32, [8, 9, 10, 11]), (5, []), (5, []), (5, []), (7, []), (7, []), (7, []), (7, []), (34, []), (35, [])]
def zTm6 : List (Nat × List Nat) := [(6, [1, 0, 2, 3, 4, 5, 6]), (20, []), (21, []), (22, []), (43, []), (22, []), (23, [])]
def zTm10 : List (Nat × List Nat) := [(10, [1, 0, 0, 2, 3, 4, 5, 6, 0, 0, 0, 0, 0, 0, 0, 7, 0, 8, 0, 9, 10, 0, 0, 0, 11, 0, 12, 13, 14, 0, 15, 16, 17, 18]), (50, []), (51, []), (52, []), (53, []), (54, []), (55, []), (56, []), (57, []), (58, []), (59, []), (60, []), (61, []), (62, []), (63, []), (64, []), (65, []), (66, []), (67, [])]
def zTm9_0 : List (Nat × List Nat) := [(9, [1, 8, 0, 87, 112, 123, 124, 225, 0, 0, 446, 460]), (6, [2, 0, 3, 4, 5, 6, 7]), (20, []), (21, []), (22, []), (43, []), (22, []), (23, []), (39, [9, 22, 35, 48, 61, 74]), (4, [10, 11, 12, 0, 13, 14, 15, 16, 0, 17, 0, 18, 19, 20, 21]), (24, []), (25, []), (25, []), (26, []), (26, []), (25, []), (25, []), (27, []), (28, []), (29, []), (28, []), (29, []), (4, [23, 24, 25, 0, 26, 27, 28, 29, 0, 30, 0, 31, 32, 33, 34]), (24, []), (25, []), (25, []), (26, []), (26, []), (25, []), (25, []), (27, []), (28, []), (29, []), (28, []), (29, []), (4, [36, 37, 38, 0, 39, 40, 41, 42, 0, 43, 0, 44, 45, 46, 47]), (24, []), (25, []), (25, []), (26, []), (26, []), (25, []), (25, []), (27, []), (28, []), (29, []), (28, []), (29, []), (4, [49, 50, 51, 0, 52, 53, 54, 55, 0, 56, 0, 57, 58, 59, 60]), (24, []), (25, []), (25, []), (26, []), (26, []), (25, []), (25, []), (27, []), (28, []), (29, []), (28, [])]
def zTm9_1 : List (Nat × List Nat) := [(29, []), (4, [62, 63, 64, 0, 65, 66, 67, 68, 0, 69, 0, 70, 71, 72, 73]), (24, []), (25, []), (25, []), (26, []), (26, []), (25, []), (25, []), (27, []), (28, []), (29, []), (28, []), (29, []), (4, [75, 76, 77, 0, 78, 79, 80, 81, 0, 82, 0, 83, 84, 85, 86]), (24, []), (25, []), (25, []), (26, []), (26, []), (25, []), (25, []), (27, []), (28, []), (29, []), (28, []), (29, []), (1, [88, 99, 0, 0, 110, 111]), (8, [0, 0, 0, 0, 0, 0, 0, 89, 90, 91]), (30, []), (31, [92, 93, 94]), (32, [95, 96, 97, 98]), (5, []), (5, []), (5, []), (7, []), (7, []), (7, []), (7, []), (8, [0, 0, 0, 0, 0, 0, 0, 100, 101, 102]), (30, []), (31, [103, 104, 105]), (32, [106, 107, 108, 109]), (5, []), (5, []), (5, []), (7, []), (7, []), (7, []), (7, []), (33, []), (33, []), (8, [0, 0, 0, 0, 0, 0, 0, 113, 114, 115]), (30, []), (31, [116, 117, 118]), (32, [119, 120, 121, 122]), (5, []), (5, []), (5, []), (7, [])]
def zTm9_2 : List (Nat × List Nat) := [(7, []), (7, []), (7, []), (40, [125, 150, 175, 200]), (41, []), (1, [126, 137, 0, 0, 148, 149]), (8, [0, 0, 0, 0, 0, 0, 0, 127, 128, 129]), (30, []), (31, [130, 131, 132]), (32, [133, 134, 135, 136]), (5, []), (5, []), (5, []), (7, []), (7, []), (7, []), (7, []), (8, [0, 0, 0, 0, 0, 0, 0, 138, 139, 140]), (30, []), (31, [141, 142, 143]), (32, [144, 145, 146, 147]), (5, []), (5, []), (5, []), (7, []), (7, []), (7, []), (7, []), (33, []), (33, []), (1, [151, 162, 0, 0, 173, 174]), (8, [0, 0, 0, 0, 0, 0, 0, 152, 153, 154]), (30, []), (31, [155, 156, 157]), (32, [158, 159, 160, 161]), (5, []), (5, []), (5, []), (7, []), (7, []), (7, []), (7, []), (8, [0, 0, 0, 0, 0, 0, 0, 163, 164, 165]), (30, []), (31, [166, 167, 168]), (32, [169, 170, 171, 172]), (5, []), (5, []), (5, []), (7, []), (7, []), (7, []), (7, []), (33, []), (33, []), (1, [176, 187, 0, 0, 198, 199]), (8, [0, 0, 0, 0, 0, 0, 0, 177, 178, 179]), (30, []), (31, [180, 181, 182]), (32, [183, 184, 185, 186])]
def zTm9_3 : List (Nat × List Nat) := [(5, []), (5, []), (5, []), (7, []), (7, []), (7, []), (7, []), (8, [0, 0, 0, 0, 0, 0, 0, 188, 189, 190]), (30, []), (31, [191, 192, 193]), (32, [194, 195, 196, 197]), (5, []), (5, []), (5, []), (7, []), (7, []), (7, []), (7, []), (33, []), (33, []), (1, [201, 212, 0, 0, 223, 224]), (8, [0, 0, 0, 0, 0, 0, 0, 202, 203, 204]), (30, []), (31, [205, 206, 207]), (32, [208, 209, 210, 211]), (5, []), (5, []), (5, []), (7, []), (7, []), (7, []), (7, []), (8, [0, 0, 0, 0, 0, 0, 0, 213, 214, 215]), (30, []), (31, [216, 217, 218]), (32, [219, 220, 221, 222]), (5, []), (5, []), (5, []), (7, []), (7, []), (7, []), (7, []), (33, []), (33, []), (42, [226, 237, 248, 259, 270, 281, 292, 303, 314, 325, 336, 347, 358, 369, 380, 391, 402, 413, 424, 435]), (8, [0, 0, 0, 0, 0, 0, 0, 227, 228, 229]), (30, []), (31, [230, 231, 232]), (32, [233, 234, 235, 236]), (5, []), (5, []), (5, []), (7, []), (7, []), (7, []), (7, []), (8, [0, 0, 0, 0, 0, 0, 0, 238, 239, 240]), (30, []), (31, [241, 242, 243])]
def zTm9_4 : List (Nat × List Nat) := [(32, [244, 245, 246, 247]), (5, []), (5, []), (5, []), (7, []), (7, []), (7, []), (7, []), (8, [0, 0, 0, 0, 0, 0, 0, 249, 250, 251]), (30, []), (31, [252, 253, 254]), (32, [255, 256, 257, 258]), (5, []), (5, []), (5, []), (7, []), (7, []), (7, []), (7, []), (8, [0, 0, 0, 0, 0, 0, 0, 260, 261, 262]), (30, []), (31, [263, 264, 265]), (32, [266, 267, 268, 269]), (5, []), (5, []), (5, []), (7, []), (7, []), (7, []), (7, []), (8, [0, 0, 0, 0, 0, 0, 0, 271, 272, 273]), (30, []), (31, [274, 275, 276]), (32, [277, 278, 279, 280]), (5, []), (5, []), (5, []), (7, []), (7, []), (7, []), (7, []), (8, [0, 0, 0, 0, 0, 0, 0, 282, 283, 284]), (30, []), (31, [285, 286, 287]), (32, [288, 289, 290, 291]), (5, []), (5, []), (5, []), (7, []), (7, []), (7, []), (7, []), (8, [0, 0, 0, 0, 0, 0, 0, 293, 294, 295]), (30, []), (31, [296, 297, 298]), (32, [299, 300, 301, 302]), (5, []), (5, []), (5, []), (7, [])]
def zTm9_5 : List (Nat × List Nat) := [(7, []), (7, []), (7, []), (8, [0, 0, 0, 0, 0, 0, 0, 304, 305, 306]), (30, []), (31, [307, 308, 309]), (32, [310, 311, 312, 313]), (5, []), (5, []), (5, []), (7, []), (7, []), (7, []), (7, []), (8, [0, 0, 0, 0, 0, 0, 0, 315, 316, 317]), (30, []), (31, [318, 319, 320]), (32, [321, 322, 323, 324]), (5, []), (5, []), (5, []), (7, []), (7, []), (7, []), (7, []), (8, [0, 0, 0, 0, 0, 0, 0, 326, 327, 328]), (30, []), (31, [329, 330, 331]), (32, [332, 333, 334, 335]), (5, []), (5, []), (5, []), (7, []), (7, []), (7, []), (7, []), (8, [0, 0, 0, 0, 0, 0, 0, 337, 338, 339]), (30, []), (31, [340, 341, 342]), (32, [343, 344, 345, 346]), (5, []), (5, []), (5, []), (7, []), (7, []), (7, []), (7, []), (8, [0, 0, 0, 0, 0, 0, 0, 348, 349, 350]), (30, []), (31, [351, 352, 353]), (32, [354, 355, 356, 357]), (5, []), (5, []), (5, []), (7, []), (7, []), (7, []), (7, []), (8, [0, 0, 0, 0, 0, 0, 0, 359, 360, 361]), (30, [])]
def zTm9_6 : List (Nat × List Nat) := [(31, [362, 363, 364]), (32, [365, 366, 367, 368]), (5, []), (5, []), (5, []), (7, []), (7, []), (7, []), (7, []), (8, [0, 0, 0, 0, 0, 0, 0, 370, 371, 372]), (30, []), (31, [373, 374, 375]), (32, [376, 377, 378, 379]), (5, []), (5, []), (5, []), (7, []), (7, []), (7, []), (7, []), (8, [0, 0, 0, 0, 0, 0, 0, 381, 382, 383]), (30, []), (31, [384, 385, 386]), (32, [387, 388, 389, 390]), (5, []), (5, []), (5, []), (7, []), (7, []), (7, []), (7, []), (8, [0, 0, 0, 0, 0, 0, 0, 392, 393, 394]), (30, []), (31, [395, 396, 397]), (32, [398, 399, 400, 401]), (5, []), (5, []), (5, []), (7, []), (7, []), (7, []), (7, []), (8, [0, 0, 0, 0, 0, 0, 0, 403, 404, 405]), (30, []), (31, [406, 407, 408]), (32, [409, 410, 411, 412]), (5, []), (5, []), (5, []), (7, []), (7, []), (7, []), (7, []), (8, [0, 0, 0, 0, 0, 0, 0, 414, 415, 416]), (30, []), (31, [417, 418, 419]), (32, [420, 421, 422, 423]), (5, []), (5, []), (5, [])]
def zTm9_7 : List (Nat × List Nat) := [(7, []), (7, []), (7, []), (7, []), (8, [0, 0, 0, 0, 0, 0, 0, 425, 426, 427]), (30, []), (31, [428, 429, 430]), (32, [431, 432, 433, 434]), (5, []), (5, []), (5, []), (7, []), (7, []), (7, []), (7, []), (8, [0, 0, 0, 0, 0, 0, 0, 436, 437, 438]), (30, []), (31, [439, 440, 441]), (32, [442, 443, 444, 445]), (5, []), (5, []), (5, []), (7, []), (7, []), (7, []), (7, []), (3, [447, 458, 459]), (8, [0, 0, 0, 0, 0, 0, 0, 448, 449, 450]), (30, []), (31, [451, 452, 453]), (32, [454, 455, 456, 457]), (5, []), (5, []), (5, []), (7, []), (7, []), (7, []), (7, []), (34, []), (35, []), (2, [461, 472, 480]), (8, [0, 0, 0, 0, 0, 0, 0, 462, 463, 464]), (30, []), (31, [465, 466, 467]), (32, [468, 469, 470, 471]), (5, []), (5, []), (5, []), (7, []), (7, []), (7, []), (7, []), (36, [473, 474, 475, 476, 477, 478, 479]), (37, []), (37, []), (37, []), (37, []), (37, []), (37, []), (37, [])]
def zTm9_8 : List (Nat × List Nat) := [(38, [])]
def zTm9 : List (Nat × List Nat) := zTm9_0 ++ zTm9_1 ++ zTm9_2 ++ zTm9_3 ++ zTm9_4 ++ zTm9_5 ++ zTm9_6 ++ zTm9_7 ++ zTm9_8
def zTm (k : Nat) : List (Nat × List Nat) := match k with | 1 => zTm1 | 2 => zTm2 | 3 => zTm3 | 4 => zTm4 | 5 => zTm5 | 6 => zTm6 | 7 => zTm7 | 8 => zTm8 | 9 => zTm9 | 10 => zTm10 | _ => []
def zTk (k i : Nat) : Nat := ((zTm k).getD i (0, [])).1
def zTr (k i j : Nat) : Nat := ((zTm k).getD i (0, [])).2.getD j 0
/-- the cells from a on are laid as a constructor of kind k lays them -/
def zLay (X : zq_X) (a k : Nat) : Prop := ∀ i, i < (zTm k).length → zq_k X (a + i) = zTk k i ∧ ∀ j, j < 40 → zq_rk (zTk k i) j ≠ 0 → zq_r X (a + i) j = a + zTr k i j
def zChk (k k2 o : Nat) : Bool := (List.range (zTm k2).length).all (fun i => decide (o + i < (zTm k).length) && (zTk k (o + i) == zTk k2 i) && (List.range 40).all (fun j => (zq_rk (zTk k2 i) j == 0) || (zTr k (o + i) j == o + zTr k2 i j)))
theorem zLay.sub {X : zq_X} {a k : Nat} (h : zLay X a k) (o k2 : Nat) (hc : zChk k k2 o = true) : zLay X (a + o) k2 := by
  intro i hi
  have h1 := List.all_eq_true.mp hc i (List.mem_range.mpr hi)
  simp only [Bool.and_eq_true, decide_eq_true_eq, beq_iff_eq] at h1
  obtain ⟨⟨h2, h3⟩, h4⟩ := h1
  obtain ⟨g1, g2⟩ := h (o + i) h2
  rw [← Nat.add_assoc] at g1 g2
  refine ⟨g1.trans h3, fun j hj hr => ?_⟩
  have h5 := List.all_eq_true.mp h4 j (List.mem_range.mpr hj)
  simp only [Bool.or_eq_true, beq_iff_eq] at h5
  rw [g2 j hj (by rw [h3]; exact hr), h5.resolve_left hr, Nat.add_assoc]
theorem zLay.k {X : zq_X} {a k : Nat} (h : zLay X a k) (i : Nat) {k2 : Nat} (h1 : decide (i < (zTm k).length) = true) (h2 : zTk k i = k2) : zq_k X (a + i) = k2 := (h i (of_decide_eq_true h1)).1.trans h2
theorem zLay.r {X : zq_X} {a k : Nat} (h : zLay X a k) (i j : Nat) {o : Nat} (h1 : (decide (i < (zTm k).length) && decide (j < 40) && decide (zq_rk (zTk k i) j ≠ 0)) = true) (h2 : zTr k i j = o) : zq_r X (a + i) j = a + o := by
  simp only [Bool.and_eq_true, decide_eq_true_eq] at h1
  rw [← h2]; exact (h i h1.1.1).2 j h1.1.2 h1.2
section ZD
variable {p : Program} {l : Launch} {e : Env} {R : Room} {s : State} {m : MethodId} {args : Array Value} {below : List Frame} {meth : Method} {c : Code} {H : Heap} {locs : List Loc} {cells slots : Nat} {Q : State → Prop}
variable {cc : ByteArray} {nL pc : Nat} {ls : Array Slot} {rest : List Value} {w0 : Cond} {own : String} {X : zq_X} {a k j i index : Nat} {V : Nat → Value} {O : List zcO}
theorem zcs.swap {x y : zcO} (h : zcs X k a i V (x :: y :: O) H) : zcs X k a i V (y :: x :: O) H := by
  obtain ⟨h1, h2, h3, h4, h5, h6⟩ := h
  have sw : ∀ q, q ∈ x :: y :: O ↔ q ∈ y :: x :: O := fun q => by simp only [List.mem_cons]; constructor <;> (rintro (h | h | h) <;> simp [h])
  exact ⟨h1, h2, fun q g1 g2 g3 => h3 q g1 g2 fun e he => g3 e ((sw e).mp he), fun e he => h4 e ((sw e).mpr he), h5, h6⟩
theorem zc_aast' {b t N w k3 x' : Nat} {f : Nat → Value} {x : Int32} {C : String} {T : u_T} {N2 : Nat} (E : CallFix p m c cc nL s args (w0 :: zt) own) (hK : zcK X s) (h : zcs X k a i V ((b, t, N, f) :: O) H) (hS : va_S (zcA a) s.heap H locs) (hno : ∀ e ∈ O, e.1 ≠ b) (ht : (zq_tys X)[t]? = some (X.2.1 t, .object C)) (hc : vwCl[k3 - 1]? = some (C, T, N2)) (hk3 : zq_k X w = k3) (h3 : 0 < k3 ∧ k3 < 11) (hw : a < w ∧ w < a + 1 + i ∧ w ≠ b) (hwo : ∀ e ∈ O, e.1 ≠ w) (hx : 0 ≤ x.toInt ∧ x.toInt < (N : Int)) (hx' : x.toNatClampNeg = x') (hdg : decode cc pc = .ok (.aastore, 1))
    (kk : ∀ (H1 : Heap) (locs1 : List Loc), zcs X k a i V ((b, t, N, updV f x' (.ref w)) :: O) H1 → va_S (zcA a) s.heap H1 locs1 → W p l e R s m args below meth c H1 locs1 cells slots Q (F0 m (pc + 1) ls rest)) : W p l e R s m args below meth c H locs cells slots Q (F0 m pc ls (.ref w :: .int x :: .ref b :: rest)) := by
  subst hx'
  exact zc_aast E hK h hS hno ht hc hk3 h3 hw hwo hx hdg kk
/-- a static of Words -/
theorem zc_gets {Cs nm ds : String} {v : Value} (E : CallFix p m c cc nL s args (w0 :: zt) own) (hold : ∀ q, q < (zq_h0 X).size → H[q]? = (zq_h0 X)[q]?) (hv : va_Z Cs nm ds v (zq_A X) s (zq_h0 X)) (hl : Cond.fieldLink own index Cs nm ds ∈ zt) (hdg : decode cc pc = .ok (.getstatic index, 3))
    (kk : W p l e R s m args below meth c H locs cells slots Q (F0 m (pc + 3) ls (v :: rest))) : W p l e R s m args below meth c H locs cells slots Q (F0 m pc ls rest) := by
  obtain ⟨cf, kf, fi, f, a, cell, h1, h2, h3, h4, h5, h6, h7, h8⟩ := hv.kept (H1 := H) (fun q h1 _ => hold q h1)
  exact W.gets E.1 E.2.1 E.2.2.2.1 (E.2.2.2.2 _ (List.mem_cons_of_mem _ hl)) h1 h2 h3 h4 h5 (fun e => by rw [e] at h6; cases h6) h7 rfl hdg kk
/-- a Word is laid into a row -/
theorem zc_aastw {b N w : Nat} {f : Nat → Value} {x : Int32} (E : CallFix p m c cc nL s args (w0 :: zt) own) (hK : zcK X s) (h : zcs X k a i V ((b, 9, N, f) :: O) H) (hS : va_S (zcA a) s.heap H locs) (hno : ∀ e ∈ O, e.1 ≠ b) (hw : zq_k X w = 12) (hx : 0 ≤ x.toInt ∧ x.toInt < (N : Int)) (hdg : decode cc pc = .ok (.aastore, 1))
    (kk : ∀ (H1 : Heap) (locs1 : List Loc), zcs X k a i V ((b, 9, N, updV f x.toNatClampNeg (.ref w)) :: O) H1 → va_S (zcA a) s.heap H1 locs1 → W p l e R s m args below meth c H1 locs1 cells slots Q (F0 m (pc + 1) ls rest)) : W p l e R s m args below meth c H locs cells slots Q (F0 m pc ls (.ref w :: .int x :: .ref b :: rest)) := by
  obtain ⟨b1, b2, hV⟩ := h.2.2.2.1 _ List.mem_cons_self
  have hV : H[b]? = some (arrV (X.2.1 9) N f) := hV
  obtain ⟨cw, g1, g2, g3, -⟩ := (hK.1.2.2.2.2.2.2.1 w hw).1.kept (H1 := H) (fun q h1 _ => h.2.2.2.2.1 q h1)
  obtain ⟨kA, comp, k1, k2, k3, -⟩ := (hK.1.1.2 9 _ rfl).2
  have hcomp : comp = cw.cls := Option.some.inj (k3.symm.trans g3)
  obtain ⟨kC, hkC, -⟩ := Vm.findClass_spec k3
  have hlt := zq_inn hx
  have h0 : ¬ x < 0 := fun q => (zq_in hx) (Or.inl q)
  refine W.aast E.1 E.2.1 hV (fun q h => by cases h) (fun h => by cases h) k1 k2 rfl hkC ⟨h0, by rw [arrV_size]; exact hlt⟩ g1 (fun q h => by rw [h] at g2; cases g2) (by rw [← hcomp]; exact hkC) (by rw [← hcomp]; exact va_asg _ _) rfl rfl hdg fun H1 e1 e2 e3 => ?_
  exact kk H1 _ (h.fill hno e1 e2 e3) (hS.put e2 e3 (Nat.le_of_lt b1))
/-- a row is cloned -/
theorem zc_clone {ad : String} {b : Nat} {cell : Cell} {cA : ClassId} {ty : FieldType} (E : CallFix p m c cc nL s args (w0 :: zt) own) (hs : ls.size = nL)
    (hlink : Cond.methodLink own index ⟨ad, "clone", "()Ljava/lang/Object;"⟩ ∈ zt) (hsame : Cond.sameMethod ad "java/lang/Object" "clone" "()Ljava/lang/Object;" ∈ zt) (hnat : Cond.native ⟨"java/lang/Object", "clone", "()Ljava/lang/Object;"⟩ ∈ zt) (hinst : Cond.instanceMethod ⟨"java/lang/Object", "clone", "()Ljava/lang/Object;"⟩ ∈ zt)
    (hsel : Cond.selects ad ⟨ad, "clone", "()Ljava/lang/Object;"⟩ ⟨"java/lang/Object", "clone", "()Ljava/lang/Object;"⟩ ∈ zt) (hcl : va_Nw (.castable ad "java/lang/Cloneable") s) (hAr : ArrOfT s cA ty) (hnm : s.vm.findClass ad = some cA) (hcell : H[b]? = some cell) (hcls : cell.cls = cA) (hv1 : ∀ k, cell.vm ≠ .statics k) (hv2 : cell.vm ≠ .unknown) (hfit : ∀ (j : Nat) (v : Value), cell.slots[j]? = some v → fits ty v = true)
    (hR : 1 ≤ R.frames ∧ (rest.map fun v => v.category).sum + 14 ≤ R.locals ∧ cells + 1 ≤ R.cells ∧ slots + cell.slots.size ≤ R.slots) (hdg : decode cc pc = .ok (.invokevirtual index, 3))
    (kk : ∀ H1 : Heap, H1.size = H.size + 1 → H1[H.size]? = some ({ cls := cell.cls, slots := cell.slots } : Cell) → (∀ q, q < H.size → H1[q]? = H[q]?) → W p l e R s m args below meth c H1 locs (cells + 1) (slots + cell.slots.size) Q (F0 m (pc + 3) ls (.ref H.size :: rest))) : W p l e R s m args below meth c H locs cells slots Q (F0 m pc ls (.ref b :: rest)) := by
  have hh : ∀ w ∈ zt, w.before args s = true := fun w hw => E.2.2.2.2 _ (List.mem_cons_of_mem _ hw)
  obtain ⟨c0, t0', f1, f2, f3⟩ := Cond.castable_spec (va_Nw.use (A := args) rfl hcl)
  cases hnm.symm.trans f1
  intro T hT X
  have hcellT : T.heap[b]? = some cell := by rw [hT]; exact hcell
  obtain ⟨-, kA, hkA, comp, hkind⟩ := State.isArrayOf_alike X.warmed.alike (hAr 0 (fun _ => .null))
  obtain ⟨-, kS, hkS, compS, hkindS⟩ := hAr 0 (fun _ => .null)
  obtain ⟨vm', X', st⟩ := X.cloneArray E.1 E.2.2.2.1 (hh _ hlink) (hh _ hsame) (hh _ hnat) (hh _ hinst) (hh _ hsel) (a := b) (cell := cell) hcellT hv1 hv2 (by rw [hcls]; exact hnm) f2 (by rw [hcls]; exact f3)
    (fun i v hv => by
      have hk' : T.vm.classes[cA]? = some kA := hkA
      rw [hcls]
      simpa [State.fitsSlot, State.slotType?, hk', hkind] using hfit i v hv)
    (g := F0 m pc ls (.ref b :: rest)) rfl (hs.trans E.2.2.1.symm) rfl (by rw [E.2.1]; exact hdg) hR.1 (by show 2 * 0 + _ + 14 ≤ _; have := hR.2.1; omega) hR.2.2.1 hR.2.2.2 (hloader := by rw [hcls]; exact Vm.clonesLoader_of_array hkS hkindS)
  generalize hH1 : H.push ({ cls := cell.cls, slots := cell.slots } : Cell) = H1
  have z1 : H1.size = H.size + 1 := by rw [← hH1, Array.size_push]
  have e1 : H1[H.size]? = some ({ cls := cell.cls, slots := cell.slots } : Cell) := by rw [← hH1, Array.getElem?_push_size]
  have o1 : ∀ q : Nat, q < H.size → H1[q]? = H[q]? := fun q hq => by rw [← hH1, Array.getElem?_push, if_neg (Nat.ne_of_lt hq)]
  obtain ⟨t, b1, b2⟩ := kk H1 z1 e1 o1 ((T.setVm vm').pushCell ({ cls := cell.cls, slots := cell.slots } : Cell)) (by rw [← hH1, ← hT]; rfl) X'
  refine ⟨t, st t ?_, b2⟩
  rw [hT]
  exact b1
theorem zc_cast {nm : String} {b n : Nat} {f : Nat → Value} {cA : ClassId} (E : CallFix p m c cc nL s args (w0 :: zt) own) (hl : Cond.classLink own index nm ∈ zt) (hnm : s.vm.findClass nm = some cA) (hcell : H[b]? = some (arrV cA n f)) (hdg : decode cc pc = .ok (.checkcast index, 3))
    (kk : W p l e R s m args below meth c H locs cells slots Q (F0 m (pc + 3) ls (.ref b :: rest))) : W p l e R s m args below meth c H locs cells slots Q (F0 m pc ls (.ref b :: rest)) := by
  intro T hT X
  obtain ⟨vm', X', st⟩ := X.checkcastYes E.1 E.2.2.2.1 (E.2.2.2.2 _ (List.mem_cons_of_mem _ hl)) (by rw [hT]; exact hcell) rfl hnm (va_asg _ _) (g := F0 m pc ls (.ref b :: rest)) rfl rfl (by rw [E.2.1]; exact hdg)
  obtain ⟨t, a1, b1⟩ := kk (T.setVm vm') hT X'
  exact ⟨t, st t a1, b1⟩
end ZD

theorem zcn_L : Cond.initialized RL ∈ zt := zt_t 0 (by decide +kernel) rfl
theorem zcn_X11 : Cond.initialized RX11 ∈ zt := zt_t 1 (by decide +kernel) rfl
theorem zcn_X6 : Cond.initialized RX6 ∈ zt := zt_t 2 (by decide +kernel) rfl
theorem zcn_Jx29ce0 : Cond.initialized RJx29ce0 ∈ zt := zt_t 3 (by decide +kernel) rfl
theorem zcn_X9 : Cond.initialized RX9 ∈ zt := zt_t 4 (by decide +kernel) rfl
theorem zcn_X3 : Cond.initialized RX3 ∈ zt := zt_t 5 (by decide +kernel) rfl
theorem zcn_X0 : Cond.initialized RX0 ∈ zt := zt_t 6 (by decide +kernel) rfl
theorem zcn_X10 : Cond.initialized RX10 ∈ zt := zt_t 7 (by decide +kernel) rfl
theorem zcn_X5 : Cond.initialized RX5 ∈ zt := zt_t 8 (by decide +kernel) rfl
theorem zcn_X7 : Cond.initialized RX7 ∈ zt := zt_t 9 (by decide +kernel) rfl
theorem zcn_X2 : Cond.initialized RX2 ∈ zt := zt_t 10 (by decide +kernel) rfl
theorem zcn_X1 : Cond.initialized RX1 ∈ zt := zt_t 11 (by decide +kernel) rfl
theorem zcn_X12 : Cond.initialized RX12 ∈ zt := zt_t 12 (by decide +kernel) rfl
theorem zcn_X8 : Cond.initialized RX8 ∈ zt := zt_t 13 (by decide +kernel) rfl
theorem zcn_J0 : Cond.initialized RJ0 ∈ zt := zt_t 14 (by decide +kernel) rfl
theorem zcn_J1 : Cond.initialized RJ1 ∈ zt := zt_t 15 (by decide +kernel) rfl
theorem zcn_J3 : Cond.initialized RJ3 ∈ zt := zt_t 16 (by decide +kernel) rfl
theorem zcn_J2 : Cond.initialized RJ2 ∈ zt := zt_t 17 (by decide +kernel) rfl
theorem zcn_J9 : Cond.initialized RJ9 ∈ zt := zt_t 18 (by decide +kernel) rfl
theorem zcn_J10 : Cond.initialized RJ10 ∈ zt := zt_t 19 (by decide +kernel) rfl
theorem zcn_X4 : Cond.initialized RX4 ∈ zt := zt_t 20 (by decide +kernel) rfl
theorem zcl_L_7 : Cond.classLink RL 7 RX11 ∈ zt := zt_t 21 (by decide +kernel) rfl
theorem zci_X11 : Cond.instantiable RX11 12 ∈ zt := zt_t 22 (by decide +kernel) rfl
theorem zcm_L_9 : Cond.methodLink RL 9 yX11_init ∈ zt := zt_t 23 (by decide +kernel) rfl
theorem zcx_X11 : Cond.instanceMethod yX11_init ∈ zt := zt_t 24 (by decide +kernel) rfl
set_option maxRecDepth 100000 in
theorem zcc_X11 : Cond.code yX11_init cX11_init 2 none ∈ zt := zt_t 25 rfl rfl
theorem zcm_X11_1 : Cond.methodLink RX11 1 Lib.objectInit ∈ zt := zt_t 26 (by decide +kernel) rfl
theorem zcx_O : Cond.instanceMethod Lib.objectInit ∈ zt := zt_t 27 (by decide +kernel) rfl
theorem zcc_O : Cond.code Lib.objectInit ⟨#[0xb1]⟩ 1 none ∈ zt := zt_t 28 (by decide +kernel) rfl
theorem zcl_X11_7 : Cond.classLink RX11 7 RX6 ∈ zt := zt_t 29 (by decide +kernel) rfl
theorem zci_X6 : Cond.instantiable RX6 10 ∈ zt := zt_t 30 (by decide +kernel) rfl
theorem zcm_X11_9 : Cond.methodLink RX11 9 yX6_init ∈ zt := zt_t 31 (by decide +kernel) rfl
theorem zcx_X6 : Cond.instanceMethod yX6_init ∈ zt := zt_t 32 (by decide +kernel) rfl
set_option maxRecDepth 100000 in
theorem zcc_X6 : Cond.code yX6_init cX6_init 2 none ∈ zt := zt_t 33 rfl rfl
theorem zcm_X6_3 : Cond.methodLink RX6 3 Lib.objectInit ∈ zt := zt_t 34 (by decide +kernel) rfl
theorem zcl_X9_74 : Cond.classLink RX9 74 "[LPondIceTrade$Word;" ∈ zt := zt_t 47 (by decide +kernel) rfl
theorem zcl_X6_16 : Cond.classLink RX6 16 RX9 ∈ zt := zt_t 48 (by decide +kernel) rfl
theorem zca_byte : Cond.arrayClass .byte ∈ zt := zt_t 85 (by decide +kernel) rfl
theorem zca_int : Cond.arrayClass .int ∈ zt := zt_t 86 (by decide +kernel) rfl
theorem zcl_X11_16 : Cond.classLink RX11 16 RX3 ∈ zt := zt_t 87 (by decide +kernel) rfl
theorem zci_X3 : Cond.instantiable RX3 16 ∈ zt := zt_t 89 (by decide +kernel) rfl
theorem zcm_X11_22 : Cond.methodLink RX11 22 yX3_init ∈ zt := zt_t 90 (by decide +kernel) rfl
theorem zcx_X3 : Cond.instanceMethod yX3_init ∈ zt := zt_t 91 (by decide +kernel) rfl
set_option maxRecDepth 100000 in
theorem zcc_X3 : Cond.code yX3_init cX3_init 1 none ∈ zt := zt_t 92 rfl rfl
theorem zcm_X3_3 : Cond.methodLink RX3 3 Lib.objectInit ∈ zt := zt_t 93 (by decide +kernel) rfl
theorem zca_long : Cond.arrayClass .long ∈ zt := zt_t 145 (by decide +kernel) rfl
theorem zcl_X11_23 : Cond.classLink RX11 23 RX0 ∈ zt := zt_t 146 (by decide +kernel) rfl
theorem zci_X0 : Cond.instantiable RX0 7 ∈ zt := zt_t 147 (by decide +kernel) rfl
theorem zcm_X11_25 : Cond.methodLink RX11 25 yX0_init ∈ zt := zt_t 148 (by decide +kernel) rfl
theorem zcx_X0 : Cond.instanceMethod yX0_init ∈ zt := zt_t 149 (by decide +kernel) rfl
set_option maxRecDepth 100000 in
theorem zcc_X0 : Cond.code yX0_init cX0_init 1 none ∈ zt := zt_t 150 rfl rfl
theorem zcm_X0_3 : Cond.methodLink RX0 3 Lib.objectInit ∈ zt := zt_t 151 (by decide +kernel) rfl
theorem zcl_X0_9 : Cond.classLink RX0 9 RX10 ∈ zt := zt_t 152 (by decide +kernel) rfl
theorem zci_X10 : Cond.instantiable RX10 10 ∈ zt := zt_t 153 (by decide +kernel) rfl
theorem zcm_X0_11 : Cond.methodLink RX0 11 yX10_init ∈ zt := zt_t 154 (by decide +kernel) rfl
theorem zcx_X10 : Cond.instanceMethod yX10_init ∈ zt := zt_t 155 (by decide +kernel) rfl
set_option maxRecDepth 100000 in
theorem zcc_X10 : Cond.code yX10_init cX10_init 2 none ∈ zt := zt_t 156 rfl rfl
theorem zcm_X10_3 : Cond.methodLink RX10 3 Lib.objectInit ∈ zt := zt_t 157 (by decide +kernel) rfl
theorem zcl_X10_15 : Cond.classLink RX10 15 RX5 ∈ zt := zt_t 158 (by decide +kernel) rfl
theorem zcl_X10_21 : Cond.classLink RX10 21 RX7 ∈ zt := zt_t 160 (by decide +kernel) rfl
theorem zci_X5 : Cond.instantiable RX5 6 ∈ zt := zt_t 162 (by decide +kernel) rfl
theorem zcm_X10_27 : Cond.methodLink RX10 27 yX5_init ∈ zt := zt_t 163 (by decide +kernel) rfl
theorem zcx_X5 : Cond.instanceMethod yX5_init ∈ zt := zt_t 164 (by decide +kernel) rfl
set_option maxRecDepth 100000 in
theorem zcc_X5 : Cond.code yX5_init cX5_init 1 none ∈ zt := zt_t 165 rfl rfl
theorem zcm_X5_3 : Cond.methodLink RX5 3 Lib.objectInit ∈ zt := zt_t 166 (by decide +kernel) rfl
theorem zci_X7 : Cond.instantiable RX7 7 ∈ zt := zt_t 195 (by decide +kernel) rfl
theorem zcm_X10_28 : Cond.methodLink RX10 28 yX7_init ∈ zt := zt_t 196 (by decide +kernel) rfl
theorem zcx_X7 : Cond.instanceMethod yX7_init ∈ zt := zt_t 197 (by decide +kernel) rfl
set_option maxRecDepth 100000 in
theorem zcc_X7 : Cond.code yX7_init cX7_init 1 none ∈ zt := zt_t 198 rfl rfl
theorem zcm_X7_3 : Cond.methodLink RX7 3 Lib.objectInit ∈ zt := zt_t 199 (by decide +kernel) rfl
theorem zcl_X11_30 : Cond.classLink RX11 30 RX10 ∈ zt := zt_t 334 (by decide +kernel) rfl
theorem zcm_X11_32 : Cond.methodLink RX11 32 yX10_init ∈ zt := zt_t 335 (by decide +kernel) rfl
theorem zcl_X11_49 : Cond.classLink RX11 49 RX2 ∈ zt := zt_t 338 (by decide +kernel) rfl
theorem zci_X2 : Cond.instantiable RX2 6 ∈ zt := zt_t 339 (by decide +kernel) rfl
theorem zcm_X11_51 : Cond.methodLink RX11 51 yX2_init ∈ zt := zt_t 340 (by decide +kernel) rfl
theorem zcx_X2 : Cond.instanceMethod yX2_init ∈ zt := zt_t 341 (by decide +kernel) rfl
set_option maxRecDepth 100000 in
theorem zcc_X2 : Cond.code yX2_init cX2_init 1 none ∈ zt := zt_t 342 rfl rfl
theorem zcm_X2_3 : Cond.methodLink RX2 3 Lib.objectInit ∈ zt := zt_t 343 (by decide +kernel) rfl
theorem zcl_X2_9 : Cond.classLink RX2 9 RX10 ∈ zt := zt_t 344 (by decide +kernel) rfl
theorem zcm_X2_11 : Cond.methodLink RX2 11 yX10_init ∈ zt := zt_t 345 (by decide +kernel) rfl
theorem zca_boolean : Cond.arrayClass .boolean ∈ zt := zt_t 366 (by decide +kernel) rfl
theorem zcl_X11_56 : Cond.classLink RX11 56 RX1 ∈ zt := zt_t 367 (by decide +kernel) rfl
theorem zci_X1 : Cond.instantiable RX1 3 ∈ zt := zt_t 368 (by decide +kernel) rfl
theorem zcm_X11_58 : Cond.methodLink RX11 58 yX1_init ∈ zt := zt_t 369 (by decide +kernel) rfl
theorem zcx_X1 : Cond.instanceMethod yX1_init ∈ zt := zt_t 370 (by decide +kernel) rfl
set_option maxRecDepth 100000 in
theorem zcc_X1 : Cond.code yX1_init cX1_init 1 none ∈ zt := zt_t 371 rfl rfl
theorem zcm_X1_3 : Cond.methodLink RX1 3 Lib.objectInit ∈ zt := zt_t 372 (by decide +kernel) rfl
theorem zcl_X1_9 : Cond.classLink RX1 9 RX10 ∈ zt := zt_t 373 (by decide +kernel) rfl
theorem zcm_X1_11 : Cond.methodLink RX1 11 yX10_init ∈ zt := zt_t 374 (by decide +kernel) rfl
theorem zcl_X1_18 : Cond.classLink RX1 18 "[[I" ∈ zt := zt_t 375 (by decide +kernel) rfl
theorem zcl_L_10 : Cond.classLink RL 10 RX12 ∈ zt := zt_t 1133 (by decide +kernel) rfl
theorem zci_X12 : Cond.instantiable RX12 34 ∈ zt := zt_t 1134 (by decide +kernel) rfl
theorem zcm_L_12 : Cond.methodLink RL 12 yX12_init ∈ zt := zt_t 1135 (by decide +kernel) rfl
theorem zcx_X12 : Cond.instanceMethod yX12_init ∈ zt := zt_t 1136 (by decide +kernel) rfl
set_option maxRecDepth 100000 in
theorem zcc_X12 : Cond.code yX12_init cX12_init 1 none ∈ zt := zt_t 1137 rfl rfl
theorem zcm_X12_1 : Cond.methodLink RX12 1 Lib.objectInit ∈ zt := zt_t 1138 (by decide +kernel) rfl
theorem zdv_X0 : ∀ j, j < 7 → defaultValue (tyX0 j) = zdV 1 j := fun j hj => by
  rcases (show j = 0 ∨ j = 1 ∨ j = 2 ∨ j = 3 ∨ j = 4 ∨ j = 5 ∨ j = 6 by omega) with rfl | rfl | rfl | rfl | rfl | rfl | rfl <;> rfl
theorem zdv_X1 : ∀ j, j < 3 → defaultValue (tyX1 j) = zdV 2 j := fun j hj => by
  rcases (show j = 0 ∨ j = 1 ∨ j = 2 by omega) with rfl | rfl | rfl <;> rfl
theorem zdv_X2 : ∀ j, j < 6 → defaultValue (tyX2 j) = zdV 3 j := fun j hj => by
  rcases (show j = 0 ∨ j = 1 ∨ j = 2 ∨ j = 3 ∨ j = 4 ∨ j = 5 by omega) with rfl | rfl | rfl | rfl | rfl | rfl <;> rfl
theorem zdv_X3 : ∀ j, j < 16 → defaultValue (tyX3 j) = zdV 4 j := fun j hj => by
  rcases (show j = 0 ∨ j = 1 ∨ j = 2 ∨ j = 3 ∨ j = 4 ∨ j = 5 ∨ j = 6 ∨ j = 7 ∨ j = 8 ∨ j = 9 ∨ j = 10 ∨ j = 11 ∨ j = 12 ∨ j = 13 ∨ j = 14 ∨ j = 15 by omega) with rfl | rfl | rfl | rfl | rfl | rfl | rfl | rfl | rfl | rfl | rfl | rfl | rfl | rfl | rfl | rfl <;> rfl
theorem zdv_X5 : ∀ j, j < 6 → defaultValue (tyX5 j) = zdV 5 j := fun j hj => by
  rcases (show j = 0 ∨ j = 1 ∨ j = 2 ∨ j = 3 ∨ j = 4 ∨ j = 5 by omega) with rfl | rfl | rfl | rfl | rfl | rfl <;> rfl
theorem zdv_X6 : ∀ j, j < 10 → defaultValue (tyX6 j) = zdV 6 j := fun j hj => by
  rcases (show j = 0 ∨ j = 1 ∨ j = 2 ∨ j = 3 ∨ j = 4 ∨ j = 5 ∨ j = 6 ∨ j = 7 ∨ j = 8 ∨ j = 9 by omega) with rfl | rfl | rfl | rfl | rfl | rfl | rfl | rfl | rfl | rfl <;> rfl
theorem zdv_X7 : ∀ j, j < 7 → defaultValue (tyX7 j) = zdV 7 j := fun j hj => by
  rcases (show j = 0 ∨ j = 1 ∨ j = 2 ∨ j = 3 ∨ j = 4 ∨ j = 5 ∨ j = 6 by omega) with rfl | rfl | rfl | rfl | rfl | rfl | rfl <;> rfl
theorem zdv_X10 : ∀ j, j < 10 → defaultValue (tyX10 j) = zdV 8 j := fun j hj => by
  rcases (show j = 0 ∨ j = 1 ∨ j = 2 ∨ j = 3 ∨ j = 4 ∨ j = 5 ∨ j = 6 ∨ j = 7 ∨ j = 8 ∨ j = 9 by omega) with rfl | rfl | rfl | rfl | rfl | rfl | rfl | rfl | rfl | rfl <;> rfl
theorem zdv_X11 : ∀ j, j < 12 → defaultValue (tyX11 j) = zdV 9 j := fun j hj => by
  rcases (show j = 0 ∨ j = 1 ∨ j = 2 ∨ j = 3 ∨ j = 4 ∨ j = 5 ∨ j = 6 ∨ j = 7 ∨ j = 8 ∨ j = 9 ∨ j = 10 ∨ j = 11 by omega) with rfl | rfl | rfl | rfl | rfl | rfl | rfl | rfl | rfl | rfl | rfl | rfl <;> rfl
theorem zdv_X12 : ∀ j, j < 34 → defaultValue (tyX12 j) = zdV 10 j := fun j hj => by
  rcases (show j = 0 ∨ j = 1 ∨ j = 2 ∨ j = 3 ∨ j = 4 ∨ j = 5 ∨ j = 6 ∨ j = 7 ∨ j = 8 ∨ j = 9 ∨ j = 10 ∨ j = 11 ∨ j = 12 ∨ j = 13 ∨ j = 14 ∨ j = 15 ∨ j = 16 ∨ j = 17 ∨ j = 18 ∨ j = 19 ∨ j = 20 ∨ j = 21 ∨ j = 22 ∨ j = 23 ∨ j = 24 ∨ j = 25 ∨ j = 26 ∨ j = 27 ∨ j = 28 ∨ j = 29 ∨ j = 30 ∨ j = 31 ∨ j = 32 ∨ j = 33 by omega) with rfl | rfl | rfl | rfl | rfl | rfl | rfl | rfl | rfl | rfl | rfl | rfl | rfl | rfl | rfl | rfl | rfl | rfl | rfl | rfl | rfl | rfl | rfl | rfl | rfl | rfl | rfl | rfl | rfl | rfl | rfl | rfl | rfl | rfl <;> rfl
