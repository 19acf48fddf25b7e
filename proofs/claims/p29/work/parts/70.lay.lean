/-! THE LAYOUT at the law's start: the class at the heap's end, the reference behind it -/
def zOwL : List Nat := [0, 0, 0, 0, 0, 0, 0, 0, 0, 0, 0, 0, 0, 0, 0, 0, 0, 0, 0, 0, 0, 0, 0, 0, 0, 0, 0, 0, 0, 0, 0, 0, 0, 0, 0, 0, 0, 0, 0, 0, 0, 0, 0, 0, 0, 0, 0, 0, 0, 0, 0, 0, 0, 0, 0, 0, 0, 0, 0, 0, 0, 0, 0, 0, 0, 0, 0, 0, 0, 0, 0, 0, 0, 0, 0, 0, 0, 0, 0, 0, 0, 0, 0, 0, 0, 0, 0, 0, 100, 100, 100, 100, 100, 100, 100, 100, 100, 100, 100, 101, 101, 101, 101, 101, 101, 101, 101, 101, 101, 101, 0, 0, 200, 200, 200, 200, 200, 200, 200, 200, 200, 200, 200, 0, 0, 1, 102, 102, 102, 102, 102, 102, 102, 102, 102, 102, 102, 103, 103, 103, 103, 103, 103, 103, 103, 103, 103, 103, 0, 0, 2, 104, 104, 104, 104, 104, 104, 104, 104, 104, 104, 104, 105, 105, 105, 105, 105, 105, 105, 105, 105, 105, 105, 0, 0, 3, 106, 106, 106, 106, 106, 106, 106, 106, 106, 106, 106, 107, 107, 107, 107, 107, 107, 107, 107, 107, 107, 107, 0, 0, 4, 108, 108, 108, 108, 108, 108, 108, 108, 108, 108, 108, 109, 109, 109, 109, 109, 109, 109, 109, 109, 109, 109, 0, 0, 0, 120, 120, 120, 120, 120, 120, 120, 120, 120, 120, 120, 121, 121, 121, 121, 121, 121, 121, 121, 121, 121, 121, 122, 122, 122, 122, 122, 122, 122, 122, 122, 122, 122, 123, 123, 123, 123, 123, 123, 123, 123, 123, 123, 123, 124, 124, 124, 124, 124, 124, 124, 124, 124, 124, 124, 125, 125, 125, 125, 125, 125, 125, 125, 125, 125, 125, 126, 126, 126, 126, 126, 126, 126, 126, 126, 126, 126, 127, 127, 127, 127, 127, 127, 127, 127, 127, 127, 127, 128, 128, 128, 128, 128, 128, 128, 128, 128, 128, 128, 129, 129, 129, 129, 129, 129, 129, 129, 129, 129, 129, 130, 130, 130, 130, 130, 130, 130, 130, 130, 130, 130, 131, 131, 131, 131, 131, 131, 131, 131, 131, 131, 131, 132, 132, 132, 132, 132, 132, 132, 132, 132, 132, 132, 133, 133, 133, 133, 133, 133, 133, 133, 133, 133, 133, 134, 134, 134, 134, 134, 134, 134, 134, 134, 134, 134, 135, 135, 135, 135, 135, 135, 135, 135, 135, 135, 135, 136, 136, 136, 136, 136, 136, 136, 136, 136, 136, 136, 137, 137, 137, 137, 137, 137, 137, 137, 137, 137, 137, 138, 138, 138, 138, 138, 138, 138, 138, 138, 138, 138, 139, 139, 139, 139, 139, 139, 139, 139, 139, 139, 139, 0, 201, 201, 201, 201, 201, 201, 201, 201, 201, 201, 201, 0, 0, 0, 202, 202, 202, 202, 202, 202, 202, 202, 202, 202, 202, 0, 0, 0, 0, 0, 0, 0, 0, 0]
def zIn8 : List Nat := [0, 0, 0, 0, 0, 0, 0, 0, 0, 0, 0, 0, 0, 0, 0, 0, 0, 0, 0, 0, 0, 0, 0, 0, 0, 0, 0, 0, 0, 0, 0, 0, 0, 0, 0, 0, 0, 0, 0, 0, 0, 0, 0, 0, 0, 0, 0, 0, 0, 0, 0, 0, 0, 0, 0, 0, 0, 0, 0, 0, 0, 0, 0, 0, 0, 0, 0, 0, 0, 0, 0, 0, 0, 0, 0, 0, 0, 0, 0, 0, 0, 0, 0, 0, 0, 0, 0, 0, 0, 0, 0, 0, 0, 0, 0, 0, 0, 0, 0, 0, 88, 99, 126, 137, 151, 162, 176, 187, 201, 212, 0, 0, 0, 0, 0, 0, 0, 0, 0, 0, 226, 237, 248, 259, 270, 281, 292, 303, 314, 325, 336, 347, 358, 369, 380, 391, 402, 413, 424, 435, 0, 0, 0, 0, 0, 0, 0, 0, 0, 0, 0, 0, 0, 0, 0, 0, 0, 0, 0, 0, 0, 0, 0, 0, 0, 0, 0, 0, 0, 0, 0, 0, 0, 0, 0, 0, 0, 0, 0, 0, 0, 0, 0, 0, 0, 0, 0, 0, 0, 0, 0, 0, 0, 0, 0, 0, 0, 0, 0, 0, 112, 447, 461]
def zIn1 : List Nat := [87, 125, 150, 175, 200]
def zKt (o : Nat) : Nat := if o < 481 then zTk 9 o else if o < 500 then zTk 10 (o - 481) else 0
def zRt (o j : Nat) : Nat := if o < 481 then zTr 9 o j else 481 + zTr 10 (o - 481) j
def zOt (o : Nat) : Nat := zOwL.getD o 0
theorem zrk_lt {k j : Nat} (h : zq_rk k j ≠ 0) : j < 40 := by
  rcases Nat.lt_or_ge j 40 with q | q
  · exact q
  · exfalso
    apply h
    unfold zq_rk
    split <;> (rw [List.getD_eq_getElem?_getD, List.getElem?_eq_none (by first | (simp; omega) | simp)]; rfl)
theorem zrk_lo {k j : Nat} (h : k = 0 ∨ (12 ≤ k ∧ k < 20)) : zq_rk k j = 0 := by
  unfold zq_rk
  split <;> first | (exfalso; omega) | rfl
def zck1 : Bool := (List.range 500).all (fun o => (List.range 40).all (fun j => (zq_rk (zKt o) j == 0) || ((zKt (zRt o j) == zq_rk (zKt o) j) && (!(zq_so (zKt o) j) || (zOt (zRt o j) == zOt o)))))
def zck2 : Bool := (List.range 500).all (fun o => (!(zKt o == 1) || (decide (zOt o ≤ 4) && (zOt (zRt o 0) == 100 + 2 * zOt o) && (zOt (zRt o 1) == 101 + 2 * zOt o) && (zIn1.getD (zOt o) 0 == o))) && (!(zKt o == 9) || ((zOt (zRt o 3) == 0) && (zOt (zRt o 4) == 200) && (List.range 4).all (fun j => zOt (zRt (zRt o 5) j) == j + 1) && (List.range 20).all (fun j => zOt (zRt (zRt o 7) j) == 120 + j))) && (!(zKt o == 3) || (zOt (zRt o 0) == 201)) && (!(zKt o == 2) || (zOt (zRt o 0) == 202)) && (!(zKt o == 32) || (List.range 4).all (fun i => (List.range 4).all (fun j => !(zRt o i == zRt o j) || (i == j)))) && (!(zKt o == 8) || (zIn8.getD (zOt o) 0 == o)) && (!(zKt o == 59) || (o == 491)))
set_option maxRecDepth 100000 in
theorem zck1_ok : zck1 = true := by decide +kernel
set_option maxRecDepth 100000 in
theorem zck2_ok : zck2 = true := by decide +kernel
noncomputable def zif (p : Prop) (a b : Nat) : Nat := @ite Nat p (Classical.propDecidable p) a b
theorem zif_pos {p : Prop} {a b : Nat} (h : p) : zif p a b = a := by unfold zif; exact if_pos h
theorem zif_neg {p : Prop} {a b : Nat} (h : ¬ p) : zif p a b = b := by unfold zif; exact if_neg h
noncomputable def zXm (D : va_G) (ac : Nat → ClassId) (P2 P3 P4 : Nat → Prop) (rf : Nat → Nat) (h0 : Heap) : zq_X :=
  (D, ac, fun a => if h0.size ≤ a then zKt (a - h0.size) else zif (P2 a) 12 (zif (P3 a) 13 (zif (P4 a) 14 0)), fun a j => if h0.size ≤ a then h0.size + zRt (a - h0.size) j else rf a, fun a => if h0.size ≤ a then zOt (a - h0.size) else 0, h0)
section ZX
variable {D : va_G} {ac : Nat → ClassId} {P2 P3 P4 : Nat → Prop} {rf : Nat → Nat} {h0 : Heap} {a j : Nat}
theorem zX.kh (h : h0.size ≤ a) : zq_k (zXm D ac P2 P3 P4 rf h0) a = zKt (a - h0.size) := if_pos h
theorem zX.kl (h : a < h0.size) : zq_k (zXm D ac P2 P3 P4 rf h0) a = zif (P2 a) 12 (zif (P3 a) 13 (zif (P4 a) 14 0)) := if_neg (by omega)
theorem zX.kl4 (h : a < h0.size) : zq_k (zXm D ac P2 P3 P4 rf h0) a = 0 ∨ (12 ≤ zq_k (zXm D ac P2 P3 P4 rf h0) a ∧ zq_k (zXm D ac P2 P3 P4 rf h0) a < 20) := by
  rw [zX.kl h]
  by_cases q2 : P2 a
  · rw [zif_pos q2]; omega
  · rw [zif_neg q2]
    by_cases q3 : P3 a
    · rw [zif_pos q3]; omega
    · rw [zif_neg q3]
      by_cases q4 : P4 a
      · rw [zif_pos q4]; omega
      · rw [zif_neg q4]; omega
theorem zX.hi (h : 0 < zq_k (zXm D ac P2 P3 P4 rf h0) a ∧ ¬ (12 ≤ zq_k (zXm D ac P2 P3 P4 rf h0) a ∧ zq_k (zXm D ac P2 P3 P4 rf h0) a < 20)) : h0.size ≤ a ∧ a - h0.size < 500 := by
  rcases Nat.lt_or_ge a h0.size with q | q
  · have := zX.kl4 (D := D) (ac := ac) (P2 := P2) (P3 := P3) (P4 := P4) (rf := rf) q
    omega
  · refine ⟨q, ?_⟩
    rw [zX.kh q] at h
    rcases Nat.lt_or_ge (a - h0.size) 500 with q2 | q2
    · exact q2
    · unfold zKt at h
      rw [if_neg (by omega), if_neg (by omega)] at h
      omega
theorem zX.rh (h : h0.size ≤ a) : zq_r (zXm D ac P2 P3 P4 rf h0) a j = h0.size + zRt (a - h0.size) j := if_pos h
theorem zX.oh (h : h0.size ≤ a) : zq_o (zXm D ac P2 P3 P4 rf h0) a = zOt (a - h0.size) := if_pos h
theorem zX.A (h : a < h0.size) : ¬ zq_A (zXm D ac P2 P3 P4 rf h0) a := fun q => by
  have := zX.kl4 (D := D) (ac := ac) (P2 := P2) (P3 := P3) (P4 := P4) (rf := rf) h
  unfold zq_A at q
  omega
theorem zX.A2 (h : zq_A (zXm D ac P2 P3 P4 rf h0) a) : h0.size ≤ a := by
  rcases Nat.lt_or_ge a h0.size with q | q
  · exact absurd h (zX.A q)
  · exact q
theorem zX.rr (h : h0.size ≤ a) : h0.size ≤ zq_r (zXm D ac P2 P3 P4 rf h0) a j ∧ zq_r (zXm D ac P2 P3 P4 rf h0) a j - h0.size = zRt (a - h0.size) j := by
  rw [zX.rh h]; omega
theorem zX.L : zq_L (zXm D ac P2 P3 P4 rf h0) := by
  have c1 : ∀ o, o < 500 → ∀ j, zq_rk (zKt o) j ≠ 0 → zKt (zRt o j) = zq_rk (zKt o) j ∧ (zq_so (zKt o) j = true → zOt (zRt o j) = zOt o) := by
    intro o ho j hj
    have h1 := List.all_eq_true.mp zck1_ok o (List.mem_range.mpr ho)
    have h2 := List.all_eq_true.mp h1 j (List.mem_range.mpr (zrk_lt hj))
    simp only [Bool.or_eq_true, Bool.and_eq_true, beq_iff_eq, Bool.not_eq_true'] at h2
    rcases h2 with h2 | h2
    · exact absurd h2 hj
    · exact ⟨h2.1, fun hs => by rcases h2.2 with q | q; rw [hs] at q; cases q; exact q⟩
  have c2 := fun (o : Nat) (ho : o < 500) => List.all_eq_true.mp zck2_ok o (List.mem_range.mpr ho)
  simp only [Bool.and_eq_true, Bool.or_eq_true, beq_iff_eq, Bool.not_eq_true', beq_eq_false_iff_ne, ne_eq, decide_eq_true_eq, List.all_eq_true, List.mem_range] at c2
  have rk0 : ∀ b k j, zq_k (zXm D ac P2 P3 P4 rf h0) b = k → zq_rk k j ≠ 0 → h0.size ≤ b ∧ b - h0.size < 500 := by
    intro b k j hk hr
    refine zX.hi (D := D) (ac := ac) (P2 := P2) (P3 := P3) (P4 := P4) (rf := rf) ?_
    by_cases q : zq_k (zXm D ac P2 P3 P4 rf h0) b = 0 ∨ (12 ≤ zq_k (zXm D ac P2 P3 P4 rf h0) b ∧ zq_k (zXm D ac P2 P3 P4 rf h0) b < 20)
    · exact absurd (zrk_lo (hk ▸ q)) hr
    · omega
  have hi0 : ∀ b k, zq_k (zXm D ac P2 P3 P4 rf h0) b = k → 0 < k → ¬ (12 ≤ k ∧ k < 20) → h0.size ≤ b ∧ b - h0.size < 500 := fun b k hk h1 h2 => zX.hi (D := D) (ac := ac) (P2 := P2) (P3 := P3) (P4 := P4) (rf := rf) (by rw [hk]; exact ⟨h1, h2⟩)
  refine ⟨fun b k j hk hr => ?_, fun b k j hk hr hs => ?_, fun b hk => ?_, fun b hk => ?_, fun b hk => ?_, fun b hk => ?_, fun b i j hk hi hj he => ?_, fun b b2 hk hk2 he => ?_, fun b b2 hk hk2 he => ?_, fun b b2 hk hk2 => ?_⟩
  · obtain ⟨g1, g2⟩ := rk0 b k j hk hr
    obtain ⟨r1, r2⟩ := zX.rr (D := D) (ac := ac) (P2 := P2) (P3 := P3) (P4 := P4) (rf := rf) (j := j) g1
    rw [zX.kh r1, r2]
    rw [zX.kh g1] at hk
    rw [← hk] at hr ⊢
    exact (c1 _ g2 j hr).1
  · obtain ⟨g1, g2⟩ := rk0 b k j hk hr
    obtain ⟨r1, r2⟩ := zX.rr (D := D) (ac := ac) (P2 := P2) (P3 := P3) (P4 := P4) (rf := rf) (j := j) g1
    rw [zX.oh r1, r2, zX.oh g1]
    rw [zX.kh g1] at hk
    rw [← hk] at hr hs
    exact (c1 _ g2 j hr).2 hs
  · obtain ⟨g1, g2⟩ := hi0 b _ hk (by omega) (by omega)
    have r0 := zX.rr (D := D) (ac := ac) (P2 := P2) (P3 := P3) (P4 := P4) (rf := rf) (j := 0) g1
    have r1 := zX.rr (D := D) (ac := ac) (P2 := P2) (P3 := P3) (P4 := P4) (rf := rf) (j := 1) g1
    rw [zX.oh r0.1, r0.2, zX.oh r1.1, r1.2, zX.oh g1]
    rw [zX.kh g1] at hk
    have q := ((((((c2 _ g2).1.1.1.1.1.1).resolve_left (fun h => h hk)))))
    exact ⟨q.1.1.1, q.1.1.2, q.1.2⟩
  · obtain ⟨g1, g2⟩ := hi0 b _ hk (by omega) (by omega)
    have r3 := zX.rr (D := D) (ac := ac) (P2 := P2) (P3 := P3) (P4 := P4) (rf := rf) (j := 3) g1
    have r4 := zX.rr (D := D) (ac := ac) (P2 := P2) (P3 := P3) (P4 := P4) (rf := rf) (j := 4) g1
    have r5 := zX.rr (D := D) (ac := ac) (P2 := P2) (P3 := P3) (P4 := P4) (rf := rf) (j := 5) g1
    have r7 := zX.rr (D := D) (ac := ac) (P2 := P2) (P3 := P3) (P4 := P4) (rf := rf) (j := 7) g1
    rw [zX.kh g1] at hk
    have q := (c2 _ g2).1.1.1.1.1.2.resolve_left (fun h => h hk)
    refine ⟨by rw [zX.oh r3.1, r3.2]; exact q.1.1.1, by rw [zX.oh r4.1, r4.2]; exact q.1.1.2, fun j hj => ?_, fun j hj => ?_⟩
    · have rj := zX.rr (D := D) (ac := ac) (P2 := P2) (P3 := P3) (P4 := P4) (rf := rf) (j := j) r5.1
      rw [zX.oh rj.1, rj.2, r5.2]; exact q.1.2 j hj
    · have rj := zX.rr (D := D) (ac := ac) (P2 := P2) (P3 := P3) (P4 := P4) (rf := rf) (j := j) r7.1
      rw [zX.oh rj.1, rj.2, r7.2]; exact q.2 j hj
  · obtain ⟨g1, g2⟩ := hi0 b _ hk (by omega) (by omega)
    have r0 := zX.rr (D := D) (ac := ac) (P2 := P2) (P3 := P3) (P4 := P4) (rf := rf) (j := 0) g1
    rw [zX.kh g1] at hk
    rw [zX.oh r0.1, r0.2]
    exact (c2 _ g2).1.1.1.1.2.resolve_left (fun h => h hk)
  · obtain ⟨g1, g2⟩ := hi0 b _ hk (by omega) (by omega)
    have r0 := zX.rr (D := D) (ac := ac) (P2 := P2) (P3 := P3) (P4 := P4) (rf := rf) (j := 0) g1
    rw [zX.kh g1] at hk
    rw [zX.oh r0.1, r0.2]
    exact (c2 _ g2).1.1.1.2.resolve_left (fun h => h hk)
  · obtain ⟨g1, g2⟩ := hi0 b _ hk (by omega) (by omega)
    rw [zX.kh g1] at hk
    rw [zX.rh g1, zX.rh g1] at he
    exact (((c2 _ g2).1.1.2.resolve_left (fun h => h hk)) i hi j hj).resolve_left (fun h => h (by omega))
  · obtain ⟨g1, g2⟩ := hi0 b _ hk (by omega) (by omega)
    obtain ⟨g3, g4⟩ := hi0 b2 _ hk2 (by omega) (by omega)
    rw [zX.kh g1] at hk
    rw [zX.kh g3] at hk2
    rw [zX.oh g1, zX.oh g3] at he
    have q1 := (c2 _ g2).1.2.resolve_left (fun h => h hk)
    have q2 := (c2 _ g4).1.2.resolve_left (fun h => h hk2)
    rw [he, q2] at q1
    omega
  · obtain ⟨g1, g2⟩ := hi0 b _ hk (by omega) (by omega)
    obtain ⟨g3, g4⟩ := hi0 b2 _ hk2 (by omega) (by omega)
    rw [zX.kh g1] at hk
    rw [zX.kh g3] at hk2
    rw [zX.oh g1, zX.oh g3] at he
    have q1 := ((c2 _ g2).1.1.1.1.1.1.resolve_left (fun h => h hk)).2
    have q2 := ((c2 _ g4).1.1.1.1.1.1.resolve_left (fun h => h hk2)).2
    rw [he, q2] at q1
    omega
  · obtain ⟨g1, g2⟩ := hi0 b _ hk (by omega) (by omega)
    obtain ⟨g3, g4⟩ := hi0 b2 _ hk2 (by omega) (by omega)
    rw [zX.kh g1] at hk
    rw [zX.kh g3] at hk2
    have q1 := (c2 _ g2).2.resolve_left (fun h => h hk)
    have q2 := (c2 _ g4).2.resolve_left (fun h => h hk2)
    omega
end ZX
set_option maxRecDepth 100000 in
theorem zTm9_len : (zTm 9).length = 481 := by decide +kernel
section ZX
variable {D : va_G} {ac : Nat → ClassId} {P2 P3 P4 : Nat → Prop} {rf : Nat → Nat} {h0 : Heap} {a j : Nat}
theorem zX.l9 : zLay (zXm D ac P2 P3 P4 rf h0) h0.size 9 := by
  intro i hi
  have h481 : i < 481 := by rw [zTm9_len] at hi; exact hi
  rw [zX.kh (by omega), show h0.size + i - h0.size = i by omega]
  refine ⟨if_pos h481, fun j _ _ => ?_⟩
  rw [zX.rh (by omega), show h0.size + i - h0.size = i by omega]
  unfold zRt
  rw [if_pos h481]
theorem zX.l10 : zLay (zXm D ac P2 P3 P4 rf h0) (h0.size + 481) 10 := by
  intro i hi
  have h19 : i < 19 := hi
  rw [zX.kh (by omega), show h0.size + 481 + i - h0.size = 481 + i by omega]
  refine ⟨?_, fun j _ _ => ?_⟩
  · unfold zKt
    rw [if_neg (by omega), if_pos (by omega), show 481 + i - 481 = i by omega]
  · rw [zX.rh (by omega), show h0.size + 481 + i - h0.size = 481 + i by omega]
    unfold zRt
    rw [if_neg (by omega), show 481 + i - 481 = i by omega]
    omega
end ZX
