/-! the reference's parser: bytes, signs, how deep the stack is -/
theorem zsg_nat {s : Int32} (h0 : 0 ≤ s.toInt) (h1 : s.toInt ≤ 15) : s.toBitVec.toNat ≤ 15 := by
  have e : s.toInt = s.toBitVec.toInt := rfl
  rw [e, BitVec.toInt_eq_toNat_cond] at h0 h1
  split at h0 <;> omega
theorem zsg_and {s v : Int32} (h0 : 0 ≤ s.toInt) (h1 : s.toInt ≤ 15) : ((s + 16 * v) &&& 15) = s := by
  have hn := zsg_nat h0 h1
  have e : ((s + 16 * v) &&& 15).toBitVec = s.toBitVec := by
    rw [Int32.toBitVec_and, Int32.toBitVec_add, Int32.toBitVec_mul]
    apply BitVec.eq_of_toNat_eq
    rw [BitVec.toNat_and, BitVec.toNat_add, BitVec.toNat_mul, show (15 : Int32).toBitVec.toNat = 2 ^ 4 - 1 from rfl, Nat.and_two_pow_sub_one_eq_mod, show (16 : Int32).toBitVec.toNat = 16 from rfl]
    omega
  exact Int32.toBitVec_inj.mp e
theorem zsg_shr {v : Int32} (h0 : 0 ≤ v.toInt) (h1 : v.toInt ≤ 12) : ((1 + 16 * v) >>> (4 &&& 31)) = v := by
  have hv : v = Int32.ofInt v.toInt := (Int32.ofInt_toInt v).symm
  rcases (show v.toInt = 0 ∨ v.toInt = 1 ∨ v.toInt = 2 ∨ v.toInt = 3 ∨ v.toInt = 4 ∨ v.toInt = 5 ∨ v.toInt = 6 ∨ v.toInt = 7 ∨ v.toInt = 8 ∨ v.toInt = 9 ∨ v.toInt = 10 ∨ v.toInt = 11 ∨ v.toInt = 12 by omega) with q | q | q | q | q | q | q | q | q | q | q | q | q <;> (rw [q] at hv; rw [hv]; decide +kernel)
def zTx (I : zq_M) (h : Nat) : Nat := (I h 11).toNatClampNeg
def zLn (X : zq_X) (I : zq_M) (h : Nat) : Nat := (I (zq_r X h 4) (zTx I h)).toNatClampNeg
/-- a byte that is no blank lies ahead; a letter lies ahead -/
def zAt (X : zq_X) (I : zq_M) (h : Nat) : Prop := (I h 8).toInt < (I h 1).toInt ∧ ¬ (I (zq_r X h 0) (I h 8).toNatClampNeg).toInt = 32
def zLt (X : zq_X) (I : zq_M) (h : Nat) : Prop := zAt X I h ∧ 97 ≤ (I (zq_r X h 0) (I h 8).toNatClampNeg).toInt ∧ (I (zq_r X h 0) (I h 8).toNatClampNeg).toInt ≤ 122
def zSm (X : zq_X) (h : Nat) (I J : zq_M) : Prop := zAt X I h → J h 8 = I h 8 ∧ J h 1 = I h 1 ∧ ∀ j, J (zq_r X h 0) j = I (zq_r X h 0) j
def zMu (X : zq_X) (h : Nat) (b : Bool) (I : zq_M) : Int := (zLn X I h : Int) + cond b (I h 16).toInt 0
/-- from I to J the parser goes on: bytes are passed, signs below stay, k bytes more than signs (and those that wait) -/
def zGo (X : zq_X) (h : Nat) (b : Bool) (k : Int) (I J : zq_M) : Prop :=
  J h 11 = I h 11 ∧ J h 1 = I h 1 ∧ (I h 8).toInt ≤ (J h 8).toInt ∧ (J h 8).toInt ≤ (J h 1).toInt ∧ zLn X I h ≤ zLn X J h ∧ (I h 8).toInt - zMu X h b I + k ≤ (J h 8).toInt - zMu X h b J ∧ (I h 12).toInt ≤ (J h 12).toInt ∧ ∀ j, (j < 400 * zTx I h + zLn X I h ∨ 400 * zTx I h + 400 ≤ j) → J (zq_r X h 3) j = I (zq_r X h 3) j
/-- a sign is put -/
def zPu (X : zq_X) (h : Nat) (s v : Int32) (I J : zq_M) : Prop :=
  J (zq_r X h 3) (400 * zTx I h + zLn X I h) = s + 16 * v ∧ (∀ j, j ≠ 400 * zTx I h + zLn X I h → J (zq_r X h 3) j = I (zq_r X h 3) j) ∧ zLn X J h = zLn X I h + 1
def zDp (X : zq_X) (I : zq_M) (h t b e d0 d1 : Nat) : Prop := b ≤ e ∧ ∃ D : Nat → Nat, D b = d0 ∧ D e = d1 ∧ ∀ i, b ≤ i → i < e → zst (I (zq_r X h 3) (400 * t + i) &&& 15) (I (zq_r X h 3) (400 * t + i) >>> (4 &&& 31)) (D i) (D (i + 1))
/-- since I the signs raise the stack by δ -/
def zQ (X : zq_X) (h δ : Nat) (I J : zq_M) : Prop := (I h 12).toInt + (δ : Int) ≤ (J h 12).toInt ∧ ∀ d : Nat, (d : Int) ≤ (I h 12).toInt → zDp X J h (zTx I h) (zLn X I h) (zLn X J h) d (d + δ)
section ZPA
variable {X : zq_X} {h : Nat} {I J K : zq_M} {b b2 : Bool} {k k2 m : Int} {δ ε : Nat}
theorem zSm.rf : zSm X h I I := fun _ => ⟨rfl, rfl, fun _ => rfl⟩
theorem zAt.sm (a : zAt X I h) (s : zSm X h I J) : zAt X J h := by
  obtain ⟨e1, e2, e3⟩ := s a
  unfold zAt; rw [e1, e2, e3]; exact a
theorem zLt.sm (a : zLt X I h) (s : zSm X h I J) : zLt X J h := by
  obtain ⟨e1, e2, e3⟩ := s a.1
  refine ⟨a.1.sm s, ?_⟩
  rw [e1, e3]; exact a.2
theorem zSm.tr (s : zSm X h I J) (s2 : zSm X h J K) : zSm X h I K := fun a => by
  obtain ⟨e1, e2, e3⟩ := s a
  obtain ⟨f1, f2, f3⟩ := s2 (a.sm s)
  exact ⟨f1.trans e1, f2.trans e2, fun j => (f3 j).trans (e3 j)⟩
theorem zSm.stop (s : zSm X h I J) {x y : Int32} (e8 : J h 8 = x) (et : J (zq_r X h 0) x.toNatClampNeg = y) (hy : y.toInt = 32) : zSm X h I K := fun a => by
  have a2 := (a.sm s).2
  rw [e8, et] at a2
  exact absurd hy a2
theorem zLt.mk {n x : Int32} (e8 : I h 8 = n) (hx : x.toNatClampNeg = n.toNatClampNeg) (h1 : n.toInt < (I h 1).toInt) (h2 : 97 ≤ (I (zq_r X h 0) x.toNatClampNeg).toInt ∧ (I (zq_r X h 0) x.toNatClampNeg).toInt ≤ 122) : zLt X I h := by
  unfold zLt zAt
  rw [e8, ← hx]
  exact ⟨⟨h1, by omega⟩, h2⟩
theorem zLt.at (l : zLt X I h) {n : Int32} (e8 : J h 8 = I h 8) (e1 : J h 1 = I h 1) (et : ∀ j, J (zq_r X h 0) j = I (zq_r X h 0) j) (en : J h 8 = n) : n.toInt < (J h 1).toInt ∧ 97 ≤ (J (zq_r X h 0) n.toNatClampNeg).toInt ∧ (J (zq_r X h 0) n.toNatClampNeg).toInt ≤ 122 := by
  have e : I h 8 = n := e8.symm.trans en
  have l2 := l
  unfold zLt zAt at l2
  rw [e] at l2
  rw [e1, et]
  exact ⟨l2.1.1, l2.2⟩
theorem zTx.eq (e : J h 11 = I h 11) : zTx J h = zTx I h := by unfold zTx; rw [e]
theorem zLn.eq (e : J h 11 = I h 11) (el : ∀ j, J (zq_r X h 4) j = I (zq_r X h 4) j) : zLn X J h = zLn X I h := by unfold zLn; rw [zTx.eq e, el]
/-- what a put leaves -/
def zpn (κ j : Nat) : Bool := κ != 51 && κ != 52 && (κ != 10 || (j != 1 && j != 8 && j != 11 && j != 12 && j != 16))
theorem zpu_s (L : zq_L X) (hk : zq_k X h = 10) {a κ j : Nat} {v : Int32} (e : K = zq_up J a j v) (ha : zq_k X a = κ) (hn : κ ≠ 51) : ∀ i, K (zq_r X h 3) i = J (zq_r X h 3) i := fun i => zq_kp e (Or.inl (zq_kne (zq_lk L.1 hk rfl (by decide) : zq_k X (zq_r X h 3) = 51) ha (Ne.symm hn))) rfl
theorem zpu_l (L : zq_L X) (hk : zq_k X h = 10) {a κ j : Nat} {v : Int32} (e : K = zq_up J a j v) (ha : zq_k X a = κ) (hn : κ ≠ 52) : ∀ i, K (zq_r X h 4) i = J (zq_r X h 4) i := fun i => zq_kp e (Or.inl (zq_kne (zq_lk L.1 hk rfl (by decide) : zq_k X (zq_r X h 4) = 52) ha (Ne.symm hn))) rfl
theorem zpu_o (hk : zq_k X h = 10) {a κ j i : Nat} {v : Int32} (e : K = zq_up J a j v) (ha : zq_k X a = κ) (hn : κ ≠ 10 ∨ i ≠ j) : K h i = J h i := by
  rcases hn with hn | hn
  · exact zq_kp e (Or.inl (zq_kne hk ha (Ne.symm hn))) rfl
  · exact zq_kp e (Or.inr hn) rfl
/-- what a call leaves -/
def zfn (Lw : List (Nat × Nat)) (κ : Nat) : Bool := Lw.all (fun q => q.1 != κ)
theorem zfr_s {Lw : List (Nat × Nat)} {P : Nat → Prop} (L : zq_L X) (hk : zq_k X h = 10) (f : zq_fr (zf X Lw P) J K) {s κ : Nat} (hs : zq_rk 10 s = κ) (h0 : κ ≠ 0) (hn : zfn Lw κ = true) : ∀ i, K (zq_r X h s) i = J (zq_r X h s) i := fun i => f _ _ (zf_n (zq_lk L.1 hk hs h0) (by
    unfold zf_in
    rw [List.any_eq_false]
    intro q hq
    have h1 := List.all_eq_true.mp hn q hq
    simp only [bne_iff_ne, ne_eq] at h1
    simp [h1]))
theorem zfr_o {Lw : List (Nat × Nat)} {P : Nat → Prop} (hk : zq_k X h = 10) (f : zq_fr (zf X Lw P) J K) {i : Nat} (hn : zf_in Lw 10 i = false) : K h i = J h i := f _ _ (zf_n hk hn)
theorem zGo.rf (hn : (I h 8).toInt ≤ (I h 1).toInt) : zGo X h b 0 I I := ⟨rfl, rfl, Int.le_refl _, hn, Nat.le_refl _, by omega, Int.le_refl _, fun _ _ => rfl⟩
theorem zGo.tr (g : zGo X h b k I J) (g2 : zGo X h b k2 J K) : zGo X h b (k + k2) I K := by
  obtain ⟨a1, a2, a3, a4, a5, a6, a7, a8⟩ := g
  obtain ⟨c1, c2, c3, c4, c5, c6, c7, c8⟩ := g2
  refine ⟨c1.trans a1, c2.trans a2, by omega, c4, by omega, by omega, by omega, fun j hj => ?_⟩
  rw [zTx.eq a1] at c8
  exact (c8 j (by omega)).trans (a8 j hj)
theorem zGo.wk (g : zGo X h b k I J) (hk : k2 ≤ k) : zGo X h b k2 I J := by
  obtain ⟨a1, a2, a3, a4, a5, a6, a7, a8⟩ := g
  exact ⟨a1, a2, a3, a4, a5, by omega, a7, a8⟩
/-- one step on -/
theorem zGo.step (g : zGo X h b k I J) (e11 : K h 11 = J h 11) (e1 : K h 1 = J h 1) (h8 : (J h 8).toInt ≤ (K h 8).toInt) (h81 : (K h 8).toInt ≤ (J h 1).toInt) (eL : ∀ j, K (zq_r X h 4) j = J (zq_r X h 4) j) (h6 : (J h 8).toInt - cond b (J h 16).toInt 0 + m ≤ (K h 8).toInt - cond b (K h 16).toInt 0) (h12 : (J h 12).toInt ≤ (K h 12).toInt) (eS : ∀ j, K (zq_r X h 3) j = J (zq_r X h 3) j) : zGo X h b (k + m) I K := by
  refine g.tr ⟨e11, e1, h8, by rw [e1]; exact h81, Nat.le_of_eq (zLn.eq e11 eL).symm, ?_, h12, fun j _ => eS j⟩
  unfold zMu
  rw [zLn.eq e11 eL]
  omega
theorem zGo.pt (g : zGo X h b k I J) (L : zq_L X) (hk : zq_k X h = 10) {a κ j : Nat} {v : Int32} (e : K = zq_up J a j v) (ha : zq_k X a = κ) (hn : zpn κ j = true) : zGo X h b k I K := by
  simp only [zpn, Bool.and_eq_true, Bool.or_eq_true, bne_iff_ne, ne_eq] at hn
  have o : ∀ i, i = 1 ∨ i = 8 ∨ i = 11 ∨ i = 12 ∨ i = 16 → K h i = J h i := fun i hi => zpu_o hk e ha (by omega)
  have q := g.step (m := 0) (K := K) (o 11 (by omega)) (o 1 (by omega)) (by rw [o 8 (by omega)]; exact Int.le_refl _) (by rw [o 8 (by omega)]; exact g.2.2.2.1) (zpu_l L hk e ha hn.1.2) (by rw [o 8 (by omega), o 16 (by omega)]; omega) (by rw [o 12 (by omega)]; exact Int.le_refl _) (zpu_s L hk e ha hn.1.1)
  rw [Int.add_zero] at q
  exact q
theorem zGo.p8 (g : zGo X h b k I J) (L : zq_L X) (hk : zq_k X h = 10) {v : Int32} (e : K = zq_up J h 8 v) (m : Int) (h1 : (J h 8).toInt + m ≤ v.toInt) (h0 : 0 ≤ m) (h2 : v.toInt ≤ (J h 1).toInt) : zGo X h b (k + m) I K := by
  have o : ∀ i, i ≠ 8 → K h i = J h i := fun i hi => zpu_o hk e hk (Or.inr hi)
  have e8 : K h 8 = v := zq_kv e
  exact g.step (o 11 (by omega)) (o 1 (by omega)) (by rw [e8]; omega) (by rw [e8]; exact h2) (zpu_l L hk e hk (by decide)) (by rw [e8, o 16 (by omega)]; omega) (by rw [o 12 (by omega)]; exact Int.le_refl _) (zpu_s L hk e hk (by decide))
theorem zGo.p12 (g : zGo X h b k I J) (L : zq_L X) (hk : zq_k X h = 10) {v : Int32} (e : K = zq_up J h 12 v) (h1 : (J h 12).toInt ≤ v.toInt) : zGo X h b k I K := by
  have o : ∀ i, i ≠ 12 → K h i = J h i := fun i hi => zpu_o hk e hk (Or.inr hi)
  have e8 : K h 12 = v := zq_kv e
  have q := g.step (m := 0) (o 11 (by omega)) (o 1 (by omega)) (by rw [o 8 (by omega)]; exact Int.le_refl _) (by rw [o 8 (by omega)]; exact g.2.2.2.1) (zpu_l L hk e hk (by decide)) (by rw [o 8 (by omega), o 16 (by omega)]; omega) (by rw [e8]; exact h1) (zpu_s L hk e hk (by decide))
  rw [Int.add_zero] at q
  exact q
theorem zGo.p16 (g : zGo X h true k I J) (L : zq_L X) (hk : zq_k X h = 10) {v : Int32} (e : K = zq_up J h 16 v) (m : Int) (h1 : v.toInt + m ≤ (J h 16).toInt) : zGo X h true (k + m) I K := by
  have o : ∀ i, i ≠ 16 → K h i = J h i := fun i hi => zpu_o hk e hk (Or.inr hi)
  have e8 : K h 16 = v := zq_kv e
  exact g.step (o 11 (by omega)) (o 1 (by omega)) (by rw [o 8 (by omega)]; exact Int.le_refl _) (by rw [o 8 (by omega)]; exact g.2.2.2.1) (zpu_l L hk e hk (by decide)) (by rw [o 8 (by omega), e8]; simp only [cond]; omega) (by rw [o 12 (by omega)]; exact Int.le_refl _) (zpu_s L hk e hk (by decide))
/-- a call that touches nothing of it -/
theorem zGo.fr {Lw : List (Nat × Nat)} {P : Nat → Prop} (g : zGo X h b k I J) (L : zq_L X) (hk : zq_k X h = 10) (f : zq_fr (zf X Lw P) J K) (hn : (zf_in Lw 10 1 || zf_in Lw 10 8 || zf_in Lw 10 11 || zf_in Lw 10 12 || zf_in Lw 10 16) = false) (h51 : zfn Lw 51 = true) (h52 : zfn Lw 52 = true) : zGo X h b k I K := by
  simp only [Bool.or_eq_false_iff] at hn
  obtain ⟨⟨⟨⟨n1, n2⟩, n3⟩, n4⟩, n5⟩ := hn
  have q := g.step (m := 0) (zfr_o hk f n3) (zfr_o hk f n1) (by rw [zfr_o hk f n2]; exact Int.le_refl _) (by rw [zfr_o hk f n2]; exact g.2.2.2.1) (zfr_s L hk f rfl (by decide) h52) (by rw [zfr_o hk f n2, zfr_o hk f n5]; omega) (by rw [zfr_o hk f n4]; exact Int.le_refl _) (zfr_s L hk f rfl (by decide) h51)
  rw [Int.add_zero] at q
  exact q
/-- a byte more, where the signs and those that wait are as they were -/
theorem zGo.k1 (g : zGo X h b k I J) (eL : zLn X J h = zLn X I h) (e16 : J h 16 = I h 16) (h8 : (I h 8).toInt + m ≤ (J h 8).toInt) : zGo X h b m I J := by
  obtain ⟨a1, a2, a3, a4, a5, a6, a7, a8⟩ := g
  refine ⟨a1, a2, a3, a4, a5, ?_, a7, a8⟩
  unfold zMu
  rw [eL, e16]
  omega
theorem zGo.room (g : zGo X h false k I J) (hk : 1 ≤ k) (h0 : (zLn X I h : Int) ≤ (I h 8).toInt) (h4 : (J h 1).toInt ≤ 400) : zLn X J h ≤ 399 := by
  obtain ⟨a1, a2, a3, a4, a5, a6, a7, a8⟩ := g
  simp only [zMu, cond] at a6
  omega
theorem zGo.len (g : zGo X h false k I J) (hk : 0 ≤ k) (h0 : (zLn X I h : Int) ≤ (I h 8).toInt) : (zLn X J h : Int) ≤ (J h 8).toInt := by
  obtain ⟨a1, a2, a3, a4, a5, a6, a7, a8⟩ := g
  simp only [zMu, cond] at a6
  omega
theorem zPu.mk (L : zq_L X) (hk : zq_k X h = 10) {t n i w l2 s v : Int32} {I1 : zq_M} (et : I h 11 = t) (en : I (zq_r X h 4) t.toNatClampNeg = n) (hi : i.toNatClampNeg = 400 * t.toNatClampNeg + n.toNatClampNeg) (e1 : I1 = zq_up I (zq_r X h 3) i.toNatClampNeg w) (hw : w = s + 16 * v) (e2 : J = zq_up I1 (zq_r X h 4) t.toNatClampNeg l2) (hl : l2.toNatClampNeg = n.toNatClampNeg + 1) : zPu X h s v I J := by
  have k3 : zq_k X (zq_r X h 3) = 51 := zq_lk L.1 hk rfl (by decide)
  have k4 : zq_k X (zq_r X h 4) = 52 := zq_lk L.1 hk rfl (by decide)
  have z1 : zTx I h = t.toNatClampNeg := by unfold zTx; rw [et]
  have z2 : zLn X I h = n.toNatClampNeg := by unfold zLn; rw [z1, en]
  have z3 : zTx J h = t.toNatClampNeg := by
    unfold zTx
    rw [zq_kp e2 (Or.inl (zq_kne hk k4 (by decide))) (zq_kp e1 (Or.inl (zq_kne hk k3 (by decide))) et)]
  refine ⟨?_, fun j hj => ?_, ?_⟩
  · rw [z1, z2, ← hi, ← hw]
    exact zq_kp e2 (Or.inl (zq_kne k3 k4 (by decide))) (zq_kv e1)
  · rw [z1, z2, ← hi] at hj
    exact zq_kp e2 (Or.inl (zq_kne k3 k4 (by decide))) (zq_kp e1 (Or.inr hj) rfl)
  · unfold zLn
    rw [z3, zq_kv e2, z1, en]
    exact hl
theorem zPu.go {Lw : List (Nat × Nat)} {P : Nat → Prop} {s v : Int32} (p : zPu X h s v J K) (hk : zq_k X h = 10) (f : zq_fr (zf X Lw P) J K) (hn : (zf_in Lw 10 1 || zf_in Lw 10 8 || zf_in Lw 10 11 || zf_in Lw 10 12 || zf_in Lw 10 16) = false) (h8 : (J h 8).toInt ≤ (J h 1).toInt) (h39 : zLn X J h ≤ 399) : zGo X h b (-1) J K := by
  simp only [Bool.or_eq_false_iff] at hn
  obtain ⟨⟨⟨⟨n1, n2⟩, n3⟩, n4⟩, n5⟩ := hn
  refine ⟨zfr_o hk f n3, zfr_o hk f n1, by rw [zfr_o hk f n2]; exact Int.le_refl _, by rw [zfr_o hk f n2, zfr_o hk f n1]; exact h8, by rw [p.2.2]; omega, ?_, by rw [zfr_o hk f n4]; exact Int.le_refl _, fun j hj => p.2.1 j (by omega)⟩
  unfold zMu
  rw [p.2.2, zfr_o hk f n2, zfr_o hk f n5]
  omega
theorem zDp.nil {t e d : Nat} : zDp X I h t e e d d := ⟨Nat.le_refl _, fun _ => d, rfl, rfl, fun i h1 h2 => absurd h2 (by omega)⟩
theorem zDp.cat {t b e m d0 d1 d2 : Nat} (p : zDp X I h t b m d0 d1) (q : zDp X I h t m e d1 d2) : zDp X I h t b e d0 d2 := by
  obtain ⟨p0, D, p1, p2, p3⟩ := p
  obtain ⟨q0, E, q1, q2, q3⟩ := q
  refine ⟨by omega, fun i => if i < m then D i else E i, ?_, ?_, fun i h1 h2 => ?_⟩
  · by_cases c : b < m
    · simp only [c, if_true]; exact p1
    · have : b = m := by omega
      subst this
      simp only [c, if_false]; rw [q1, ← p2, p1]
  · have c : ¬ e < m := by omega
    simp only [c, if_false]; exact q2
  · by_cases c : i < m
    · have r := p3 i h1 c
      by_cases c2 : i + 1 < m
      · simp only [c, c2, if_true]; exact r
      · have : i + 1 = m := by omega
        simp only [c, c2, if_true, if_false]
        rw [this] at r ⊢
        rw [p2] at r; rw [q1]; exact r
    · have c2 : ¬ i + 1 < m := by omega
      simp only [c, c2, if_false]
      exact q3 i (by omega) h2
theorem zDp.one {t b d d2 : Nat} {s v : Int32} (e : I (zq_r X h 3) (400 * t + b) = s + 16 * v) (h0 : 0 ≤ s.toInt) (h1 : s.toInt ≤ 15) (hs : zst s ((s + 16 * v) >>> (4 &&& 31)) d d2) : zDp X I h t b (b + 1) d d2 := by
  refine ⟨by omega, fun i => if i = b then d else d2, if_pos rfl, if_neg (by omega), fun i h2 h3 => ?_⟩
  have : i = b := by omega
  subst this
  simp only [if_true, if_neg (show ¬ i + 1 = i by omega)]
  rw [e, zsg_and h0 h1]
  exact hs
theorem zDp.eq {t b e d0 d1 : Nat} (p : zDp X I h t b e d0 d1) (he : ∀ i, b ≤ i → i < e → J (zq_r X h 3) (400 * t + i) = I (zq_r X h 3) (400 * t + i)) : zDp X J h t b e d0 d1 := by
  obtain ⟨p0, D, p1, p2, p3⟩ := p
  exact ⟨p0, D, p1, p2, fun i h1 h2 => by rw [he i h1 h2]; exact p3 i h1 h2⟩
theorem zDp.rn {t b e : Nat} (p : zDp X I h t b e 0 1) (he : e ≤ 400) : zRN X I h t b e := by
  obtain ⟨p0, D, p1, p2, p3⟩ := p
  exact ⟨p0, he, D, p1, p2, p3⟩
theorem zQ.rf : zQ X h 0 I I := ⟨by simp, fun _ _ => zDp.nil⟩
theorem zQ.st (q : zQ X h δ I J) (eS : ∀ j, K (zq_r X h 3) j = J (zq_r X h 3) j) (eL : zLn X K h = zLn X J h) (h12 : (J h 12).toInt ≤ (K h 12).toInt) : zQ X h δ I K :=
  ⟨by have := q.1; omega, fun d hd => by rw [eL]; exact (q.2 d hd).eq fun i _ _ => eS _⟩
theorem zQ.pt (q : zQ X h δ I J) (L : zq_L X) (hk : zq_k X h = 10) {a κ j : Nat} {v : Int32} (e : K = zq_up J a j v) (ha : zq_k X a = κ) (hn : κ ≠ 51 ∧ κ ≠ 52 ∧ (κ ≠ 10 ∨ (j ≠ 11 ∧ j ≠ 12))) : zQ X h δ I K :=
  q.st (zpu_s L hk e ha hn.1) (zLn.eq (zpu_o hk e ha (by omega)) (zpu_l L hk e ha hn.2.1)) (by rw [zpu_o hk e ha (i := 12) (by omega)]; exact Int.le_refl _)
theorem zQ.fr {Lw : List (Nat × Nat)} {P : Nat → Prop} (q : zQ X h δ I J) (L : zq_L X) (hk : zq_k X h = 10) (f : zq_fr (zf X Lw P) J K) (hn : zf_in Lw 10 11 = false) (h51 : zfn Lw 51 = true) (h52 : zfn Lw 52 = true) (h12 : (J h 12).toInt ≤ (K h 12).toInt) : zQ X h δ I K :=
  q.st (zfr_s L hk f rfl (by decide) h51) (zLn.eq (zfr_o hk f hn) (zfr_s L hk f rfl (by decide) h52)) h12
theorem zQ.tr (q : zQ X h δ I J) (g : zGo X h b k I J) (g2 : zGo X h b2 k2 J K) (q2 : zQ X h ε J K) : zQ X h (δ + ε) I K := by
  obtain ⟨a1, a2, a3, a4, a5, a6, a7, a8⟩ := g
  obtain ⟨c1, c2, c3, c4, c5, c6, c7, c8⟩ := g2
  refine ⟨by have := q.1; have := q2.1; omega, fun d hd => ?_⟩
  have t := zTx.eq a1
  have p := q.2 d hd
  have p2 := q2.2 (d + δ) (by have := q.1; omega)
  rw [t] at c8 p2
  rw [Nat.add_assoc] at p2
  exact (p.eq (J := K) fun i _ h2 => c8 _ (Or.inl (by omega))).cat p2
/-- a sign is put behind them -/
theorem zQ.pu {s v : Int32} {δ2 : Nat} (q : zQ X h δ I J) (g : zGo X h b k I J) (p : zPu X h s v J K) (h60 : (J h 12).toInt ≤ 60) (h0 : 0 ≤ s.toInt) (h1 : s.toInt ≤ 15) (hm : (I h 12).toInt + (δ2 : Int) ≤ (K h 12).toInt) (hs : ∀ d : Nat, d + δ ≤ 60 → (d : Int) + δ2 ≤ (K h 12).toInt → zst s ((s + 16 * v) >>> (4 &&& 31)) (d + δ) (d + δ2)) : zQ X h δ2 I K := by
  refine ⟨hm, fun d hd => ?_⟩
  have t := zTx.eq g.1
  have p0 := q.2 d hd
  have hd2 := q.1
  rw [p.2.2]
  refine (p0.eq fun i _ h2 => p.2.1 _ ?_).cat (zDp.one ?_ h0 h1 (hs d (by omega) (by omega)))
  · rw [t]; omega
  · rw [← t]; exact p.1
theorem zQ.num {v : Int32} (q : zQ X h 0 I J) (g : zGo X h b k I J) (p : zPu X h 0 v J K) (h60 : (J h 12).toInt ≤ 60) (h61 : (K h 12).toInt ≤ 60) (hm : (I h 12).toInt + 1 ≤ (K h 12).toInt) : zQ X h 1 I K :=
  q.pu g p h60 (by decide) (by decide) (by simpa using hm) fun d _ h2 => Or.inl ⟨by decide, rfl, by omega⟩
theorem zQ.wrd {v : Int32} (q : zQ X h 0 I J) (g : zGo X h b k I J) (p : zPu X h 1 v J K) (hv : 0 ≤ v.toInt ∧ v.toInt ≤ 12) (h60 : (J h 12).toInt ≤ 60) (h61 : (K h 12).toInt ≤ 60) (hm : (I h 12).toInt + 1 ≤ (K h 12).toInt) : zQ X h 1 I K :=
  q.pu g p h60 (by decide) (by decide) (by simpa using hm) fun d _ h2 => Or.inr (Or.inl ⟨by decide, rfl, by omega, by rw [zsg_shr hv.1 hv.2]; exact hv⟩)
theorem zQ.bin {s v : Int32} {n : Nat} (q : zQ X h (n + 2) I J) (g : zGo X h b k I J) (p : zPu X h s v J K) (h60 : (J h 12).toInt ≤ 60) (e12 : K h 12 = J h 12) (hs : 2 ≤ s.toInt ∧ s.toInt ≤ 15 ∧ ¬ s.toInt = 11) : zQ X h (n + 1) I K :=
  q.pu g p h60 (by omega) (by omega) (by have := q.1; rw [e12]; omega) fun d h1 _ => Or.inr (Or.inr (Or.inr ⟨by omega, by omega, by omega, by omega, by omega, by omega⟩))
theorem zQ.not {s v : Int32} {n : Nat} (q : zQ X h (n + 1) I J) (g : zGo X h b k I J) (p : zPu X h s v J K) (h60 : (J h 12).toInt ≤ 60) (e12 : K h 12 = J h 12) (hs : s.toInt = 11) : zQ X h (n + 1) I K :=
  q.pu g p h60 (by omega) (by omega) (by have := q.1; rw [e12]; omega) fun d h1 _ => Or.inr (Or.inr (Or.inl ⟨hs, rfl, by omega, by omega⟩))
end ZPA
