/-! towns and worlds in bounds -/
def zT (I : zq_M) (b : Int) (t : Nat) : Prop := (0 ≤ (I t 1).toInt ∧ (I t 1).toInt ≤ 60) ∧ (0 ≤ (I t 2).toInt ∧ (I t 2).toInt ≤ 99) ∧ (0 ≤ (I t 3).toInt ∧ (I t 3).toInt ≤ 99) ∧ 0 ≤ (I t 4).toInt ∧ (I t 4).toInt ≤ b
def zW (X : zq_X) (I : zq_M) (b : Int) (w : Nat) : Prop := ∀ j : Nat, j < 4 → (j : Int) < (I w 6).toInt → zT I b (zq_r X (zq_r X w 9) j)
theorem zT.eq {I I2 : zq_M} {b : Int} {t : Nat} (h : zT I b t) (e : ∀ j, 1 ≤ j → j ≤ 4 → I2 t j = I t j) : zT I2 b t := by
  unfold zT
  rw [e 1 (by decide) (by decide), e 2 (by decide) (by decide), e 3 (by decide) (by decide), e 4 (by decide) (by decide)]
  exact h
theorem zT.mono {I : zq_M} {b b2 : Int} {t : Nat} (h : zT I b t) (hb : b ≤ b2) : zT I b2 t := ⟨h.1, h.2.1, h.2.2.1, h.2.2.2.1, Int.le_trans h.2.2.2.2 hb⟩
theorem zT.put {I I2 : zq_M} {b : Int} {t a j : Nat} {v : Int32} (h : zT I b t) (e : I2 = zq_up I a j v) (hn : t ≠ a ∨ j = 0 ∨ 5 ≤ j) : zT I2 b t := by
  refine h.eq fun i h1 h2 => ?_
  rw [e]
  rcases hn with hn | hn
  · exact zq_up_a hn
  · exact zq_up_j (by omega)
theorem zT.put2 {I I2 : zq_M} {b : Int} {t : Nat} {v : Int32} (h : zT I b t) (e : I2 = zq_up I t 2 v) (hv : 0 ≤ v.toInt ∧ v.toInt ≤ 99) : zT I2 b t := by
  unfold zT
  rw [e, zq_up_j (show 1 ≠ 2 by decide), zq_up_eq, zq_up_j (show 3 ≠ 2 by decide), zq_up_j (show 4 ≠ 2 by decide)]
  exact ⟨h.1, hv, h.2.2⟩
theorem zT.put3 {I I2 : zq_M} {b : Int} {t : Nat} {v : Int32} (h : zT I b t) (e : I2 = zq_up I t 3 v) (hv : 0 ≤ v.toInt ∧ v.toInt ≤ 99) : zT I2 b t := by
  unfold zT
  rw [e, zq_up_j (show 1 ≠ 3 by decide), zq_up_eq, zq_up_j (show 2 ≠ 3 by decide), zq_up_j (show 4 ≠ 3 by decide)]
  exact ⟨h.1, h.2.1, hv, h.2.2.2⟩
theorem zT.put4 {I I2 : zq_M} {b b2 : Int} {t : Nat} {v : Int32} (h : zT I b t) (e : I2 = zq_up I t 4 v) (hv : 0 ≤ v.toInt ∧ v.toInt ≤ b2) : zT I2 b2 t := by
  unfold zT
  rw [e, zq_up_j (show 1 ≠ 4 by decide), zq_up_eq, zq_up_j (show 2 ≠ 4 by decide), zq_up_j (show 3 ≠ 4 by decide)]
  exact ⟨h.1, h.2.1, h.2.2.1, hv⟩
theorem zT.r1 {I : zq_M} {b : Int} {t : Nat} {x : Int32} (h : zT I b t) (e : I t 1 = x) : 0 ≤ x.toInt ∧ x.toInt ≤ 60 := by rw [← e]; exact h.1
theorem zT.r2 {I : zq_M} {b : Int} {t : Nat} {x : Int32} (h : zT I b t) (e : I t 2 = x) : 0 ≤ x.toInt ∧ x.toInt ≤ 99 := by rw [← e]; exact h.2.1
theorem zT.r3 {I : zq_M} {b : Int} {t : Nat} {x : Int32} (h : zT I b t) (e : I t 3 = x) : 0 ≤ x.toInt ∧ x.toInt ≤ 99 := by rw [← e]; exact h.2.2.1
theorem zT.r4 {I : zq_M} {b : Int} {t : Nat} {x : Int32} (h : zT I b t) (e : I t 4 = x) : 0 ≤ x.toInt ∧ x.toInt ≤ b := by rw [← e]; exact h.2.2.2
theorem zT.fr {X : zq_X} {Lw : List (Nat × Nat)} {P : Nat → Prop} {I I2 : zq_M} {b : Int} {t : Nat} (h : zT I b t) (f : zq_fr (zf X Lw P) I I2) (hk : zq_k X t = 7) (hn : (zf_in Lw 7 1 || zf_in Lw 7 2 || zf_in Lw 7 3 || zf_in Lw 7 4) = false) : zT I2 b t := by
  simp only [Bool.or_eq_false_iff] at hn
  obtain ⟨⟨⟨n1, n2⟩, n3⟩, n4⟩ := hn
  refine h.eq fun j h1 h2 => ?_
  rcases (show j = 1 ∨ j = 2 ∨ j = 3 ∨ j = 4 by omega) with rfl | rfl | rfl | rfl
  · exact f _ _ (zf_n hk n1)
  · exact f _ _ (zf_n hk n2)
  · exact f _ _ (zf_n hk n3)
  · exact f _ _ (zf_n hk n4)
theorem zT.frP {X : zq_X} {Lw : List (Nat × Nat)} {P : Nat → Prop} {I I2 : zq_M} {b : Int} {t : Nat} (h : zT I b t) (f : zq_fr (zf X Lw P) I I2) (hk : zq_k X t = 7) (hn : ¬ P t) : zT I2 b t :=
  h.eq fun j _ _ => f _ _ (zf_np hk rfl hn)
section ZW2
variable {X : zq_X} {I I2 : zq_M} {b b2 : Int} {w : Nat}
theorem zW.kt (L : zq_L X) (hk : zq_k X w = 8) {j : Nat} (hj : j < 4) : zq_k X (zq_r X (zq_r X w 9) j) = 7 := zq_lay_a L.1 (zq_lk L.1 hk rfl (by decide)) (n := 4) hj (by decide) (by decide)
theorem zW.ot (L : zq_L X) (hk : zq_k X w = 8) {j : Nat} (hj : j < 4) : zq_o X (zq_r X (zq_r X w 9) j) = zq_o X w := (zq_own_a L.2.1 (zq_lk L.1 hk rfl (by decide)) (n := 4) hj (by decide)).trans (L.2.1 _ _ _ hk (by decide) rfl)
theorem zW.mono (h : zW X I b w) (hb : b ≤ b2) : zW X I b2 w := fun j h1 h2 => (h j h1 h2).mono hb
theorem zW.town (h : zW X I b w) {i : Int32} {n : Int32} (e : I w 6 = n) (h0 : 0 ≤ i.toInt) (h4 : i.toInt < 4) (hn : i.toInt < n.toInt) : zT I b (zq_r X (zq_r X w 9) i.toNatClampNeg) := by
  have hc := zq_cl h0
  exact h _ (by omega) (by rw [e]; omega)
theorem zW.frL {Lw : List (Nat × Nat)} {P : Nat → Prop} (h : zW X I b w) (L : zq_L X) (hk : zq_k X w = 8) (f : zq_fr (zf X Lw P) I I2) (h6 : zf_in Lw 8 6 = false) (hn : (zf_in Lw 7 1 || zf_in Lw 7 2 || zf_in Lw 7 3 || zf_in Lw 7 4) = false) : zW X I2 b w := by
  intro j h1 h2
  rw [f w 6 (zf_n hk h6)] at h2
  exact (h j h1 h2).fr f (zW.kt L hk h1) hn
theorem zW.frP {Lw : List (Nat × Nat)} {P : Nat → Prop} (h : zW X I b w) (L : zq_L X) (hk : zq_k X w = 8) (f : zq_fr (zf X Lw P) I I2) (hP : ∀ q, zq_o X q = zq_o X w → ¬ P q) : zW X I2 b w := by
  intro j h1 h2
  rw [f w 6 (zf_np hk rfl (hP w rfl))] at h2
  exact (h j h1 h2).frP f (zW.kt L hk h1) (hP _ (zW.ot L hk h1))
theorem zW.put (h : zW X I b w) (L : zq_L X) (hk : zq_k X w = 8) {a k j : Nat} {v : Int32} (e : I2 = zq_up I a j v) (ha : zq_k X a = k) (hn : (k ≠ 7 ∧ k ≠ 8) ∨ (k = 7 ∧ (j = 0 ∨ 5 ≤ j)) ∨ (k = 8 ∧ j ≠ 6)) : zW X I2 b w := by
  intro i h1 h2
  have e6 : I2 w 6 = I w 6 := by
    rw [e]
    rcases hn with hn | hn | hn
    · exact zq_up_a fun q => hn.2 (by rw [← ha, ← q]; exact hk)
    · exact zq_up_a fun q => by have := hn.1; rw [← ha, ← q, hk] at this; exact absurd this (by decide)
    · exact zq_up_j (Ne.symm hn.2)
  rw [e6] at h2
  refine (h i h1 h2).put e ?_
  have hk7 := zW.kt L hk h1
  rcases hn with hn | hn | hn
  · exact Or.inl fun q => hn.1 (by rw [← ha, ← q]; exact hk7)
  · exact Or.inr hn.2
  · exact Or.inl fun q => by have := hn.1; rw [← ha, ← q, hk7] at this; exact absurd this (by decide)
/-- one town is another: the rest as it was -/
theorem zW.one {Lw : List (Nat × Nat)} (h : zW X I b w) (L : zq_L X) (hk : zq_k X w = 8) {i : Nat} (hi : i < 4) (f : zq_fr (zf X Lw (fun q => q = zq_r X (zq_r X w 9) i)) I I2) (hb : b ≤ b2) (ht : zT I2 b2 (zq_r X (zq_r X w 9) i)) : zW X I2 b2 w := by
  intro j h1 h2
  rw [f w 6 (zf_np hk rfl (fun q => by have := zW.kt L hk hi; rw [← q, hk] at this; exact absurd this (by decide)))] at h2
  by_cases e : j = i
  · rw [e]; exact ht
  · exact ((h j h1 h2).frP f (zW.kt L hk h1) (fun q => e (L.2.2.2.2.2.2.1 _ _ _ (zq_lk L.1 hk rfl (by decide)) h1 hi q))).mono hb
end ZW2
theorem zx_melt {a b x1 x2 x3 x4 : Int32} (e1 : x1 = a * b) (e2 : x2 = x1 + 99) (e3 : x3 = x2 / 100) (e4 : x4 = a - x3) (h : 0 ≤ a.toInt ∧ a.toInt ≤ 1000000 ∧ 0 ≤ b.toInt ∧ b.toInt ≤ 60) : 0 ≤ x4.toInt ∧ x4.toInt ≤ a.toInt := by
  obtain ⟨h1, h2, h3, h4⟩ := h
  have m := zi_mulb e1 0 1000000 0 60 ⟨h1, h2⟩ ⟨h3, h4⟩ (by decide)
  obtain ⟨m1, m2, m3⟩ := m
  have m4 : x1.toInt ≤ a.toInt * 60 := by rw [m1]; exact Int.mul_le_mul_of_nonneg_left h4 h1
  have t2 := zi_add e2 rfl (show (99 : Int32).toInt = 99 by decide +kernel) ⟨by omega, by omega⟩
  have t3 := zi_divn e3 rfl (show (100 : Int32).toInt = 100 by decide +kernel) (by decide) (by omega)
  have t4 := zi_sub e4 rfl rfl ⟨by omega, by omega⟩
  omega
