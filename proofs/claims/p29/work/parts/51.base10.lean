/-! a RULE's signs, well formed: how deep the stack is -/
def zst (s v : Int32) (d d2 : Nat) : Prop :=
  (s.toInt = 0 ∧ d2 = d + 1 ∧ d2 ≤ 60) ∨ (s.toInt = 1 ∧ d2 = d + 1 ∧ d2 ≤ 60 ∧ 0 ≤ v.toInt ∧ v.toInt ≤ 12) ∨ (s.toInt = 11 ∧ d2 = d ∧ 1 ≤ d ∧ d ≤ 60) ∨ (¬ s.toInt = 0 ∧ ¬ s.toInt = 1 ∧ ¬ s.toInt = 11 ∧ d = d2 + 1 ∧ 1 ≤ d2 ∧ d ≤ 60)
def zRN (X : zq_X) (I : zq_M) (h t b e : Nat) : Prop := b ≤ e ∧ e ≤ 400 ∧ ∃ D : Nat → Nat, D b = 0 ∧ D e = 1 ∧ ∀ i, b ≤ i → i < e → zst (I (zq_r X h 3) (400 * t + i) &&& 15) (I (zq_r X h 3) (400 * t + i) >>> (4 &&& 31)) (D i) (D (i + 1))
def zCl (X : zq_X) (I : zq_M) (h r c : Nat) : Prop := ∃ b e t f : Int32, I (zq_r X h 5) (48 * r + 4 * c) = b ∧ I (zq_r X h 5) (48 * r + 4 * c + 1) = e ∧ I (zq_r X h 5) (48 * r + 4 * c + 2) = t ∧ I (zq_r X h 5) (48 * r + 4 * c + 3) = f ∧
  (0 ≤ b.toInt ∧ b.toInt ≤ 400) ∧ (0 ≤ e.toInt ∧ e.toInt ≤ 400) ∧ (0 ≤ f.toInt ∧ f.toInt ≤ 400) ∧ t.toInt ≤ 400 ∧ zRN X I h r b.toNatClampNeg e.toNatClampNeg ∧ (t.toInt < 0 ∨ (0 ≤ t.toInt ∧ zRN X I h r t.toNatClampNeg f.toNatClampNeg))
def zWF (X : zq_X) (I : zq_M) (h : Nat) : Prop := ∀ r, r < 6 → ∀ c : Nat, (c : Int) < (I (zq_r X h 6) r).toInt → zCl X I h r c
section ZWF
variable {X : zq_X} {I I2 : zq_M} {h : Nat}
theorem zRN.eq {t b e : Nat} (hr : zRN X I h t b e) (he : ∀ j, I2 (zq_r X h 3) j = I (zq_r X h 3) j) : zRN X I2 h t b e := by
  obtain ⟨h1, h2, D, h3, h4, h5⟩ := hr
  exact ⟨h1, h2, D, h3, h4, fun i g1 g2 => by rw [he]; exact h5 i g1 g2⟩
theorem zWF.fr {Lw : List (Nat × Nat)} {P : Nat → Prop} (hw : zWF X I h) (L : zq_L X) (hk : zq_k X h = 10) (f : zq_fr (zf X Lw P) I I2) (n1 : Lw.all (fun q => q.1 != 51 && q.1 != 53 && q.1 != 54) = true) : zWF X I2 h := by
  have no : ∀ k j, k = 51 ∨ k = 53 ∨ k = 54 → zf_in Lw k j = false := by
    intro k j hkk
    unfold zf_in
    rw [List.any_eq_false]
    intro q hq
    have h1 := List.all_eq_true.mp n1 q hq
    simp only [Bool.and_eq_true, bne_iff_ne, ne_eq] at h1
    simp only [Bool.and_eq_true, beq_iff_eq, not_and]
    intro h2
    omega
  have k3 : zq_k X (zq_r X h 3) = 51 := zq_lk L.1 hk rfl (by decide)
  have k5 : zq_k X (zq_r X h 5) = 53 := zq_lk L.1 hk rfl (by decide)
  have k6 : zq_k X (zq_r X h 6) = 54 := zq_lk L.1 hk rfl (by decide)
  have e3 : ∀ j, I2 (zq_r X h 3) j = I (zq_r X h 3) j := fun j => f _ _ (zf_n k3 (no 51 j (Or.inl rfl)))
  have e5 : ∀ j, I2 (zq_r X h 5) j = I (zq_r X h 5) j := fun j => f _ _ (zf_n k5 (no 53 j (Or.inr (Or.inl rfl))))
  have e6 : ∀ j, I2 (zq_r X h 6) j = I (zq_r X h 6) j := fun j => f _ _ (zf_n k6 (no 54 j (Or.inr (Or.inr rfl))))
  intro r hr c hc
  rw [e6] at hc
  obtain ⟨b, e, t, g, h1, h2, h3, h4, h5, h6, h7, h8, h9, h10⟩ := hw r hr c hc
  refine ⟨b, e, t, g, by rw [e5]; exact h1, by rw [e5]; exact h2, by rw [e5]; exact h3, by rw [e5]; exact h4, h5, h6, h7, h8, h9.eq e3, ?_⟩
  rcases h10 with h10 | ⟨h10, h11⟩
  · exact Or.inl h10
  · exact Or.inr ⟨h10, h11.eq e3⟩
theorem zWF.put (hw : zWF X I h) (L : zq_L X) (hk : zq_k X h = 10) {a k j : Nat} {v : Int32} (e : I2 = zq_up I a j v) (ha : zq_k X a = k) (hn : k ≠ 51 ∧ k ≠ 53 ∧ k ≠ 54) : zWF X I2 h :=
  hw.fr (Lw := [(k, 999)]) (P := fun _ => True) L hk (fun b i q => by
    rw [e]
    by_cases e2 : b = a
    · exact absurd ⟨by rw [e2, ha]; simp [zf_in], fun _ => trivial⟩ q
    · exact zq_up_a e2) (by simp [hn])
end ZWF
