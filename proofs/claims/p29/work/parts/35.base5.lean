theorem zT.cp {X : zq_X} {I I2 : zq_M} {b : Int} {w o j : Nat} (h : zT I b (zq_r X (zq_r X o 9) j)) (c : zCp X I I2 w o 4) (hj : j < 4) : zT I2 b (zq_r X (zq_r X w 9) j) := by
  unfold zT at h ⊢
  rw [c.2 j hj hj 1 (by decide) (by decide), c.2 j hj hj 2 (by decide) (by decide), c.2 j hj hj 3 (by decide) (by decide), c.2 j hj hj 4 (by decide) (by decide)]
  exact h
theorem zq_now {X : zq_X} (L : zq_L X) {a : Nat} (hk : zq_k X a = 1) (h0 : zq_o X a = 0) : zq_o X (zq_r X a 0) = 100 := by
  have h := (L.2.2.1 _ hk).2.1
  rw [h0] at h
  exact h
theorem zq_beg {X : zq_X} (L : zq_L X) {a : Nat} (hk : zq_k X a = 1) (h0 : zq_o X a = 0) : zq_o X (zq_r X a 1) = 101 := by
  have h := (L.2.2.1 _ hk).2.2
  rw [h0] at h
  exact h
