/-! lines of a text -/
theorem zLi.eq {X : zq_X} {h : Nat} {I J : zq_M} (l : zLi X I h) (e11 : J h 11 = I h 11) (e14 : J h 14 = I h 14) (eN : ∀ j, J (zq_r X h 6) j = I (zq_r X h 6) j) : zLi X J h := by
  unfold zLi at l ⊢
  rw [e11, e14, eN, zTx.eq e11]
  exact l
