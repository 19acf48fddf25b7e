/-! all worlds that are kept, in bounds -/
def zI (X : zq_X) (I : zq_M) (c : Nat) : Prop := ∀ w, zq_k X w = 8 → zq_o X w < 200 → zW X I (297 * (c : Int)) w
section ZI
variable {X : zq_X} {I I2 : zq_M} {c c2 : Nat} {w : Nat}
theorem zI.mono (h : zI X I c) (hc : c ≤ c2) : zI X I c2 := fun w h1 h2 => zW.mono (h w h1 h2) (by omega)
theorem zI.put (h : zI X I c) (L : zq_L X) {a k j : Nat} {v : Int32} (e : I2 = zq_up I a j v) (ha : zq_k X a = k) (hn : (k ≠ 7 ∧ k ≠ 8) ∨ (k = 7 ∧ (j = 0 ∨ 5 ≤ j)) ∨ (k = 8 ∧ j ≠ 6)) : zI X I2 c := fun w h1 h2 => zW.put (h w h1 h2) L h1 e ha hn
theorem zI.frL {Lw : List (Nat × Nat)} {P : Nat → Prop} (h : zI X I c) (L : zq_L X) (f : zq_fr (zf X Lw P) I I2) (h6 : zf_in Lw 8 6 = false) (hn : (zf_in Lw 7 1 || zf_in Lw 7 2 || zf_in Lw 7 3 || zf_in Lw 7 4) = false) : zI X I2 c := fun w h1 h2 => zW.frL (h w h1 h2) L h1 f h6 hn
theorem zI.frP {Lw : List (Nat × Nat)} {P : Nat → Prop} (h : zI X I c) (L : zq_L X) (f : zq_fr (zf X Lw P) I I2) (hP : ∀ q, P q → 200 ≤ zq_o X q) : zI X I2 c := fun w h1 h2 => zW.frP (h w h1 h2) L h1 f (fun q hq hp => by have := hP q hp; omega)
theorem zI.one {Lw : List (Nat × Nat)} (h : zI X I c) (L : zq_L X) (hw : zq_k X w = 8) (f : zq_fr (zf X Lw (fun b => zq_o X b = zq_o X w)) I I2) (hc : c ≤ c2) (hn : zW X I2 (297 * (c2 : Int)) w) : zI X I2 c2 := by
  intro v h1 h2
  by_cases e : v = w
  · rw [e]; exact hn
  · exact zW.mono (zW.frP (h v h1 h2) L h1 f (fun q hq hp => e (L.2.2.2.2.2.2.2.1 v w h1 hw (hq.symm.trans hp)))) (by omega)
theorem zI.town {Lw : List (Nat × Nat)} (h : zI X I c) (L : zq_L X) (hw : zq_k X w = 8) (hlt : zq_o X w < 200) {i : Nat} (hi : i < 4) (f : zq_fr (zf X Lw (fun q => q = zq_r X (zq_r X w 9) i)) I I2) (ht : zT I2 (297 * (c : Int)) (zq_r X (zq_r X w 9) i)) : zI X I2 c := by
  intro v h1 h2
  by_cases e : v = w
  · rw [e]; exact zW.one (h w hw hlt) L hw hi f (Int.le_refl _) ht
  · exact zW.frP (h v h1 h2) L h1 f (fun q hq hp => e (L.2.2.2.2.2.2.2.1 v w h1 hw (by rw [← hq, hp]; exact zW.ot L hw hi)))
theorem zI.two {Lw : List (Nat × Nat)} {a : Nat} (h : zI X I c) (L : zq_L X) (ha : zq_k X a = 1) (f : zq_fr (zf X Lw (fun b => zq_o X b = 100 + 2 * zq_o X a ∨ zq_o X b = 101 + 2 * zq_o X a)) I I2) (h1 : zW X I2 (297 * (c : Int)) (zq_r X a 0)) (h2 : zW X I2 (297 * (c : Int)) (zq_r X a 1)) : zI X I2 c := by
  intro v hv hlt
  have k0 : zq_k X (zq_r X a 0) = 8 := zq_lk L.1 ha rfl (by decide)
  have k1 : zq_k X (zq_r X a 1) = 8 := zq_lk L.1 ha rfl (by decide)
  have o := L.2.2.1 a ha
  by_cases e0 : v = zq_r X a 0
  · rw [e0]; exact h1
  · by_cases e1 : v = zq_r X a 1
    · rw [e1]; exact h2
    · refine zW.frP (h v hv hlt) L hv f (fun q hq hp => ?_)
      rcases hp with hp | hp
      · exact e0 (L.2.2.2.2.2.2.2.1 v _ hv k0 (by rw [← hq, hp, o.2.1]))
      · exact e1 (L.2.2.2.2.2.2.2.1 v _ hv k1 (by rw [← hq, hp, o.2.2]))
theorem zI.bn {a : Nat} (h : zI X I c) (L : zq_L X) (ha : zq_k X a = 1) : zW X I (297 * (c : Int)) (zq_r X a 0) := h _ (zq_lk L.1 ha rfl (by decide)) (by have := L.2.2.1 a ha; omega)
theorem zI.bb {a : Nat} (h : zI X I c) (L : zq_L X) (ha : zq_k X a = 1) : zW X I (297 * (c : Int)) (zq_r X a 1) := h _ (zq_lk L.1 ha rfl (by decide)) (by have := L.2.2.1 a ha; omega)
end ZI
theorem zS0.frP {X : zq_X} {I I2 : zq_M} {w : Nat} {Lw : List (Nat × Nat)} {P : Nat → Prop} (h : zS0 X I w) (L : zq_L X) (hk : zq_k X w = 8) (f : zq_fr (zf X Lw P) I I2) (hP : ∀ q, zq_o X q = zq_o X w → ¬ P q) : zS0 X I2 w := by
  intro i h1
  rw [f _ _ (zf_np (zW.kt L hk h1) rfl (hP _ (zW.ot L hk h1)))]
  exact h i h1
