/-! the rows of the reference: kept, laid back -/
theorem zk_a {zk zn x k : Nat} {v : Int} (h : (zq_rg (zk, zn) 59 x).1 ≤ v ∧ v ≤ (zq_rg (zk, zn) 59 x).2) (hx : x = 10 + k) (hz : zn ≤ zk) : (zq_rg (zk, zn) 61 k).1 ≤ v ∧ v ≤ (zq_rg (zk, zn) 61 k).2 := by
  subst hx
  have e := zd_le hz (10 + k)
  exact ⟨by show (zq_sd zk (10 + k)).1 ≤ v; rw [e.1]; exact h.1, Int.le_trans h.2 e.2⟩
theorem zk_b {zk zn x k : Nat} {v : Int} (h : (zq_rg (zk, zn) 61 k).1 ≤ v ∧ v ≤ (zq_rg (zk, zn) 61 k).2) (hx : x = 10 + k) (hz : zk ≤ zn) : (zq_rg (zk, zn) 59 x).1 ≤ v ∧ v ≤ (zq_rg (zk, zn) 59 x).2 := by
  subst hx
  have e := zd_le hz (10 + k)
  exact ⟨by show (zq_sd zn (10 + k)).1 ≤ v; rw [e.1]; exact h.1, Int.le_trans h.2 e.2⟩
/-- slots 10 to 10 + n of a row lie in the kept ranges -/
def zLB (I : zq_M) (a c : Nat) (n : Int) : Prop := ∀ j : Nat, 10 ≤ j → (j : Int) < 10 + n → (zq_sd c j).1 ≤ (I a j).toInt ∧ (I a j).toInt ≤ (zq_sd c j).2
theorem zLB.none {I : zq_M} {a c : Nat} {n : Int} (h : n ≤ 0) : zLB I a c n := fun j h1 h2 => absurd h2 (by omega)
theorem zLB.put {I I2 : zq_M} {a c x : Nat} {n n2 : Int} {v : Int32} (h : zLB I a c n) (e : I2 = zq_up I a x v) (hx : (x : Int) = 10 + n) (hn : n2 = n + 1) (hv : (zq_sd c x).1 ≤ v.toInt ∧ v.toInt ≤ (zq_sd c x).2) : zLB I2 a c n2 := by
  intro j h1 h2
  rw [e]
  by_cases q : j = x
  · rw [q, zq_up_eq]; exact hv
  · rw [zq_up_j q]; exact h j h1 (by omega)
theorem zd_out (c c2 : Nat) (j : Nat) (h : j < 10 ∨ 45 ≤ j) : zq_sd c j = zq_sd c2 j := by
  unfold zq_sd
  split <;> first | rfl | (exfalso; omega)
theorem zq_hm.low {X : zq_X} {zk m : Nat} {I : zq_M} {H : Heap} (h : zq_hm X (zk, m) I H) (L : zq_L X) {a : Nat} (ha : zq_k X a = 59) (hl : zLB I a zk 35) : zq_hm X (zk, zk) I H := by
  refine ⟨h.1, h.2.1, fun b j => ?_, h.2.2.2⟩
  have hb := h.2.2.1 b j
  by_cases e : zq_k X b = 59
  · have eb := L.2.2.2.2.2.2.2.2.2 b a e ha
    rw [eb, ha] at hb ⊢
    show (zq_sd zk j).1 ≤ _ ∧ _ ≤ (zq_sd zk j).2
    by_cases q : j < 10 ∨ 45 ≤ j
    · rw [zd_out zk m j q]; exact hb
    · exact hl j (by omega) (by omega)
  · have eq : zq_rg (zk, m) (zq_k X b) j = zq_rg (zk, zk) (zq_k X b) j := by
      unfold zq_rg
      split <;> first | rfl | (exfalso; apply e; assumption)
    rw [← eq]; exact hb
