/-! rows of the reference: from one to another -/
theorem zk_c {z : zq_Z} {x y : Nat} {v : Int} (h : (zq_rg z 60 x).1 ≤ v ∧ v ≤ (zq_rg z 60 x).2) (e : x % 35 = y % 35) : (zq_rg z 60 y).1 ≤ v ∧ v ≤ (zq_rg z 60 y).2 := by
  show (zq_sd z.1 (10 + y % 35)).1 ≤ v ∧ v ≤ (zq_sd z.1 (10 + y % 35)).2
  rw [← e]; exact h
theorem zk_d {zk zn x y : Nat} {v : Int} (h : (zq_rg (zk, zn) 59 x).1 ≤ v ∧ v ≤ (zq_rg (zk, zn) 59 x).2) (e : x = 10 + y % 35) (hz : zn ≤ zk) : (zq_rg (zk, zn) 60 y).1 ≤ v ∧ v ≤ (zq_rg (zk, zn) 60 y).2 := by
  subst e
  have e := zd_le hz (10 + y % 35)
  exact ⟨by show (zq_sd zk (10 + y % 35)).1 ≤ v; rw [e.1]; exact h.1, Int.le_trans h.2 e.2⟩
theorem zk_e {zk zn x y : Nat} {v : Int} (h : (zq_rg (zk, zn) 60 y).1 ≤ v ∧ v ≤ (zq_rg (zk, zn) 60 y).2) (e : x = 10 + y % 35) (hz : zk ≤ zn) : (zq_rg (zk, zn) 59 x).1 ≤ v ∧ v ≤ (zq_rg (zk, zn) 59 x).2 := by
  subst e
  have e := zd_le hz (10 + y % 35)
  exact ⟨by show (zq_sd zn (10 + y % 35)).1 ≤ v; rw [e.1]; exact h.1, Int.le_trans h.2 e.2⟩
theorem zk_f {zk zn x y : Nat} {v : Int} (h : (zq_rg (zk, zn) 59 x).1 ≤ v ∧ v ≤ (zq_rg (zk, zn) 59 x).2) (e : x = y % 106) (hz : zn ≤ zk) : (zq_rg (zk, zn) 64 y).1 ≤ v ∧ v ≤ (zq_rg (zk, zn) 64 y).2 := by
  subst e
  have e := zd_le hz (y % 106)
  exact ⟨by show (zq_sd zk (y % 106)).1 ≤ v; rw [e.1]; exact h.1, Int.le_trans h.2 e.2⟩
theorem zk_g {zk zn x y : Nat} {v : Int} (h : (zq_rg (zk, zn) 64 y).1 ≤ v ∧ v ≤ (zq_rg (zk, zn) 64 y).2) (e : x = y % 106) (hz : zk ≤ zn) : (zq_rg (zk, zn) 59 x).1 ≤ v ∧ v ≤ (zq_rg (zk, zn) 59 x).2 := by
  subst e
  have e := zd_le hz (y % 106)
  exact ⟨by show (zq_sd zn (y % 106)).1 ≤ v; rw [e.1]; exact h.1, Int.le_trans h.2 e.2⟩
theorem zk_h {zk zn x y : Nat} {v : Int} (h : (zq_rg (zk, zn) 55 x).1 ≤ v ∧ v ≤ (zq_rg (zk, zn) 55 x).2) (e : x = y) : (zq_rg (zk, zn) 59 y).1 ≤ v ∧ v ≤ (zq_rg (zk, zn) 59 y).2 := by
  subst e
  have e := zd_le (Nat.zero_le zn) x
  exact ⟨by show (zq_sd zn x).1 ≤ v; rw [e.1]; exact h.1, Int.le_trans h.2 e.2⟩
theorem zk_0 (c j : Nat) : (zq_sd c j).1 ≤ 0 ∧ 0 ≤ (zq_sd c j).2 := by
  unfold zq_sd zq_min zq_max
  split <;> (constructor <;> simp <;> omega)
