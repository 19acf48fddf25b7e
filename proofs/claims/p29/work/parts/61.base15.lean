/-! clauses of the reference's RULES, while a text is read -/
def zWL (X : zq_X) (I : zq_M) (h : Nat) : Prop := ∀ r, r < 6 → ∀ c : Nat, (c : Int) < (I (zq_r X h 6) r).toInt → zCl X I h r c ∧ (r = zTx I h → (I (zq_r X h 5) (48 * r + 4 * c + 1)).toNatClampNeg ≤ zLn X I h ∧ (I (zq_r X h 5) (48 * r + 4 * c + 3)).toNatClampNeg ≤ zLn X I h)
/-- a stretch of signs that leaves one number -/
def zRg (X : zq_X) (h t b e : Nat) (I : zq_M) : Prop := t = zTx I h ∧ zDp X I h t b e 0 1 ∧ e ≤ zLn X I h
def zLi (X : zq_X) (I : zq_M) (h : Nat) : Prop := (I h 11).toInt ≤ 5 → (I (zq_r X h 6) (zTx I h)).toInt ≤ (I h 14).toInt ∧ (I h 14).toInt ≤ 12
section ZPC
variable {X : zq_X} {h : Nat} {I J K : zq_M} {b : Bool} {k : Int}
theorem zWL.wf (w : zWL X I h) : zWF X I h := fun r hr c hc => (w r hr c hc).1
theorem zRN.go {t b e : Nat} (hr : zRN X I h t b e) (he : ∀ i, i < e → J (zq_r X h 3) (400 * t + i) = I (zq_r X h 3) (400 * t + i)) : zRN X J h t b e := by
  obtain ⟨h1, h2, D, h3, h4, h5⟩ := hr
  exact ⟨h1, h2, D, h3, h4, fun i g1 g2 => by rw [he i g2]; exact h5 i g1 g2⟩
theorem zCl.go {r c n : Nat} (hc : zCl X I h r c) (h1 : (I (zq_r X h 5) (48 * r + 4 * c + 1)).toNatClampNeg ≤ n) (h3 : (I (zq_r X h 5) (48 * r + 4 * c + 3)).toNatClampNeg ≤ n) (eC : ∀ o, o < 4 → J (zq_r X h 5) (48 * r + 4 * c + o) = I (zq_r X h 5) (48 * r + 4 * c + o)) (eS : ∀ i, i < n → J (zq_r X h 3) (400 * r + i) = I (zq_r X h 3) (400 * r + i)) : zCl X J h r c := by
  obtain ⟨b, e, t, f, e0, e1, e2, e3, g0, g1, g2, g3, g4, g5⟩ := hc
  rw [e1] at h1
  rw [e3] at h3
  refine ⟨b, e, t, f, (eC 0 (by decide)).trans e0, (eC 1 (by decide)).trans e1, (eC 2 (by decide)).trans e2, (eC 3 (by decide)).trans e3, g0, g1, g2, g3, g4.go fun i hi => eS i (by omega), g5.imp id fun q => ⟨q.1, q.2.go fun i hi => eS i (by omega)⟩⟩
theorem zCl.le {r c : Nat} (hc : zCl X I h r c) : (I (zq_r X h 5) (48 * r + 4 * c + 1)).toNatClampNeg ≤ 400 ∧ (I (zq_r X h 5) (48 * r + 4 * c + 3)).toNatClampNeg ≤ 400 := by
  obtain ⟨b, e, t, f, e0, e1, e2, e3, g0, g1, g2, g3, g4, g5⟩ := hc
  rw [e1, e3]
  have := zq_cl g1.1
  have := zq_cl g2.1
  omega
/-- where the clauses' rows stay, and signs of counted clauses do -/
theorem zWL.sg (w : zWL X I h) (e11 : J h 11 = I h 11) (hl : zLn X I h ≤ zLn X J h) (eS : ∀ j, (j < 400 * zTx I h + zLn X I h ∨ 400 * zTx I h + 400 ≤ j) → J (zq_r X h 3) j = I (zq_r X h 3) j) (eC : ∀ j, J (zq_r X h 5) j = I (zq_r X h 5) j) (eN : ∀ j, J (zq_r X h 6) j = I (zq_r X h 6) j) : zWL X J h := by
  intro r hr c hc
  rw [eN] at hc
  obtain ⟨q, q2⟩ := w r hr c hc
  have t := zTx.eq e11
  refine ⟨?_, fun e => ?_⟩
  · by_cases e : r = zTx I h
    · obtain ⟨a1, a2⟩ := q2 e
      exact q.go a1 a2 (fun _ _ => eC _) fun i hi => eS _ (Or.inl (by rw [← e]; omega))
    · exact q.go q.le.1 q.le.2 (fun _ _ => eC _) fun i hi => eS _ (by omega)
  · rw [t] at e
    obtain ⟨a1, a2⟩ := q2 e
    rw [eC, eC]
    omega
theorem zWL.go (w : zWL X I h) (g : zGo X h b k I J) (eC : ∀ j, J (zq_r X h 5) j = I (zq_r X h 5) j) (eN : ∀ j, J (zq_r X h 6) j = I (zq_r X h 6) j) : zWL X J h :=
  w.sg g.1 g.2.2.2.2.1 g.2.2.2.2.2.2.2 eC eN
/-- the clause that is being read lies behind the counted ones -/
theorem zWL.put (w : zWL X J h) (L : zq_L X) (hk : zq_k X h = 10) {x : Nat} {v : Int32} (e : K = zq_up J (zq_r X h 5) x v) {t n : Nat} (ht : zTx J h = t) (hn : (n : Int) = (J (zq_r X h 6) t).toInt) (h1 : 48 * t + 4 * n ≤ x) (h2 : x < 48 * t + 48) (h12 : ∀ r, (J (zq_r X h 6) r).toInt ≤ 12) : zWL X K h := by
  have k5 : zq_k X (zq_r X h 5) = 53 := zq_lk L.1 hk rfl (by decide)
  have k6 : zq_k X (zq_r X h 6) = 54 := zq_lk L.1 hk rfl (by decide)
  have eN : ∀ j, K (zq_r X h 6) j = J (zq_r X h 6) j := fun j => zq_kp e (Or.inl (zq_kne k6 k5 (by decide))) rfl
  have e11 : K h 11 = J h 11 := zpu_o hk e k5 (Or.inl (by decide))
  have l := zLn.eq e11 (zpu_l L hk e k5 (by decide))
  have tt := zTx.eq e11
  intro r hr c hc
  rw [eN] at hc
  obtain ⟨q, q2⟩ := w r hr c hc
  have hc12 := h12 r
  have ne : ∀ o, o < 4 → 48 * r + 4 * c + o ≠ x := by
    intro o ho
    by_cases er : r = t
    · subst er; omega
    · omega
  have eC : ∀ o, o < 4 → K (zq_r X h 5) (48 * r + 4 * c + o) = J (zq_r X h 5) (48 * r + 4 * c + o) := fun o ho => zq_kp e (Or.inr (ne o ho)) rfl
  refine ⟨q.go q.le.1 q.le.2 eC fun i _ => zpu_s L hk e k5 (by decide) _, fun er => ?_⟩
  rw [tt] at er
  rw [l, eC 1 (by decide), eC 3 (by decide)]
  exact q2 er
theorem zWL.new (w : zWL X J h) (L : zq_L X) (hk : zq_k X h = 10) {t : Nat} {v n : Int32} (e : K = zq_up J (zq_r X h 6) t v) (ht : zTx J h = t) (hn : J (zq_r X h 6) t = n) (h0 : 0 ≤ n.toInt) (hv : v.toInt = n.toInt + 1) (q : zCl X J h t n.toNatClampNeg) (h1 : (J (zq_r X h 5) (48 * t + 4 * n.toNatClampNeg + 1)).toNatClampNeg ≤ zLn X J h) (h3 : (J (zq_r X h 5) (48 * t + 4 * n.toNatClampNeg + 3)).toNatClampNeg ≤ zLn X J h) : zWL X K h := by
  have k5 : zq_k X (zq_r X h 5) = 53 := zq_lk L.1 hk rfl (by decide)
  have k6 : zq_k X (zq_r X h 6) = 54 := zq_lk L.1 hk rfl (by decide)
  have eC : ∀ j, K (zq_r X h 5) j = J (zq_r X h 5) j := fun j => zq_kp e (Or.inl (zq_kne k5 k6 (by decide))) rfl
  have eS := zpu_s L hk e k6 (by decide)
  have e11 : K h 11 = J h 11 := zpu_o hk e k6 (Or.inl (by decide))
  have l := zLn.eq e11 (zpu_l L hk e k6 (by decide))
  have tt := zTx.eq e11
  have cn := zq_cl h0
  intro r hr c hc
  by_cases er : r = t ∧ c = n.toNatClampNeg
  · obtain ⟨rfl, rfl⟩ := er
    exact ⟨q.go q.le.1 q.le.2 (fun _ _ => eC _) fun i _ => eS _, fun _ => by rw [eC, eC, l]; exact ⟨h1, h3⟩⟩
  · have hc2 : (c : Int) < (J (zq_r X h 6) r).toInt := by
      by_cases e2 : r = t
      · subst e2
        rw [zq_kv e] at hc
        rw [hn]
        have : c ≠ n.toNatClampNeg := fun q => er ⟨rfl, q⟩
        omega
      · rw [zq_kp e (Or.inr e2) rfl] at hc
        exact hc
    obtain ⟨p, p2⟩ := w r hr c hc2
    refine ⟨p.go p.le.1 p.le.2 (fun _ _ => eC _) fun i _ => eS _, fun e2 => ?_⟩
    rw [tt] at e2
    rw [eC, eC, l]
    exact p2 e2
theorem zRg.go {t b2 e : Nat} (r : zRg X h t b2 e I) (g : zGo X h b k I J) : zRg X h t b2 e J := by
  obtain ⟨r1, r2, r3⟩ := r
  refine ⟨r1.trans (zTx.eq g.1).symm, r2.eq fun i _ hi => g.2.2.2.2.2.2.2 _ (Or.inl (by rw [← r1]; omega)), Nat.le_trans r3 g.2.2.2.2.1⟩
theorem zRg.pt {t b2 e : Nat} (r : zRg X h t b2 e J) (L : zq_L X) (hk : zq_k X h = 10) {a κ j : Nat} {v : Int32} (q : K = zq_up J a j v) (ha : zq_k X a = κ) (hn : κ ≠ 10 ∧ κ ≠ 51 ∧ κ ≠ 52) : zRg X h t b2 e K := by
  have e11 : K h 11 = J h 11 := zpu_o hk q ha (Or.inl hn.1)
  refine ⟨r.1.trans (zTx.eq e11).symm, r.2.1.eq fun i _ _ => zpu_s L hk q ha hn.2.1 _, ?_⟩
  rw [zLn.eq e11 (zpu_l L hk q ha hn.2.2)]
  exact r.2.2
theorem zRg.mk (q : zQ X h 1 I J) (g : zGo X h b k I J) (h0 : 0 ≤ (I h 12).toInt) : zRg X h (zTx J h) (zLn X I h) (zLn X J h) J := by
  have t := zTx.eq g.1
  refine ⟨rfl, ?_, Nat.le_refl _⟩
  rw [t]
  exact q.2 0 (by simpa using h0)
theorem zCl.mk {r c : Nat} {b0 e t f : Int32} (e0 : I (zq_r X h 5) (48 * r + 4 * c) = b0) (e1 : I (zq_r X h 5) (48 * r + 4 * c + 1) = e) (e2 : I (zq_r X h 5) (48 * r + 4 * c + 2) = t) (e3 : I (zq_r X h 5) (48 * r + 4 * c + 3) = f) (g0 : 0 ≤ b0.toInt ∧ b0.toInt ≤ 400) (g1 : 0 ≤ e.toInt ∧ e.toInt ≤ 400) (g2 : 0 ≤ f.toInt ∧ f.toInt ≤ 400) (g3 : t.toInt ≤ 400) (q : zRg X h r b0.toNatClampNeg e.toNatClampNeg I) (q2 : t.toInt < 0 ∨ (0 ≤ t.toInt ∧ zRg X h r t.toNatClampNeg f.toNatClampNeg I)) : zCl X I h r c := by
  have c1 := zq_cl g1.1
  have c2 := zq_cl g2.1
  exact ⟨b0, e, t, f, e0, e1, e2, e3, g0, g1, g2, g3, q.2.1.rn (by omega), q2.imp id fun w => ⟨w.1, w.2.2.1.rn (by omega)⟩⟩
theorem zWF.zero (w : zWF X J h) (L : zq_L X) (hk : zq_k X h = 10) {t : Nat} {v : Int32} (e : K = zq_up J (zq_r X h 6) t v) (hv : v.toInt ≤ 0) : zWF X K h := by
  have k5 : zq_k X (zq_r X h 5) = 53 := zq_lk L.1 hk rfl (by decide)
  have k6 : zq_k X (zq_r X h 6) = 54 := zq_lk L.1 hk rfl (by decide)
  intro r hr c hc
  by_cases e2 : r = t
  · subst e2
    rw [zq_kv e] at hc
    omega
  · rw [zq_kp e (Or.inr e2) rfl] at hc
    have p := w r hr c hc
    exact p.go p.le.1 p.le.2 (fun _ _ => zq_kp e (Or.inl (zq_kne k5 k6 (by decide))) rfl) fun i _ => zpu_s L hk e k6 (by decide) _
/-- at the start of a text -/
theorem zWL.of (w : zWF X J h) (h0 : zTx J h ≤ 5 → (J (zq_r X h 6) (zTx J h)).toInt ≤ 0) : zWL X J h := fun r hr c hc => ⟨w r hr c hc, fun e => by
  subst e
  have := h0 (by omega)
  omega⟩
end ZPC
