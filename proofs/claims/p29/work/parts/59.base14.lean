/-! signs that wait -/
def zCn (f : Nat → Int32) : Nat → Nat
  | 0 => 0
  | n + 1 => zCn f n + (if (f n).toInt = 12 ∨ (f n).toInt = 13 then 1 else 0)
def zC (X : zq_X) (I : zq_M) (h : Nat) : Nat := zCn (I (zq_r X h 15)) (I h 16).toNatClampNeg
def zOk (X : zq_X) (I : zq_M) (h : Nat) : Prop := ∀ k : Nat, k < (I h 16).toNatClampNeg → (I (zq_r X h 15) k).toInt = 11 ∨ (I (zq_r X h 15) k).toInt = 12 ∨ (I (zq_r X h 15) k).toInt = 13 ∨ (I (zq_r X h 15) k).toInt = 91
theorem zCn.eq {f g : Nat → Int32} : ∀ {n : Nat}, (∀ k, k < n → f k = g k) → zCn f n = zCn g n
  | 0, _ => rfl
  | n + 1, h => by
    unfold zCn
    rw [zCn.eq (n := n) (fun k hk => h k (by omega)), h n (by omega)]
/-- settled signs: the stack falls as those that wait do -/
def zE (X : zq_X) (h : Nat) (I J : zq_M) : Prop := zOk X J h ∧ zC X J h ≤ zC X I h ∧ ∀ d : Nat, d + 1 + zC X I h ≤ 60 → zDp X J h (zTx I h) (zLn X I h) (zLn X J h) (d + 1 + zC X I h) (d + 1 + zC X J h)
def zSe (X : zq_X) (h : Nat) (I J : zq_M) : Prop := zE X h I J ∧ (∀ j, J (zq_r X h 15) j = I (zq_r X h 15) j) ∧ (J h 16).toInt ≤ (I h 16).toInt ∧ ∀ k : Nat, (J h 16).toInt ≤ (k : Int) → (k : Int) < (I h 16).toInt → ¬ (I (zq_r X h 15) k).toInt = 91
/-- since I the signs raise the stack by e and by those that wait -/
def zQc (X : zq_X) (h e : Nat) (I J : zq_M) : Prop := zQ X h (e + zC X J h) I J ∧ zOk X J h
section ZPB
variable {X : zq_X} {h : Nat} {I J K : zq_M} {b b2 : Bool} {k k2 m : Int} {δ ε e : Nat}
theorem zC.eq (e16 : J h 16 = I h 16) (eo : ∀ j, J (zq_r X h 15) j = I (zq_r X h 15) j) : zC X J h = zC X I h := by
  unfold zC
  rw [e16]
  exact zCn.eq fun k _ => eo k
theorem zOk.eq (o : zOk X I h) (e16 : J h 16 = I h 16) (eo : ∀ j, J (zq_r X h 15) j = I (zq_r X h 15) j) : zOk X J h := fun k hk => by
  rw [e16] at hk
  rw [eo]
  exact o k hk
theorem zE.rf (o : zOk X I h) : zE X h I I := ⟨o, Nat.le_refl _, fun _ _ => zDp.nil⟩
theorem zE.tr (e : zE X h I J) (g : zGo X h b k I J) (g2 : zGo X h b2 k2 J K) (e2 : zE X h J K) : zE X h I K := by
  refine ⟨e2.1, Nat.le_trans e2.2.1 e.2.1, fun d hd => ?_⟩
  have t := zTx.eq g.1
  have h1 := e.2.2 d hd
  have h2 := e2.2.2 d (by have := e.2.1; omega)
  have c8 := g2.2.2.2.2.2.2.2
  rw [t] at c8 h2
  exact (h1.eq (J := K) fun i _ hi => c8 _ (Or.inl (by omega))).cat h2
theorem zE.st (e : zE X h I J) (eS : ∀ j, K (zq_r X h 3) j = J (zq_r X h 3) j) (eL : zLn X K h = zLn X J h) (e16 : K h 16 = J h 16) (eo : ∀ j, K (zq_r X h 15) j = J (zq_r X h 15) j) : zE X h I K := by
  refine ⟨e.1.eq e16 eo, by rw [zC.eq e16 eo]; exact e.2.1, fun d hd => ?_⟩
  rw [eL, zC.eq e16 eo]
  exact (e.2.2 d hd).eq fun i _ _ => eS _
theorem zC.put {x v : Int32} (h1 : K h 16 = v) (h2 : J h 16 = x) (hv : v.toNatClampNeg + 1 = x.toNatClampNeg) (eo : ∀ j, j < v.toNatClampNeg → K (zq_r X h 15) j = J (zq_r X h 15) j) : zC X J h = zC X K h + (if (J (zq_r X h 15) v.toNatClampNeg).toInt = 12 ∨ (J (zq_r X h 15) v.toNatClampNeg).toInt = 13 then 1 else 0) := by
  unfold zC
  rw [h1, h2, ← hv]
  show zCn _ v.toNatClampNeg + _ = _
  rw [zCn.eq (f := K (zq_r X h 15)) (g := J (zq_r X h 15)) fun k hk => eo k hk]
/-- one sign is settled -/
theorem zE.pop {J1 : zq_M} {x v s : Int32} (e : zE X h I J) (g : zGo X h b k I J) (L : zq_L X) (hk : zq_k X h = 10) (e1 : J1 = zq_up J h 16 v) (h2 : J h 16 = x) (hv : v.toNatClampNeg + 1 = x.toNatClampNeg) (p : zPu X h s 0 J1 K) {Lw : List (Nat × Nat)} {P : Nat → Prop} (f : zq_fr (zf X Lw P) J1 K) (n16 : zf_in Lw 10 16 = false) (n56 : zfn Lw 56 = true) (hs : J (zq_r X h 15) v.toNatClampNeg = s) (h3 : s.toInt = 11 ∨ s.toInt = 12 ∨ s.toInt = 13) : zE X h I K := by
  have k56 : zq_k X (zq_r X h 15) = 56 := zq_lk L.1 hk rfl (by decide)
  have eo1 : ∀ j, J1 (zq_r X h 15) j = J (zq_r X h 15) j := fun j => zq_kp e1 (Or.inl (zq_kne k56 hk (by decide))) rfl
  have eo : ∀ j, K (zq_r X h 15) j = J (zq_r X h 15) j := fun j => (zfr_s (s := 15) L hk f rfl (by decide) n56 j).trans (eo1 j)
  have e16 : K h 16 = v := (zfr_o hk f n16).trans (zq_kv e1)
  have hc := zC.put e16 h2 hv (fun j _ => eo j)
  rw [hs] at hc
  have t1 : zTx J1 h = zTx J h := zTx.eq (zpu_o hk e1 hk (Or.inr (by decide)))
  have l1 : zLn X J1 h = zLn X J h := zLn.eq (zpu_o hk e1 hk (Or.inr (by decide))) (zpu_l L hk e1 hk (by decide))
  have s1 := zpu_s L hk e1 hk (by decide)
  have t := zTx.eq g.1
  obtain ⟨p1, p2, p3⟩ := p
  rw [t1, l1, t] at p1 p2
  rw [l1] at p3
  refine ⟨fun i hi => ?_, by have := e.2.1; omega, fun d hd => ?_⟩
  · rw [e16] at hi
    rw [eo]
    exact e.1 i (by rw [h2]; omega)
  have q := e.2.2 d hd
  rw [p3]
  refine (q.eq fun i _ hi => (p2 _ (by omega)).trans (s1 _)).cat (zDp.one p1 (by omega) (by omega) ?_)
  have hle := e.2.1
  rcases h3 with h3 | h3 | h3
  · rw [if_neg (by omega)] at hc
    exact Or.inr (Or.inr (Or.inl ⟨h3, by omega, by omega, by omega⟩))
  · rw [if_pos (Or.inl h3)] at hc
    exact Or.inr (Or.inr (Or.inr ⟨by omega, by omega, by omega, by omega, by omega, by omega⟩))
  · rw [if_pos (Or.inr h3)] at hc
    exact Or.inr (Or.inr (Or.inr ⟨by omega, by omega, by omega, by omega, by omega, by omega⟩))
/-- a bracket is taken away -/
theorem zE.br {x v : Int32} (e : zE X h I J) (L : zq_L X) (hk : zq_k X h = 10) (e1 : K = zq_up J h 16 v) (h2 : J h 16 = x) (hv : v.toNatClampNeg + 1 = x.toNatClampNeg) (hb : (J (zq_r X h 15) v.toNatClampNeg).toInt = 91) : zE X h I K := by
  have k56 : zq_k X (zq_r X h 15) = 56 := zq_lk L.1 hk rfl (by decide)
  have eo : ∀ j, K (zq_r X h 15) j = J (zq_r X h 15) j := fun j => zq_kp e1 (Or.inl (zq_kne k56 hk (by decide))) rfl
  have e16 : K h 16 = v := zq_kv e1
  have hc := zC.put e16 h2 hv (fun j _ => eo j)
  rw [if_neg (by omega)] at hc
  have l1 : zLn X K h = zLn X J h := zLn.eq (zpu_o hk e1 hk (Or.inr (by decide))) (zpu_l L hk e1 hk (by decide))
  refine ⟨fun i hi => ?_, by have := e.2.1; omega, fun d hd => ?_⟩
  · rw [e16] at hi
    rw [eo]
    exact e.1 i (by rw [h2]; omega)
  rw [l1, show zC X K h = zC X J h by omega]
  exact (e.2.2 d hd).eq fun i _ _ => zpu_s L hk e1 hk (by decide) _
theorem zSe.rf (o : zOk X I h) : zSe X h I I := ⟨zE.rf o, fun _ => rfl, Int.le_refl _, fun k h1 h2 => absurd h2 (by omega)⟩
theorem zSe.st (s : zSe X h I J) (eS : ∀ j, K (zq_r X h 3) j = J (zq_r X h 3) j) (eL : zLn X K h = zLn X J h) (e16 : K h 16 = J h 16) (eo : ∀ j, K (zq_r X h 15) j = J (zq_r X h 15) j) : zSe X h I K :=
  ⟨s.1.st eS eL e16 eo, fun j => (eo j).trans (s.2.1 j), by rw [e16]; exact s.2.2.1, by rw [e16]; exact s.2.2.2⟩
theorem zSe.pop {J1 : zq_M} {x v s : Int32} (e : zSe X h I J) (g : zGo X h b k I J) (L : zq_L X) (hk : zq_k X h = 10) (e1 : J1 = zq_up J h 16 v) (h2 : J h 16 = x) (h0 : 0 ≤ v.toInt) (hv : v.toInt + 1 = x.toInt) (p : zPu X h s 0 J1 K) {Lw : List (Nat × Nat)} {P : Nat → Prop} (f : zq_fr (zf X Lw P) J1 K) (n16 : zf_in Lw 10 16 = false) (n56 : zfn Lw 56 = true) (hs : J (zq_r X h 15) v.toNatClampNeg = s) (h3 : s.toInt = 11 ∨ s.toInt = 12 ∨ s.toInt = 13) : zSe X h I K := by
  have k56 : zq_k X (zq_r X h 15) = 56 := zq_lk L.1 hk rfl (by decide)
  have c1 := zq_cl (i := v) h0
  have c2 := zq_cl (i := x) (by omega)
  have e16 : K h 16 = v := (zfr_o hk f n16).trans (zq_kv e1)
  refine ⟨e.1.pop g L hk e1 h2 (by omega) p f n16 n56 hs h3, fun j => ((zfr_s (s := 15) L hk f rfl (by decide) n56 j).trans (zq_kp e1 (Or.inl (zq_kne k56 hk (by decide))) rfl)).trans (e.2.1 j), ?_, fun i h4 h5 => ?_⟩
  · have := e.2.2.1
    rw [h2] at this
    rw [e16]; omega
  · rw [e16] at h4
    by_cases q : (i : Int) = v.toInt
    · rw [← e.2.1, show i = v.toNatClampNeg by omega, hs]; omega
    · exact e.2.2.2 i (by rw [h2]; omega) h5
theorem zSe.ins (s : zSe X h I J) (hk : ∃ k : Nat, (k : Int) < (I h 16).toInt ∧ (I (zq_r X h 15) k).toInt = 91) : 1 ≤ (J h 16).toInt := by
  obtain ⟨i, h1, h2⟩ := hk
  by_cases q : (J h 16).toInt ≤ (i : Int)
  · exact absurd h2 (s.2.2.2 i q h1)
  · omega
theorem zQ.base {I2 : zq_M} (q : zQ X h δ I J) (e11 : I2 h 11 = I h 11) (e12 : I2 h 12 = I h 12) (eL : ∀ j, I2 (zq_r X h 4) j = I (zq_r X h 4) j) : zQ X h δ I2 J := by
  unfold zQ at q ⊢
  rw [e12, zTx.eq e11, zLn.eq e11 eL]
  exact q
theorem zGo.room1 (g : zGo X h true k I J) (hk : 1 ≤ k) (h0 : zMu X h true I ≤ (I h 8).toInt) (h16 : 0 ≤ (J h 16).toInt) (h4 : (J h 1).toInt ≤ 400) : zLn X J h ≤ 399 := by
  obtain ⟨a1, a2, a3, a4, a5, a6, a7, a8⟩ := g
  simp only [zMu, cond] at a6 h0
  omega
theorem zGo.len1 (g : zGo X h true k I J) (hk : 0 ≤ k) (h0 : zMu X h true I ≤ (I h 8).toInt) (h16 : 0 ≤ (J h 16).toInt) : (zLn X J h : Int) ≤ (J h 8).toInt := by
  obtain ⟨a1, a2, a3, a4, a5, a6, a7, a8⟩ := g
  simp only [zMu, cond] at a6 h0
  omega
theorem zGo.mu (g : zGo X h true k I J) (hk : 0 ≤ k) (h0 : zMu X h true I ≤ (I h 8).toInt) : zMu X h true J ≤ (J h 8).toInt := by
  have a6 := g.2.2.2.2.2.1
  omega
theorem zGo.op (g : zGo X h true k I J) (h0 : zMu X h true I ≤ (I h 8).toInt) : (J h 16).toInt + k ≤ (J h 8).toInt := by
  obtain ⟨a1, a2, a3, a4, a5, a6, a7, a8⟩ := g
  simp only [zMu, cond] at a6 h0
  omega
/-- from the start of a test to its end -/
theorem zGo.out {I1 : zq_M} (g : zGo X h true 0 I1 J) (e : ∀ i, i = 1 ∨ i = 8 ∨ i = 11 ∨ i = 12 → I1 h i = I h i) (eL : ∀ j, I1 (zq_r X h 4) j = I (zq_r X h 4) j) (eS : ∀ j, I1 (zq_r X h 3) j = I (zq_r X h 3) j) (h0 : (I1 h 16).toInt = 0) (h16 : 0 ≤ (J h 16).toInt) : zGo X h false 0 I J := by
  obtain ⟨a1, a2, a3, a4, a5, a6, a7, a8⟩ := g
  have l := zLn.eq (X := X) (e 11 (by omega)) eL
  have t := zTx.eq (e 11 (by omega))
  rw [e 11 (by omega)] at a1
  rw [e 1 (by omega)] at a2
  rw [e 8 (by omega)] at a3
  rw [e 12 (by omega)] at a7
  rw [l] at a5
  simp only [zMu, cond] at a6 ⊢
  rw [e 8 (by omega), l] at a6
  refine ⟨a1, a2, a3, a4, a5, by simp only [zMu, cond]; omega, a7, fun j hj => ?_⟩
  rw [t, l] at a8
  exact (a8 j hj).trans (eS j)
theorem zQc.st (q : zQc X h e I J) (eS : ∀ j, K (zq_r X h 3) j = J (zq_r X h 3) j) (eL : zLn X K h = zLn X J h) (h12 : (J h 12).toInt ≤ (K h 12).toInt) (e16 : K h 16 = J h 16) (eo : ∀ j, K (zq_r X h 15) j = J (zq_r X h 15) j) : zQc X h e I K :=
  ⟨by rw [zC.eq e16 eo]; exact q.1.st eS eL h12, q.2.eq e16 eo⟩
theorem zQc.fact (q : zQc X h 0 I J) (g : zGo X h b k I J) (g2 : zGo X h b2 k2 J K) (q2 : zQ X h 1 J K) (o : zOk X K h) (hc : zC X K h = zC X J h) : zQc X h 1 I K := by
  have r := q.1.tr g g2 q2
  refine ⟨?_, o⟩
  rw [hc, show 1 + zC X J h = 0 + zC X J h + 1 by omega]
  exact r
theorem zQc.ze (q : zQc X h 1 I J) (g : zGo X h b k I J) (g2 : zGo X h b2 k2 J K) (z : zE X h J K) (h60 : (J h 12).toInt ≤ 60) : zQc X h 1 I K := by
  obtain ⟨a1, a2, a3, a4, a5, a6, a7, a8⟩ := g
  obtain ⟨c1, c2, c3, c4, c5, c6, c7, c8⟩ := g2
  have q1 := q.1.1
  have hz := z.2.1
  refine ⟨⟨by omega, fun d hd => ?_⟩, z.1⟩
  have t := zTx.eq a1
  have p := q.1.2 d hd
  have p2 := z.2.2 d (by omega)
  rw [t] at c8 p2
  rw [show d + (1 + zC X J h) = d + 1 + zC X J h by omega] at p
  rw [show d + (1 + zC X K h) = d + 1 + zC X K h by omega]
  exact (p.eq (J := K) fun i _ h2 => c8 _ (Or.inl (by omega))).cat p2
/-- AND or OR waits -/
theorem zQc.op {J1 : zq_M} {x v s : Int32} (q : zQc X h 1 I J) (L : zq_L X) (hk : zq_k X h = 10) (h2 : J h 16 = x) (e1 : J1 = zq_up J (zq_r X h 15) x.toNatClampNeg s) (e2 : K = zq_up J1 h 16 v) (hv : v.toNatClampNeg = x.toNatClampNeg + 1) (hs : s.toInt = 12 ∨ s.toInt = 13) : zQc X h 0 I K := by
  have k56 : zq_k X (zq_r X h 15) = 56 := zq_lk L.1 hk rfl (by decide)
  have ek : ∀ j, K (zq_r X h 15) j = J1 (zq_r X h 15) j := fun j => zq_kp e2 (Or.inl (zq_kne k56 hk (by decide))) rfl
  have e16 : K h 16 = v := zq_kv e2
  have es : K (zq_r X h 15) x.toNatClampNeg = s := (ek _).trans (zq_kv e1)
  have eo : ∀ j, j ≠ x.toNatClampNeg → K (zq_r X h 15) j = J (zq_r X h 15) j := fun j hj => (ek j).trans (zq_kp e1 (Or.inr hj) rfl)
  have hc : zC X K h = zC X J h + 1 := by
    have := zC.put (X := X) (h := h) (J := K) (K := J) (x := v) (v := x) h2 e16 (by omega) (fun j hj => (eo j (by omega)).symm)
    rw [es, if_pos hs] at this
    exact this
  have m : ∀ i, i ≠ 16 → K h i = J h i := fun i hi => (zpu_o hk e2 hk (Or.inr hi)).trans (zpu_o hk e1 k56 (Or.inl (by decide)))
  have eL : ∀ j, K (zq_r X h 4) j = J (zq_r X h 4) j := fun j => (zpu_l L hk e2 hk (by decide) j).trans (zpu_l L hk e1 k56 (by decide) j)
  have eS : ∀ j, K (zq_r X h 3) j = J (zq_r X h 3) j := fun j => (zpu_s L hk e2 hk (by decide) j).trans (zpu_s L hk e1 k56 (by decide) j)
  refine ⟨?_, fun i hi => ?_⟩
  · rw [hc, show 0 + (zC X J h + 1) = 1 + zC X J h by omega]
    exact q.1.st eS (zLn.eq (m 11 (by decide)) eL) (by rw [m 12 (by decide)]; exact Int.le_refl _)
  · rw [e16, hv] at hi
    by_cases c : i = x.toNatClampNeg
    · rw [c, es]; omega
    · rw [eo i c]; exact q.2 i (by rw [h2]; omega)
/-- a sign waits -/
theorem zop {J1 : zq_M} {x v s : Int32} (o : zOk X J h) (L : zq_L X) (hk : zq_k X h = 10) (h2 : J h 16 = x) (e1 : J1 = zq_up J (zq_r X h 15) x.toNatClampNeg s) (e2 : K = zq_up J1 h 16 v) (hv : v.toNatClampNeg = x.toNatClampNeg + 1) (hs : s.toInt = 11 ∨ s.toInt = 91) : zOk X K h ∧ zC X K h = zC X J h := by
  have k56 : zq_k X (zq_r X h 15) = 56 := zq_lk L.1 hk rfl (by decide)
  have ek : ∀ j, K (zq_r X h 15) j = J1 (zq_r X h 15) j := fun j => zq_kp e2 (Or.inl (zq_kne k56 hk (by decide))) rfl
  have e16 : K h 16 = v := zq_kv e2
  have es : K (zq_r X h 15) x.toNatClampNeg = s := (ek _).trans (zq_kv e1)
  have eo : ∀ j, j ≠ x.toNatClampNeg → K (zq_r X h 15) j = J (zq_r X h 15) j := fun j hj => (ek j).trans (zq_kp e1 (Or.inr hj) rfl)
  have hc : zC X K h = zC X J h := by
    have := zC.put (X := X) (h := h) (J := K) (K := J) (x := v) (v := x) h2 e16 (by omega) (fun j hj => (eo j (by omega)).symm)
    rw [es, if_neg (by omega)] at this
    exact this
  refine ⟨fun i hi => ?_, hc⟩
  rw [e16, hv] at hi
  by_cases c : i = x.toNatClampNeg
  · rw [c, es]; omega
  · rw [eo i c]; exact o i (by rw [h2]; omega)
end ZPB
