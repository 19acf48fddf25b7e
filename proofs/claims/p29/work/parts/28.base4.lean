theorem zq_arrc {c : ClassId} {n : Nat} {f g : Nat → Value} (h : ∀ j, j < n → f j = g j) : arrV c n f = arrV c n g := by
  unfold arrV
  congr 1
  apply Array.ext
  · simp
  · intro i h1 h2
    simp only [Array.size_ofFn] at h1
    simp only [Array.getElem_ofFn]
    exact h i h1
section ZQ6
variable {p : Program} {l : Launch} {e : Env} {R : Room} {s : State} {m : MethodId} {args : Array Value} {below : List Frame} {meth : Method} {c : Code} {H : Heap} {locs : List Loc} {cells slots : Nat} {Q : State → Prop}
variable {cc : ByteArray} {nL pc n0 : Nat} {ls : Array Slot} {rest st0 : List Value} {Ts : List Cond} {own : String} {X : zq_X} {z z2 : zq_Z} {I : zq_M} {a a0 k j index : Nat} {aa : Array Value}
/-- a row of ints copied whole into another of its kind -/
theorem zq_copyi (E : CallFix p m c cc nL s args Ts own) (hZ : zq_K X s) (hM : zq_hm X z I H) (hS : va_S (zq_A X) s.heap H locs) (hk0 : zq_k X a0 = k) (hk : zq_k X a = k) (ho : zq_iA k 0 n0) (hr : ∀ q, zq_rg z k q = (zq_min, zq_max)) {n o : Int32} (hn : n.toNatClampNeg = n0) (hnn : ¬ n < 0) (hoo : o = 0)
    (hlink : Cond.methodLink own index arraycopyName ∈ Ts) (hnat : Cond.native arraycopyName ∈ Ts) (hstat : Cond.static arraycopyName ∈ Ts) (hini : Cond.initialized "java/lang/System" ∈ Ts) (hsz : ls.size = nL)
    (hframes : 1 ≤ R.frames) (hlocals : (rest.map fun v => v.category).sum + (nativeFrameWords "java/lang/System" "arraycopy" 5 + 11) ≤ R.locals) (hdg : decode cc pc = .ok (.invokestatic index, 3))
    (kk : ∀ (I2 : zq_M) (H1 : Heap) (locs1 : List Loc), (∀ b i, b ≠ a → I2 b i = I b i) → zq_hm X z I2 H1 → va_S (zq_A X) s.heap H1 locs1 → W p l e R s m args below meth c H1 locs1 cells slots Q (F0 m (pc + 3) ls rest)) :
    W p l e R s m args below meth c H locs cells slots Q (F0 m pc ls (.int n :: .int o :: .ref a :: .int o :: .ref a0 :: rest)) := by
  subst hoo
  obtain ⟨g1, g2⟩ := ho
  obtain ⟨V0, hV0, hv0⟩ := hM.2.1 a0 k hk0 g1
  obtain ⟨V1, hV1, hv1⟩ := hM.2.1 a k hk g1
  rw [g2] at hV0 hv0 hV1 hv1
  have e0 : arrV (X.2.1 0) n0 V0 = arrV (X.2.1 0) n0 (fun j => .int (I a0 j)) := zq_arrc fun j hj => hv0 j hj
  have e1 : arrV (X.2.1 0) n0 V1 = arrV (X.2.1 0) n0 (fun j => .int (I a j)) := zq_arrc fun j hj => hv1 j hj
  have hc0 : H[a0]? = some (arrV (X.2.1 0) n0 (fun j => .int (I a0 j))) := by rw [← e0]; exact hV0
  have hc1 : H[a]? = some (arrV (X.2.1 0) n0 (fun j => .int (I a j))) := by rw [← e1]; exact hV1
  intro T hT Xs
  obtain ⟨-, k0, hk0', cm0, hkk0⟩ := (hZ.1.2 0 _ rfl).1 n0 (fun j => .int (I a0 j))
  obtain ⟨-, k1, hk1', cm1, hkk1⟩ := (hZ.1.2 0 _ rfl).1 n0 (fun j => .int (I a j))
  have z0 : (0 : Int32).toInt = 0 := by decide +kernel
  have z1 : (0 : Int32).toNatClampNeg = 0 := by decide +kernel
  have hnn2 : n.toInt = (n.toNatClampNeg : Int) := by
    have : (0 : Int) ≤ n.toInt := by
      have h := Int32.not_lt.mp hnn
      have h2 := Int32.le_iff_toInt_le.mp h
      rw [z0] at h2
      exact h2
    show n.toInt = ((n.toInt.toNat : Nat) : Int)
    omega
  obtain ⟨vm', X', step⟩ := Xs.arraycopy E.1 E.2.2.2.1 (E.2.2.2.2 _ hlink) (E.2.2.2.2 _ hnat) (E.2.2.2.2 _ hstat) (E.2.2.2.2 _ hini) (src := a0) (dst := a) (cs := arrV (X.2.1 0) n0 (fun j => .int (I a0 j))) (cd := arrV (X.2.1 0) n0 (fun j => .int (I a j))) (srcPos := 0) (destPos := 0) (n := n) (by rw [hT]; exact hc0) (by rw [hT]; exact hc1)
    (fun _ h => by cases h) (fun _ h => by cases h) (fun h => by cases h) (fun h => by cases h) hk0' hk1' hkk0 hkk1 (by rfl) (by decide +kernel) (by decide +kernel) hnn
    (by rw [hnn2, z0, hn, arrV_size]; omega)
    (by rw [hnn2, z0, hn, arrV_size]; omega)
    (fun vm₁ _ i hi => by
      have e : (arrV (X.2.1 0) n0 (fun j => .int (I a0 j))).slots.getD ((0 : Int32).toNatClampNeg + i) .null = .int (I a0 ((0 : Int32).toNatClampNeg + i)) := by
        rw [Array.getD_eq_getD_getElem?, arrV_read _ _ (by rw [z1]; omega)]
        rfl
      refine ⟨?_, ?_⟩
      · rw [e]
        rfl
      · rw [e]
        exact trivial)
    (g := F0 m pc ls (.int n :: .int 0 :: .ref a :: .int 0 :: .ref a0 :: rest)) rfl (by rw [E.2.2.1]; exact hsz) (rest := rest) rfl (by rw [E.2.1]; exact hdg) hframes (by show 2 * 0 + _ + _ ≤ _; omega)
  have e2 : copied (arrV (X.2.1 0) n0 (fun j => .int (I a0 j))) (arrV (X.2.1 0) n0 (fun j => .int (I a j))) 0 0 n = arrV (X.2.1 0) n0 (fun j => .int (va_cpy (I a0) (I a) (0 : Int32).toNatClampNeg (0 : Int32).toNatClampNeg n.toNatClampNeg j)) := va_copied (fun z => .int z) _ _ (I a0) (I a) (by rw [z1]; omega)
  rw [e2, z1, hn] at X' step
  have hl : a < H.size := (Array.getElem?_eq_some_iff.mp hc1).1
  let I2 : zq_M := fun b i => if b = a then va_cpy (I a0) (I a) 0 0 n0 i else I b i
  have hI2 : ∀ b i, b ≠ a → I2 b i = I b i := fun b i h => if_neg h
  have hI2a : ∀ i, I2 a i = va_cpy (I a0) (I a) 0 0 n0 i := fun i => if_pos rfl
  generalize hcl : arrV (X.2.1 0) n0 (fun j => .int (va_cpy (I a0) (I a) 0 0 n0 j)) = cl at X' step
  have hheap : ((T.setVm vm').setCell a cl).heap = H.setIfInBounds a cl := by rw [← hT]; rfl
  have oq : ∀ q : Nat, q ≠ a → (H.setIfInBounds a cl)[q]? = H[q]? := fun q hq => by simp [Array.getElem?_setIfInBounds, Ne.symm hq]
  have h12 : ¬ (12 ≤ k ∧ k < 20) := by omega
  have hA : zq_A X a := ⟨by rw [hk]; omega, by rw [hk]; exact h12⟩
  have hm2 : zq_hm X z I2 (H.setIfInBounds a cl) := by
    refine hM.row hk ⟨by omega, h12⟩ (fun _ h => absurd h (by omega)) (fun _ => ⟨fun j => .int (I2 a j), ?_, fun j hj => ?_⟩) oq hI2 (fun i => ?_)
    · rw [g2]
      have : (fun j => Value.int (I2 a j)) = fun j => Value.int (va_cpy (I a0) (I a) 0 0 n0 j) := funext fun j => by rw [hI2a]
      rw [this, hcl]
      simp [Array.getElem?_setIfInBounds, hl]
    · rw [g2]
      rfl
    · rw [hr]
      exact zq_any _
  obtain ⟨t, a1, b1⟩ := kk I2 _ _ hI2 hm2 ⟨by simp; exact hS.1, fun q g1 g2 => by
      rw [oq q (fun e => g2 (by rw [e]; exact hA))]
      exact hS.2.1 q g1 g2, fun q hq => by
      rcases List.mem_append.mp hq with h | h
      · exact hS.2.2 q h
      · obtain ⟨z, -, hz⟩ := List.mem_map.mp h
        rw [← hz]
        exact hA⟩ _ hheap X'
  exact ⟨t, step t a1, b1⟩
end ZQ6
theorem zt_acl0 : Cond.methodLink RX10 52 arraycopyName ∈ zt := zt_t 622 (by decide +kernel) rfl
theorem zt_acl1 : Cond.methodLink RX0 42 arraycopyName ∈ zt := zt_t 1128 (by decide +kernel) rfl
theorem zt_acs : Cond.static arraycopyName ∈ zt := zt_t 623 (by decide +kernel) rfl
theorem zt_acn : Cond.native arraycopyName ∈ zt := zt_t 624 (by decide +kernel) rfl
theorem zt_aci : Cond.initialized "java/lang/System" ∈ zt := zt_t 19 (by decide +kernel) rfl
theorem zq_fr.cp {X : zq_X} {Lw : List (Nat × Nat)} {P : Nat → Prop} {I0 I I2 : zq_M} {a k : Nat} (h : zq_fr (zf X Lw P) I0 I) (hI : ∀ b i, b ≠ a → I2 b i = I b i) (hk : zq_k X a = k) (hl : (k, 999) ∈ Lw) (hp : zf_w k = true → P a) : zq_fr (zf X Lw P) I0 I2 := by
  intro b i hn
  by_cases e : b = a
  · exact absurd ⟨List.any_eq_true.mpr ⟨_, hl, by simp [e, hk]⟩, fun hw => by rw [e]; exact hp (by rw [← hk, ← e]; exact hw)⟩ hn
  · rw [hI b i e]; exact h b i hn
/-! remainders and the sign of an exclusive or -/
theorem zi_remt {a b c : Int32} {x y : Int} (e : c = a - a / b * b) (ha : a.toInt = x) (hb : b.toInt = y) (h : 0 < y) : -y < c.toInt ∧ c.toInt < y ∧ (0 ≤ x → 0 ≤ c.toInt) ∧ (x ≤ 0 → c.toInt ≤ 0) := by
  have h1 := zi_div (c := a / b) rfl ha hb h
  have r := zi_rng a
  rw [ha] at r
  have rb := zi_rng b
  rw [hb] at rb
  have hq : x.tdiv y * y + x.tmod y = x := Int.tdiv_mul_add_tmod x y
  have hm1 : 0 ≤ x → 0 ≤ x.tmod y := fun q => Int.tmod_nonneg _ q
  have hm2 : x.tmod y < y := Int.tmod_lt_of_pos x h
  have hm3 : x ≤ 0 → x.tmod y ≤ 0 := fun q => by
    have := Int.tmod_nonneg (a := -x) y (by omega)
    rw [Int.neg_tmod] at this
    omega
  have hm4 : -y < x.tmod y := by
    have := Int.tmod_lt_of_pos (-x) h
    rw [Int.neg_tmod] at this
    omega
  have hb1 : -2147483648 ≤ x.tdiv y * y ∧ x.tdiv y * y ≤ 2147483647 := by
    by_cases h0 : 0 ≤ x
    · have := hm1 h0
      have h5 : 0 ≤ x.tdiv y * y := Int.mul_nonneg (Int.tdiv_nonneg h0 (Int.le_of_lt h)) (Int.le_of_lt h)
      omega
    · have := hm3 (by omega)
      have h5 : 0 ≤ (-x).tdiv y * y := Int.mul_nonneg (Int.tdiv_nonneg (by omega) (Int.le_of_lt h)) (Int.le_of_lt h)
      rw [Int.neg_tdiv, Int.neg_mul] at h5
      omega
  have h3 := zi_mul (c := a / b * b) rfl h1 hb hb1
  have h4 := zi_sub (c := c) e ha h3 (by omega)
  rw [h4]
  refine ⟨by omega, by omega, fun q => ?_, fun q => ?_⟩
  · have := hm1 q; omega
  · have := hm3 q; omega
theorem zi_xors {a b c : Int32} (e : c = a ^^^ b) (hb : 0 ≤ b.toInt) : c.toInt < 0 ↔ a.toInt < 0 := by
  have h : ∀ x : Int32, x.toBitVec.msb = decide (x.toInt < 0) := fun x => BitVec.msb_eq_toInt
  have h1 : c.toBitVec.msb = (a.toBitVec.msb ^^ b.toBitVec.msb) := by rw [e, Int32.toBitVec_xor, BitVec.msb_xor]
  rw [h, h, h] at h1
  have h2 : decide (b.toInt < 0) = false := decide_eq_false (by omega)
  rw [h2, Bool.xor_false] at h1
  simpa using h1
section ZW3
variable {X : zq_X} {I I2 : zq_M} {b b2 : Int} {w : Nat}
theorem zW.putS (h : zW X I b w) (L : zq_L X) (hk : zq_k X w = 8) {i : Nat} (hi : i < 4) {v : Int32} (e : I2 = zq_up I (zq_r X (zq_r X w 9) i) 4 v) (hv : 0 ≤ v.toInt ∧ v.toInt ≤ b2) (hb : b ≤ b2) : zW X I2 b2 w := by
  intro j h1 h2
  have h6 : I2 w 6 = I w 6 := by rw [e]; exact zq_up_j (by decide)
  rw [h6] at h2
  by_cases e2 : j = i
  · subst e2
    exact (h j h1 h2).put4 e hv
  · exact ((h j h1 h2).put e (Or.inl fun q => e2 (L.2.2.2.2.2.2.1 _ _ _ (zq_lk L.1 hk rfl (by decide)) h1 hi q))).mono hb
theorem zW.cpy (h : zW X I b w) (L : zq_L X) (hk : zq_k X w = 8) {a k : Nat} (hI : ∀ q i, q ≠ a → I2 q i = I q i) (ha : zq_k X a = k) (hn : k ≠ 7 ∧ k ≠ 8) : zW X I2 b w := by
  intro j h1 h2
  rw [hI w 6 (zq_kne hk ha (Ne.symm hn.2))] at h2
  exact (h j h1 h2).eq fun i _ _ => hI _ _ (zq_kne (zW.kt L hk h1) ha (Ne.symm hn.1))
/-- a world copied: its towns' numbers, and how many towns -/
def zCp (X : zq_X) (I I2 : zq_M) (w o n : Nat) : Prop := I2 w 6 = I o 6 ∧ ∀ j, j < 4 → j < n → ∀ i, 1 ≤ i → i ≤ 4 → I2 (zq_r X (zq_r X w 9) j) i = I (zq_r X (zq_r X o 9) j) i
theorem zW.copy {o : Nat} (h : zW X I b o) (c : zCp X I I2 w o 4) : zW X I2 b w := by
  intro j h1 h2
  rw [c.1] at h2
  have h3 := h j h1 h2
  unfold zT at h3 ⊢
  rw [c.2 j h1 h1 1 (by decide) (by decide), c.2 j h1 h1 2 (by decide) (by decide), c.2 j h1 h1 3 (by decide) (by decide), c.2 j h1 h1 4 (by decide) (by decide)]
  exact h3
end ZW3
theorem zq_kb {I I2 : zq_M} {a j b i : Nat} {v t : Int32} (e : I2 = zq_up I a j v) (hn : b ≠ a ∨ i ≠ j) (h : I2 b i = t) : I b i = t := by
  rw [← h, e]
  rcases hn with h | h
  · exact (zq_up_a h).symm
  · exact (zq_up_j h).symm
theorem zq_fr.kb {S : Nat → Nat → Prop} {I I2 : zq_M} {b i : Nat} {t : Int32} (h2 : zq_fr S I I2) (hn : ¬ S b i) (h : I2 b i = t) : I b i = t := (h2 b i hn).symm.trans h
section ZW4
variable {X : zq_X} {I I1 I2 : zq_M} {w o n : Nat}
theorem zCp.cast {n2 : Nat} (c : zCp X I I1 w o n) (h : n2 = n) : zCp X I I1 w o n2 := by rw [h]; exact c
theorem zCp.frL {Lw : List (Nat × Nat)} {P : Nat → Prop} (c : zCp X I I1 w o n) (L : zq_L X) (hk : zq_k X w = 8) (f : zq_fr (zf X Lw P) I1 I2) (h6 : zf_in Lw 8 6 = false) (hn : (zf_in Lw 7 1 || zf_in Lw 7 2 || zf_in Lw 7 3 || zf_in Lw 7 4) = false) : zCp X I I2 w o n := by
  simp only [Bool.or_eq_false_iff] at hn
  obtain ⟨⟨⟨n1, n2⟩, n3⟩, n4⟩ := hn
  refine ⟨(f w 6 (zf_n hk h6)).trans c.1, fun j h1 h2 i g1 g2 => ?_⟩
  rw [← c.2 j h1 h2 i g1 g2]
  have hk7 := zW.kt L hk h1
  rcases (show i = 1 ∨ i = 2 ∨ i = 3 ∨ i = 4 by omega) with rfl | rfl | rfl | rfl
  · exact f _ _ (zf_n hk7 n1)
  · exact f _ _ (zf_n hk7 n2)
  · exact f _ _ (zf_n hk7 n3)
  · exact f _ _ (zf_n hk7 n4)
theorem zCp.cpy (c : zCp X I I1 w o n) (L : zq_L X) (hk : zq_k X w = 8) {a k : Nat} (hI : ∀ q i, q ≠ a → I2 q i = I1 q i) (ha : zq_k X a = k) (hn : k ≠ 7 ∧ k ≠ 8) : zCp X I I2 w o n :=
  ⟨(hI w 6 (zq_kne hk ha (Ne.symm hn.2))).trans c.1, fun j h1 h2 i g1 g2 => (hI _ _ (zq_kne (zW.kt L hk h1) ha (Ne.symm hn.1))).trans (c.2 j h1 h2 i g1 g2)⟩
theorem zCp.step {Lw L2 : List (Nat × Nat)} (c : zCp X I I1 w o n) (L : zq_L X) (hk : zq_k X w = 8) (hko : zq_k X o = 8) (hn : n < 4) (hR : zq_fr (zf X Lw (fun b => zq_o X b = zq_o X w)) I I1) (hne : ¬ zq_o X w = zq_o X o) (f : zq_fr (zf X L2 (fun b => b = zq_r X (zq_r X w 9) n)) I1 I2) (hp : ∀ i, 1 ≤ i → i ≤ 4 → I2 (zq_r X (zq_r X w 9) n) i = I1 (zq_r X (zq_r X o 9) n) i) : zCp X I I2 w o (n + 1) := by
  refine ⟨(f w 6 (zf_np hk rfl (fun q => by have := zW.kt L hk hn; rw [← q, hk] at this; exact absurd this (by decide)))).trans c.1, fun j h1 h2 i g1 g2 => ?_⟩
  by_cases e : j = n
  · subst e
    rw [hp i g1 g2]
    exact hR _ _ (zf_np (zW.kt L hko h1) rfl (fun q => hne ((zW.ot L hko h1).symm.trans q).symm))
  · rw [← c.2 j h1 (by omega) i g1 g2]
    exact f _ _ (zf_np (zW.kt L hk h1) rfl (fun q => e (L.2.2.2.2.2.2.1 _ _ _ (zq_lk L.1 hk rfl (by decide)) h1 hn q)))
end ZW4
