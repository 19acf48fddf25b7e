/-! one list of words for all methods -/
def zt : List Cond := lw_tbl.filter goodWord
abbrev zt_w (y : MethodName) (c : ByteArray) (n : Nat) (r : Option FieldType) : List Cond := Cond.code y c n r :: zt
theorem zt_t {w : Cond} (i : Nat) (h : tables_1[i]? = some w) (hg : goodWord w = true) : w ∈ zt := List.mem_filter.mpr ⟨List.mem_append_right _ (List.mem_of_getElem? h), hg⟩
theorem zt_p {q : MethodName × Nat} (i : Nat) (h : lw_privs[i]? = some q) : Cond.selects q.1.cls q.1 q.1 ∈ zt := List.mem_filter.mpr ⟨List.mem_append_left _ (List.mem_map.mpr ⟨q, List.mem_of_getElem? h, rfl⟩), rfl⟩
theorem zt_good {w0 : Cond} {ws : List Cond} (h : ∀ w ∈ ws, w ∈ zt) : GoodIn (w0 :: zt) ws := fun w hw => ⟨List.mem_cons_of_mem _ (h w hw), good_of_word (List.mem_filter.mp (h w hw)).2⟩
theorem zt_code {y : MethodName} {c : ByteArray} {n : Nat} {r : Option FieldType} (h : Cond.code y c n r ∈ zt) : ∀ w ∈ zt_w y c n r, w ∈ zt := fun w hw => by
  rcases List.mem_cons.mp hw with e | e
  · rw [e]; exact h
  · exact e
/-- what is known of a method, wherever it is called -/
def zt_V (C : String) (y : MethodName) (bytes : ByteArray) (maxL : Nat) (ret : Option FieldType) (n : Nat) : Prop :=
  (Cond.instanceMethod y ∈ zt ∧ Cond.selects C y y ∈ zt ∧ Cond.initialized C ∈ zt ∧ Cond.code y bytes maxL ret ∈ zt) ∧ y.cls = C ∧ y.cls ≠ "java/lang/invoke/MethodHandle" ∧ y.cls ≠ "java/lang/invoke/VarHandle" ∧ (parseMethodDescriptor y.desc).map (fun d => d.parameters.length) = some n
def zt_S (C : String) (y : MethodName) (bytes : ByteArray) (maxL : Nat) (ret : Option FieldType) (n : Nat) : Prop :=
  (Cond.static y ∈ zt ∧ Cond.initialized C ∈ zt ∧ Cond.code y bytes maxL ret ∈ zt) ∧ y.cls = C ∧ y.cls ≠ "java/lang/invoke/MethodHandle" ∧ y.cls ≠ "java/lang/invoke/VarHandle" ∧ (parseMethodDescriptor y.desc).map (fun d => d.parameters.length) = some n
def zq_rok (d maxL : Nat) (R : Room) : Prop := (zq_rm d).frames + 1 ≤ R.frames ∧ 8 + (maxL + 11) + (zq_rm d).locals ≤ R.locals
section ZQ4
variable {p : Program} {l : Launch} {e : Env} {R : Room} {s : State} {m : MethodId} {args : Array Value} {below : List Frame} {meth : Method} {c : Code} {H : Heap} {locs : List Loc} {Q : State → Prop}
variable {cc bytes : ByteArray} {nL pc n maxL d : Nat} {ls : Array Slot} {rest st0 As : List Value} {w0 : Cond} {own C : String} {X : zq_X} {z z2 : zq_Z} {I : zq_M} {a k j index : Nat} {y : MethodName} {ret : Option FieldType}
theorem zq_cwV (E : CallFix p m c cc nL s args (w0 :: zt) own) (hL : Cond.methodLink own index y ∈ zt) (hV : zt_V C y bytes maxL ret n) (hR : zq_rok d maxL R) : CallW R s args own C index y bytes maxL ret (zt_w y bytes maxL ret) (zq_rm d) 0 0 n :=
  cwV n E.2.2.2.2 (zt_good (fun w hw => by
    unfold wsV at hw
    rcases List.mem_append.mp hw with h | h
    · simp only [List.mem_cons, List.not_mem_nil, or_false] at h
      rcases h with rfl | rfl | rfl | rfl
      · exact hL
      · exact hV.1.1
      · exact hV.1.2.1
      · exact hV.1.2.2.1
    · exact zt_code hV.1.2.2.2 w h)) rfl rfl rfl hV.2 hR
theorem zq_cwS (E : CallFix p m c cc nL s args (w0 :: zt) own) (hL : Cond.methodLink own index y ∈ zt) (hV : zt_S C y bytes maxL ret n) (hR : zq_rok d maxL R) : CallB R s args own index y bytes maxL ret (zt_w y bytes maxL ret) (zq_rm d) 0 0 n ∧ (Cond.static y).before args s = true :=
  ⟨callB_of n E.2.2.2.2 (zt_good (zt_code hV.1.2.2)) rfl rfl rfl (by rw [hV.2.1]; exact E.2.2.2.2 _ (List.mem_cons_of_mem _ hV.1.2.1)) (E.2.2.2.2 _ (List.mem_cons_of_mem _ hL)) hV.2.2 hR, E.2.2.2.2 _ (List.mem_cons_of_mem _ hV.1.1)⟩
theorem zq_cwN {host : String} (E : CallFix p m c cc nL s args (w0 :: zt) own) (hL : va_Nw (.methodLinkNest own index y host) s) (hV : zt_S C y bytes maxL ret n) (hR : zq_rok d maxL R) : va_CN R s args own index y host bytes maxL ret (zt_w y bytes maxL ret) (zq_rm d) 0 0 n ∧ (Cond.static y).before args s = true ∧ True :=
  ⟨va_cnB n E.2.2.2.2 (zt_good (zt_code hV.1.2.2)) rfl rfl rfl hL (by rw [hV.2.1]; exact E.2.2.2.2 _ (List.mem_cons_of_mem _ hV.1.2.1)) hV.2.2 hR, E.2.2.2.2 _ (List.mem_cons_of_mem _ hV.1.1), trivial⟩
/-- the run of a call: of an object's method, a static one, a nest mate's static one -/
theorem zq_rV {T : u_T} {N : Nat} {Qc : Array Value → State → Outcome → State → Prop} (E : CallFix p m c cc nL s args (w0 :: zt) own) (hZ : zq_K X s) (hM : zq_hm X z I H) (hk : zq_k X a = k) (met : Met l y (zt_w y bytes maxL ret) (zq_rm d) (va_Pc (.ref a :: As) (zq_W X z I)) Qc 0 0 (zq_A X)) (hL : Cond.methodLink own index y ∈ zt) (hV : zt_V C y bytes maxL ret n)
    (hR : zq_rok d maxL R) (h1 : 0 < k ∧ k < 11) (hc : vwCl[k - 1]? = some (C, T, N)) (hs : ls.size = nL) (hn : As.length = n) (hst : st0 = As.reverse ++ .ref a :: rest) (hW : (rest.map fun v => v.category).sum ≤ 8) (hdg : decode cc pc = .ok (.invokevirtual index, 3)) :
    va_Run p l e R s m args below meth c H locs 0 0 0 0 (F0 m pc ls st0) rest (Qc (Value.ref a :: As).toArray) (zq_A X) :=
  va_runV (As := As) (rest := rest) E met (zq_cwV E hL hV hR) (zq_preV hM hZ hk h1 hc) rfl hn hs hst (lv_room hW) hdg ⟨Nat.zero_le _, Nat.zero_le _⟩
theorem zq_rS {Qc : Array Value → State → Outcome → State → Prop} (E : CallFix p m c cc nL s args (w0 :: zt) own) (hZ : zq_K X s) (hM : zq_hm X z I H) (met : Met l y (zt_w y bytes maxL ret) (zq_rm d) (va_Pc As (zq_W X z I)) Qc 0 0 (zq_A X)) (hL : Cond.methodLink own index y ∈ zt) (hV : zt_S C y bytes maxL ret n)
    (hR : zq_rok d maxL R) (hs : ls.size = nL) (hn : As.length = n) (hst : st0 = As.reverse ++ rest) (hW : (rest.map fun v => v.category).sum ≤ 8) (hdg : decode cc pc = .ok (.invokestatic index, 3)) :
    va_Run p l e R s m args below meth c H locs 0 0 0 0 (F0 m pc ls st0) rest (Qc As.toArray) (zq_A X) :=
  va_runS (As := As) (rest := rest) E met (zq_cwS E hL hV hR) (zq_preS hM hZ) rfl hn hs hst (lv_room hW) hdg ⟨Nat.zero_le _, Nat.zero_le _⟩
theorem zq_rN {host : String} {Qc : Array Value → State → Outcome → State → Prop} (E : CallFix p m c cc nL s args (w0 :: zt) own) (hZ : zq_K X s) (hM : zq_hm X z I H) (met : Met l y (zt_w y bytes maxL ret) (zq_rm d) (va_Pc As (zq_W X z I)) Qc 0 0 (zq_A X)) (hL : va_Nw (.methodLinkNest own index y host) s) (hV : zt_S C y bytes maxL ret n)
    (hR : zq_rok d maxL R) (hs : ls.size = nL) (hn : As.length = n) (hst : st0 = As.reverse ++ rest) (hW : (rest.map fun v => v.category).sum ≤ 8) (hdg : decode cc pc = .ok (.invokestatic index, 3)) :
    va_Run p l e R s m args below meth c H locs 0 0 0 0 (F0 m pc ls st0) rest (Qc As.toArray) (zq_A X) :=
  va_runSN (As := As) (rest := rest) E met (zq_cwN E hL hV hR) (zq_preS hM hZ) rfl hn hs hst (lv_room hW) hdg ⟨Nat.zero_le _, Nat.zero_le _⟩
/-- long numbers compared -/
theorem zq_lcmp {cells slots : Nat} (hexec : p.tables.exec = Jvm.exec) (hb : c.code = cc) {x y : Int64} (hdg : decode cc pc = .ok (.lcmp, 1))
    (k : ∀ v : Int32, (v.toInt = -1 ∧ x.toInt < y.toInt) ∨ (v.toInt = 0 ∧ x.toInt = y.toInt) ∨ (v.toInt = 1 ∧ y.toInt < x.toInt) → W p l e R s m args below meth c H locs cells slots Q (F0 m (pc + 1) ls (.int v :: rest))) : W p l e R s m args below meth c H locs cells slots Q (F0 m pc ls (.long y :: .long x :: rest)) := by
  refine W.lcmp hexec hb hdg (k _ ?_)
  unfold lg_cmp
  by_cases h : x > y
  · rw [if_pos h]
    exact Or.inr (Or.inr ⟨by decide +kernel, Int64.lt_iff_toInt_lt.mp h⟩)
  · rw [if_neg h]
    by_cases h2 : x = y
    · rw [if_pos h2]
      exact Or.inr (Or.inl ⟨by decide +kernel, by rw [h2]⟩)
    · rw [if_neg h2]
      refine Or.inl ⟨by decide +kernel, ?_⟩
      have h3 : ¬ y.toInt < x.toInt := fun q => h (Int64.lt_iff_toInt_lt.mpr q)
      have h4 : x.toInt ≠ y.toInt := fun q => h2 (Int64.toInt_inj.mp q)
      omega
theorem zq_call_o {post : zq_M → Prop} {B : zq_M → Option Nat → Prop} {aa : Array Value} {cells slots : Nat} (hr : va_Run p l e R s m args below meth c H locs cells slots 0 0 (F0 m pc ls st0) rest (fun st oc t => (∃ (u : zq_M) (q : Option Nat), oc = .returned (some (va_rf q)) ∧ post u ∧ zq_E X z2 u t ∧ B u q) ∧ va_F (zq_A X) st t) (zq_A X)) (hS : va_S (zq_A X) s.heap H locs)
    (kk : ∀ (q : Option Nat) (I2 : zq_M) (H1 : Heap) (locs1 : List Loc), post I2 → B I2 q → zq_hm X z2 I2 H1 → va_S (zq_A X) s.heap H1 locs1 → W p l e R s m args below meth c H1 locs1 cells slots Q (F0 m (pc + 3) ls (va_rf q :: rest))) : W p l e R s m args below meth c H locs cells slots Q (F0 m pc ls st0) := by
  intro T hT X0
  obtain ⟨v, st₀, t, T', L, h0, X', hL, hh, -, ⟨⟨u, q, ho, hp, hE, hB⟩, hF⟩, hgo⟩ := hr T hT X0
  cases ho
  have hS1 : va_S (zq_A X) s.heap T'.heap (locs ++ L) := by
    refine ⟨Nat.le_trans hS.1 (by rw [hh, ← h0]; exact hF.1), fun r h1 h2 => ?_, fun x hx => ?_⟩
    · rw [hh, hF.2 r (by rw [h0]; exact Nat.lt_of_lt_of_le h1 hS.1) h2, h0]
      exact hS.2.1 r h1 h2
    · rcases List.mem_append.mp hx with h | h
      · exact hS.2.2 x h
      · exact hL x h
  obtain ⟨t2, a1, a2⟩ := kk q u T'.heap (locs ++ L) hp hB (by rw [hh]; exact hE) hS1 T' rfl X'
  exact ⟨t2, hgo _ a1, a2⟩
end ZQ4
/-! more numbers -/
theorem zi_divt {a b c : Int32} {x y : Int} (e : c = a / b) (ha : a.toInt = x) (hb : b.toInt = y) (h : 0 < y) : c.toInt = x.tdiv y ∧ (0 ≤ x → 0 ≤ c.toInt ∧ c.toInt ≤ x) ∧ (x ≤ 0 → x ≤ c.toInt ∧ c.toInt ≤ 0) := by
  have h1 := zi_div e ha hb h
  refine ⟨h1, fun h0 => ?_, fun h0 => ?_⟩
  · rw [h1]
    exact ⟨Int.tdiv_nonneg h0 (Int.le_of_lt h), by rw [Int.tdiv_eq_ediv_of_nonneg h0]; exact Int.ediv_le_self _ h0⟩
  · rw [h1]
    have h2 := Int.tdiv_nonneg (a := -x) (b := y) (by omega) (Int.le_of_lt h)
    have h3 : (-x).tdiv y ≤ -x := by rw [Int.tdiv_eq_ediv_of_nonneg (by omega)]; exact Int.ediv_le_self _ (by omega)
    rw [Int.neg_tdiv] at h2 h3
    exact ⟨by omega, by omega⟩
theorem zi_divb {q x y : Int} (h : q = x / y) (h0 : 0 ≤ x) (hy : 0 < y) : 0 ≤ q ∧ q ≤ x := by
  rw [h]; exact ⟨Int.ediv_nonneg h0 (Int.le_of_lt hy), Int.ediv_le_self _ h0⟩
theorem zi_remb {q x y : Int} (h : q = x % y) (hy : 0 < y) : 0 ≤ q ∧ q < y := by
  rw [h]; exact ⟨Int.emod_nonneg _ (Int.ne_of_gt hy), Int.emod_lt_of_pos _ hy⟩
theorem zi_mulb {a b c : Int32} (e : c = a * b) (p q u w : Int) (ha : p ≤ a.toInt ∧ a.toInt ≤ q) (hb : u ≤ b.toInt ∧ b.toInt ≤ w) (h1 : 0 ≤ p ∧ 0 ≤ u ∧ q * w ≤ 2147483647) : c.toInt = a.toInt * b.toInt ∧ p * u ≤ c.toInt ∧ c.toInt ≤ q * w := by
  obtain ⟨hp, hu, hw⟩ := h1
  have h3 : p * u ≤ a.toInt * b.toInt := Int.mul_le_mul ha.1 hb.1 hu (Int.le_trans hp ha.1)
  have h4 : a.toInt * b.toInt ≤ q * w := Int.mul_le_mul ha.2 hb.2 (Int.le_trans hu hb.1) (Int.le_trans (Int.le_trans hp ha.1) ha.2)
  have h5 : 0 ≤ p * u := Int.mul_nonneg hp hu
  have h6 := zi_mul e rfl rfl ⟨by omega, by omega⟩
  exact ⟨h6, by omega, by omega⟩
theorem zi_i2l {x : Int32} {y : Int64} (e : y = x.toInt64) : y.toInt = x.toInt := by rw [e]; exact Int32.toInt_toInt64 x
theorem zi_l2i {x : Int64} {y : Int32} (e : y = x.toInt32) (h : -2147483648 ≤ x.toInt ∧ x.toInt ≤ 2147483647) : y.toInt = x.toInt := by
  rw [e, Int64.toInt_toInt32]
  exact Int.bmod_eq_of_le (by omega) (by omega)
theorem zq_lay_a {X : zq_X} (L : zq_lay X) {a k j k2 : Nat} (hk : zq_k X a = k) {n : Nat} (hj : j < n) (h : (List.range n).all (fun i => zq_rk k i == k2) = true) (h0 : k2 ≠ 0) : zq_k X (zq_r X a j) = k2 := by
  have h1 := List.all_eq_true.mp h j (List.mem_range.mpr hj)
  simp only [beq_iff_eq] at h1
  exact zq_lk L hk h1 h0
theorem zq_own_a {X : zq_X} (L : zq_own X) {a k j : Nat} (hk : zq_k X a = k) {n : Nat} (hj : j < n) (h : (List.range n).all (fun i => zq_rk k i != 0 && zq_so k i) = true) : zq_o X (zq_r X a j) = zq_o X a := by
  have h1 := List.all_eq_true.mp h j (List.mem_range.mpr hj)
  simp only [Bool.and_eq_true, bne_iff_ne] at h1
  exact L a k j hk h1.1 h1.2
/-- the whole layout: kinds, owners of worlds, towns and ships apart -/
def zq_L (X : zq_X) : Prop := zq_lay X ∧ zq_own X ∧
  (∀ a, zq_k X a = 1 → zq_o X a ≤ 4 ∧ zq_o X (zq_r X a 0) = 100 + 2 * zq_o X a ∧ zq_o X (zq_r X a 1) = 101 + 2 * zq_o X a) ∧
  (∀ a, zq_k X a = 9 → zq_o X (zq_r X a 3) = 0 ∧ zq_o X (zq_r X a 4) = 200 ∧ (∀ j, j < 4 → zq_o X (zq_r X (zq_r X a 5) j) = j + 1) ∧ (∀ j, j < 20 → zq_o X (zq_r X (zq_r X a 7) j) = 120 + j)) ∧
  (∀ a, zq_k X a = 3 → zq_o X (zq_r X a 0) = 201) ∧ (∀ a, zq_k X a = 2 → zq_o X (zq_r X a 0) = 202) ∧
  (∀ a i j, zq_k X a = 32 → i < 4 → j < 4 → zq_r X a i = zq_r X a j → i = j) ∧ (∀ a b, zq_k X a = 8 → zq_k X b = 8 → zq_o X a = zq_o X b → a = b) ∧ (∀ a b, zq_k X a = 1 → zq_k X b = 1 → zq_o X a = zq_o X b → a = b) ∧ (∀ a b, zq_k X a = 59 → zq_k X b = 59 → a = b)
