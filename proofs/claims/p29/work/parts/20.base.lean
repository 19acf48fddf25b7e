/-! MEMORY BY MAPS: a cell has a kind (by its address), int slots lie in one map I, references in a map that never changes, longs and Words are hidden -/
abbrev zq_M : Type := Nat → Nat → Int32
/-- classes and slots of the state; array classes; kind; reference; owner -/
abbrev zq_X : Type := va_G × (Nat → ClassId) × (Nat → Nat) × (Nat → Nat → Nat) × (Nat → Nat) × Heap
def zq_k (X : zq_X) (a : Nat) : Nat := X.2.2.1 a
def zq_r (X : zq_X) (a j : Nat) : Nat := X.2.2.2.1 a j
def zq_o (X : zq_X) (a : Nat) : Nat := X.2.2.2.2.1 a
/-- the heap at the start -/
def zq_h0 (X : zq_X) : Heap := X.2.2.2.2.2
/-- what may be written -/
def zq_A (X : zq_X) : Nat → Prop := fun q => zq_k X q ≠ 0 ∧ ¬ (12 ≤ zq_k X q ∧ zq_k X q < 20)
/-- slot types: 0 int, 1 boolean, 2 byte, 3 long, 4 reference, 5 Word -/
def zq_os (k j : Nat) : Nat := (match k with
  | 1 => [4, 4, 0, 0, 4, 4, 0]
  | 2 => [4, 4, 4]
  | 3 => [4, 4, 4, 0, 0, 0]
  | 4 => [4, 4, 4, 0, 4, 4, 4, 4, 0, 4, 0, 4, 4, 4, 4, 0]
  | 5 => [0, 0, 0, 0, 0, 1]
  | 6 => [4, 0, 4, 4, 4, 4, 4, 0, 0, 0]
  | 7 => [0, 0, 0, 0, 0, 1, 0]
  | 8 => [1, 0, 0, 0, 0, 0, 0, 4, 4, 4]
  | 9 => [4, 4, 0, 4, 4, 4, 4, 4, 0, 0, 4, 4]
  | 10 => [4, 0, 0, 4, 4, 4, 4, 4, 0, 0, 0, 0, 0, 0, 0, 4, 0, 4, 0, 4, 4, 0, 0, 0, 4, 0, 4, 4, 4, 3, 4, 4, 4, 4]
  | _ => []).getD j 0
/-- an array kind: its type (0 int, 1 boolean, 2 byte, 3 long, 4 Rule, 5 World, 6 Book, 7 Ship, 8 Town, 9 Word, 10 int[]) and length -/
def zq_ar (k : Nat) : Nat × Nat := match k with
  | 20 => (2, 400) | 21 => (9, 21) | 22 => (0, 401) | 23 => (9, 401) | 24 => (3, 13) | 25 => (0, 60) | 26 => (0, 60) | 27 => (0, 400) | 28 => (0, 12) | 29 => (0, 12)
  | 30 => (0, 12) | 31 => (7, 3) | 32 => (8, 4) | 33 => (0, 10) | 34 => (0, 4) | 35 => (0, 3) | 36 => (10, 7) | 37 => (0, 61) | 38 => (1, 7) | 39 => (4, 6) | 40 => (6, 4) | 41 => (1, 4) | 42 => (5, 20) | 43 => (0, 401)
  | 50 => (2, 400) | 51 => (0, 2400) | 52 => (0, 7) | 53 => (0, 288) | 54 => (0, 6) | 55 => (0, 85) | 56 => (0, 400) | 57 => (3, 64) | 58 => (3, 13) | 59 => (0, 106) | 60 => (0, 700) | 61 => (0, 35) | 62 => (1, 7) | 63 => (0, 427) | 64 => (0, 424) | 65 => (0, 4) | 66 => (0, 4) | 67 => (1, 4)
  | _ => (0, 0)
/-- an array type's slot type -/
def zq_as (t : Nat) : Nat := match t with | 0 => 0 | 1 => 1 | 2 => 2 | 3 => 3 | 9 => 5 | _ => 4
/-- a reference's kind -/
def zq_rk (k j : Nat) : Nat := (match k with
  | 1 => [8, 8, 0, 0, 33, 33]
  | 2 => [8, 36, 38]
  | 3 => [8, 34, 35]
  | 4 => [24, 25, 25, 0, 26, 26, 25, 25, 0, 27, 0, 28, 29, 28, 29]
  | 6 => [20, 0, 21, 22, 43, 22, 23]
  | 8 => [0, 0, 0, 0, 0, 0, 0, 30, 31, 32]
  | 9 => [6, 39, 0, 1, 8, 40, 41, 42, 0, 0, 3, 2]
  | 10 => [50, 0, 0, 51, 52, 53, 54, 55, 0, 0, 0, 0, 0, 0, 0, 56, 0, 57, 0, 58, 59, 0, 0, 0, 60, 0, 61, 62, 63, 0, 64, 65, 66, 67]
  | 31 => [5, 5, 5]
  | 32 => [7, 7, 7, 7]
  | 36 => [37, 37, 37, 37, 37, 37, 37]
  | 39 => [4, 4, 4, 4, 4, 4]
  | 40 => [1, 1, 1, 1]
  | 42 => [8, 8, 8, 8, 8, 8, 8, 8, 8, 8, 8, 8, 8, 8, 8, 8, 8, 8, 8, 8]
  | _ => []).getD j 0
def zq_min : Int := -2147483648
def zq_max : Int := 2147483647
/-- ranges of the cells of the reference's row 'said': c how many months at most have gone -/
def zq_sd (c : Nat) (j : Nat) : Int × Int := match j with
  | 0 => (0, 1) | 1 => (0, 20) | 2 => (0, 3) | 3 => (0, 4)
  | 12 => (0, c)
  | 13 => (-1, 3) | 17 => (-1, 3) | 21 => (-1, 3)
  | 15 => (0, 99) | 19 => (0, 99) | 23 => (0, 99)
  | 25 => (0, 99) | 30 => (0, 99) | 35 => (0, 99) | 40 => (0, 99)
  | 26 => (0, 99) | 31 => (0, 99) | 36 => (0, 99) | 41 => (0, 99)
  | 27 => (0, 99 * (c : Int)) | 32 => (0, 99 * (c : Int)) | 37 => (0, 99 * (c : Int)) | 42 => (0, 99 * (c : Int))
  | 57 => (0, 99) | 59 => (0, 99) | 61 => (0, 99)
  | 63 => (0, 6) | 65 => (0, 6) | 67 => (0, 6) | 69 => (0, 6)
  | 64 => (0, 60) | 66 => (0, 60) | 68 => (0, 60) | 70 => (0, 60)
  | 73 => (0, 99) | 76 => (0, 99) | 79 => (0, 99) | 82 => (0, 99)
  | 74 => (0, 99) | 77 => (0, 99) | 80 => (0, 99) | 83 => (0, 99)
  | 85 => (0, 60) | 87 => (0, 60) | 89 => (0, 60) | 91 => (0, 60) | 93 => (0, 60) | 95 => (0, 60) | 97 => (0, 60) | 99 => (0, 60) | 101 => (0, 60) | 103 => (0, 60)
  | 105 => (0, 10)
  | _ => (zq_min, zq_max)
/-- the range of a slot; z: months kept, months now -/
def zq_ls (l : List (Int × Int)) (j : Nat) : Int × Int := l.getD j (zq_min, zq_max)
def zq_rg (z : Nat × Nat) (k j : Nat) : Int × Int := match k with
  | 1 => zq_ls [(zq_min, zq_max), (zq_min, zq_max), (zq_min, zq_max), (zq_min, zq_max), (zq_min, zq_max), (zq_min, zq_max), (0, 10)] j
  | 4 => zq_ls [(zq_min, zq_max), (zq_min, zq_max), (zq_min, zq_max), (0, 60), (zq_min, zq_max), (zq_min, zq_max), (zq_min, zq_max), (zq_min, zq_max), (0, 60), (zq_min, zq_max), (0, 400), (zq_min, zq_max), (zq_min, zq_max), (zq_min, zq_max), (zq_min, zq_max), (0, 12)] j
  | 3 => zq_ls [(zq_min, zq_max), (zq_min, zq_max), (zq_min, zq_max), (zq_min, zq_max), (zq_min, zq_max), (0, 24)] j
  | 5 => zq_ls [(-1, 99), (-1, 99), (zq_min, zq_max), (zq_min, zq_max), (0, 99), (0, 1)] j
  | 6 => zq_ls [(zq_min, zq_max), (0, 400), (zq_min, zq_max), (zq_min, zq_max), (zq_min, zq_max), (zq_min, zq_max), (zq_min, zq_max), (0, 401), (0, 401)] j
  | 7 => zq_ls [(-1, 6), (-1, 60), (-1, 99), (-1, 99), (zq_min, zq_max), (0, 1)] j
  | 8 => zq_ls [(0, 1), (zq_min, zq_max), (zq_min, zq_max), (zq_min, zq_max), (zq_min, zq_max), (0, 3), (0, 4)] j
  | 9 => zq_ls [(zq_min, zq_max), (zq_min, zq_max), (0, 6), (zq_min, zq_max), (zq_min, zq_max), (zq_min, zq_max), (zq_min, zq_max), (zq_min, zq_max), (0, 19)] j
  | 10 => zq_ls [(zq_min, zq_max), (0, 400), (0, 6), (zq_min, zq_max), (zq_min, zq_max), (zq_min, zq_max), (zq_min, zq_max), (zq_min, zq_max), (0, 400), (zq_min, zq_max), (zq_min, zq_max), (0, 6), (0, 60), (zq_min, zq_max), (zq_min, zq_max), (zq_min, zq_max), (0, 400), (zq_min, zq_max), (0, 64), (zq_min, zq_max), (zq_min, zq_max), (-1, 5), (zq_min, zq_max), (zq_min, zq_max), (zq_min, zq_max), (0, 20)] j
  | 26 => (0, zq_max)
  | 28 => (0, zq_max)
  | 38 => (0, 1)
  | 41 => (0, 1)
  | 62 => (0, 1)
  | 67 => (0, 1)
  | 52 => (0, 400)
  | 54 => (0, 12)
  | 43 => (0, 400)
  | 55 => zq_sd 0 j
  | 59 => zq_sd z.2 j
  | 60 => zq_sd z.1 (10 + j % 35)
  | 61 => zq_sd z.1 (10 + j)
  | 64 => zq_sd z.1 (j % 106)
  | 65 => (-1, 5)
  | _ => (zq_min, zq_max)
abbrev zq_Z : Type := Nat × Nat
theorem zd_le {c c2 : Nat} (h : c ≤ c2) (j : Nat) : (zq_sd c2 j).1 = (zq_sd c j).1 ∧ (zq_sd c j).2 ≤ (zq_sd c2 j).2 := by
  unfold zq_sd
  split <;> simp <;> omega
theorem zq_rgm {z z2 : Nat × Nat} (h1 : z.1 ≤ z2.1) (h2 : z.2 ≤ z2.2) (k j : Nat) : (zq_rg z2 k j).1 = (zq_rg z k j).1 ∧ (zq_rg z k j).2 ≤ (zq_rg z2 k j).2 := by
  unfold zq_rg
  split <;> first | exact ⟨rfl, Int.le_refl _⟩ | exact zd_le h1 _ | exact zd_le h2 _
/-- the value that a slot of type t holds -/
def zq_vl (X : zq_X) (I : zq_M) (t a j : Nat) (v : Value) : Prop := match t with
  | 0 => v = .int (I a j) | 1 => v = .int (I a j) | 2 => v = .int (I a j)
  | 3 => ∃ x : Int64, v = .long x
  | 4 => v = .ref (zq_r X a j)
  | _ => ∃ w : Nat, zq_k X w = 12 ∧ v = .ref w
def zq_ob (X : zq_X) (I : zq_M) (k a : Nat) (H : Heap) : Prop := ∃ (r : vw_C) (V : Nat → Value), vwCl[k - 1]? = some r ∧ t_OB a (X.1.1 (k - 1)) r.2.2 (X.1.2 (k - 1)) H V ∧ ∀ j, j < r.2.2 → zq_vl X I (zq_os k j) a j (V j)
def zq_aa (X : zq_X) (I : zq_M) (k a : Nat) (H : Heap) : Prop := ∃ V : Nat → Value, H[a]? = some (arrV (X.2.1 (zq_ar k).1) (zq_ar k).2 V) ∧ ∀ j, j < (zq_ar k).2 → zq_vl X I (zq_as (zq_ar k).1) a j (V j)
/-- the heap holds the map, and the map's numbers are in their ranges -/
def zq_hm (X : zq_X) (z : zq_Z) (I : zq_M) (H : Heap) : Prop :=
  (∀ a k, zq_k X a = k → 0 < k → k < 11 → zq_ob X I k a H) ∧ (∀ a k, zq_k X a = k → 20 ≤ k → zq_aa X I k a H) ∧ (∀ a j, (zq_rg z (zq_k X a) j).1 ≤ (I a j).toInt ∧ (I a j).toInt ≤ (zq_rg z (zq_k X a) j).2) ∧ ∀ a, a < (zq_h0 X).size → ¬ zq_A X a → H[a]? = (zq_h0 X)[a]?
theorem zq_hm.mono {X : zq_X} {z z2 : zq_Z} {I : zq_M} {H : Heap} (h : zq_hm X z I H) (h1 : z.1 ≤ z2.1) (h2 : z.2 ≤ z2.2) : zq_hm X z2 I H :=
  ⟨h.1, h.2.1, fun a j => by
    obtain ⟨e1, e2⟩ := zq_rgm h1 h2 (zq_k X a) j
    have := h.2.2.1 a j
    exact ⟨by rw [e1]; exact this.1, Int.le_trans this.2 e2⟩, h.2.2.2⟩
def zq_tys (X : zq_X) : List (ClassId × FieldType) := [(X.2.1 0, .int), (X.2.1 1, .boolean), (X.2.1 2, .byte), (X.2.1 3, .long), (X.2.1 4, .object RX3), (X.2.1 5, .object RX10), (X.2.1 6, .object RX0), (X.2.1 7, .object RX5), (X.2.1 8, .object RX7), (X.2.1 9, .object RX9), (X.2.1 10, .array .int)]
/-- constants: Words, their texts, statics that nobody writes -/
def zq_wn : List String := ["OTHER", "TRADE", "FROST", "SAIL", "IF", "OR", "AND", "NOT", "SHIP", "TOWN", "HOUSE"]
def zq_C (X : zq_X) (U : State) : Prop :=
  (∀ nm ∈ zq_wn, ∃ w, zq_k X w = 12 ∧ va_Z RX9 nm "LPondIceTrade$Word;" (.ref w) (zq_A X) U (zq_h0 X)) ∧
  (∀ w, zq_k X w = 12 → va_O RX9 w (zq_A X) U (zq_h0 X) ∧ (∃ v : Int32, va_OF RX9 "value" "I" (.int v) w (zq_A X) U (zq_h0 X)) ∧ ∃ t, zq_k X t = 13 ∧ va_OF RX9 "text" "Ljava/lang/String;" (.ref t) w (zq_A X) U (zq_h0 X)) ∧
  (∀ t, zq_k X t = 13 → va_O "java/lang/String" t (zq_A X) U (zq_h0 X) ∧ va_OF "java/lang/String" "coder" "B" (.int 0) t (zq_A X) U (zq_h0 X) ∧ zq_k X (zq_r X t 0) = 14 ∧ va_OF "java/lang/String" "value" "[B" (.ref (zq_r X t 0)) t (zq_A X) U (zq_h0 X)) ∧
  (∀ b, zq_k X b = 14 → zq_r X b 0 < 2147483648 ∧ ∃ f : Nat → Int32, va_T .byte b (zq_r X b 0) (fun j => .int (f j)) (zq_A X) U (zq_h0 X)) ∧
  va_Z "java/lang/String" "COMPACT_STRINGS" "Z" (.int 1) (zq_A X) U (zq_h0 X) ∧ ∃ q : Option Nat, va_Z "jdk/internal/util/Preconditions" "SIOOBE_FORMATTER" "Ljava/util/function/BiFunction;" (va_rf q) (zq_A X) U (zq_h0 X)
theorem zq_C.moved {X : zq_X} {u U : State} (hvm : u.vm.Alike U.vm) (h : zq_C X u) : zq_C X U := by
  obtain ⟨h1, h2, h3, h4, h5, q, h6⟩ := h
  refine ⟨fun nm hn => ?_, fun w hw => ?_, fun t ht => ?_, fun b hb => ?_, va_Z.moved hvm h5, q, va_Z.moved hvm h6⟩
  · obtain ⟨w, a, b⟩ := h1 nm hn
    exact ⟨w, a, va_Z.moved hvm b⟩
  · obtain ⟨o, ⟨v, a⟩, t, b, c⟩ := h2 w hw
    exact ⟨va_O.moved hvm o, ⟨v, va_OF.moved hvm a⟩, t, b, va_OF.moved hvm c⟩
  · obtain ⟨a, b, c, d⟩ := h3 t ht
    exact ⟨va_O.moved hvm a, va_OF.moved hvm b, c, va_OF.moved hvm d⟩
  · obtain ⟨a, f, c⟩ := h4 b hb
    exact ⟨a, f, va_T.moved hvm c⟩
def zq_N (X : zq_X) (U : State) : Prop := va_Nw (.methodLinkNest RX1 59 yX11_isWithin RX11) U ∧ va_Nw (.methodLinkNest RX2 25 yX11_isWithin RX11) U ∧ va_Nw (.methodLinkNest RX8 103 yX11_isWithin RX11) U ∧ va_Nw (.methodLinkNest RX10 102 yX11_isWithin RX11) U ∧ zq_C X U
def zq_K (X : zq_X) (U : State) : Prop := va_K X.1 vwCl (zq_tys X) U ∧ zq_N X U
/-- a method's world -/
def zq_W (X : zq_X) (z : zq_Z) (I : zq_M) (U : State) : Prop := zq_hm X z I U.heap ∧ zq_K X U
def zq_up (I : zq_M) (a j : Nat) (v : Int32) : zq_M := fun b i => if b = a ∧ i = j then v else I b i
theorem zq_up_eq (I : zq_M) (a j : Nat) (v : Int32) : zq_up I a j v a j = v := if_pos ⟨rfl, rfl⟩
theorem zq_up_a {I : zq_M} {a j b i : Nat} {v : Int32} (h : b ≠ a) : zq_up I a j v b i = I b i := if_neg fun e => h e.1
theorem zq_up_j {I : zq_M} {a j b i : Nat} {v : Int32} (h : i ≠ j) : zq_up I a j v b i = I b i := if_neg fun e => h e.2
theorem zq_up_row {I : zq_M} {a j b : Nat} {v : Int32} (h : b ≠ a) : zq_up I a j v b = I b := funext fun _ => if_neg fun e => h e.1
theorem zq_kne {X : zq_X} {a b k k' : Nat} (ha : zq_k X a = k) (hb : zq_k X b = k') (h : k ≠ k') : a ≠ b := fun e => h (by rw [← ha, ← hb, e])
theorem zq_vl_up {X : zq_X} {I : zq_M} {t a j b i : Nat} {v : Int32} {w : Value} (h : zq_vl X I t b i w) (hn : b ≠ a ∨ i ≠ j) : zq_vl X (zq_up I a j v) t b i w := by
  have e : zq_up I a j v b i = I b i := by rcases hn with h | h; exact zq_up_a h; exact zq_up_j h
  unfold zq_vl at h ⊢
  split <;> simp_all
theorem zq_K.warm {X : zq_X} {u U : State} (hW : u.WarmedH U.vm) (h : zq_K X u) : zq_K X U := ⟨va_K.moved hW.alike h.1, va_Nw.warmM hW h.2.1, va_Nw.warmM hW h.2.2.1, va_Nw.warmM hW h.2.2.2.1, va_Nw.warmM hW h.2.2.2.2.1, zq_C.moved hW.alike h.2.2.2.2.2⟩
theorem zq_K.same {X : zq_X} {u U : State} (e : u.vm = U.vm) (h : zq_K X u) : zq_K X U := ⟨va_K.moved (by rw [← e]; exact Vm.Alike.refl u.vm) h.1, va_Nw.same rfl e h.2.1, va_Nw.same rfl e h.2.2.1, va_Nw.same rfl e h.2.2.2.1, va_Nw.same rfl e h.2.2.2.2.1, zq_C.moved (by rw [← e]; exact Vm.Alike.refl u.vm) h.2.2.2.2.2⟩
/-- what is known of the heap behind a method -/
def zq_E (X : zq_X) (z : zq_Z) (I : zq_M) (U : State) : Prop := zq_hm X z I U.heap
theorem zq_rng {X : zq_X} {z : zq_Z} {I : zq_M} {H : Heap} (h : zq_hm X z I H) {a k : Nat} (hk : zq_k X a = k) (j : Nat) : (zq_rg z k j).1 ≤ (I a j).toInt ∧ (I a j).toInt ≤ (zq_rg z k j).2 := by
  rw [← hk]; exact h.2.2.1 a j
def zq_n (k : Nat) : Nat := match k with | 1 => 7 | 2 => 3 | 3 => 6 | 4 => 16 | 5 => 6 | 6 => 10 | 7 => 7 | 8 => 10 | 9 => 12 | 10 => 34 | _ => 0
theorem zq_nl : ∀ (k : Nat) (r : vw_C), 0 < k → k < 11 → vwCl[k - 1]? = some r → r.2.2 = zq_n k
  | 0, _, h, _, _ => absurd h (by decide)
  | 1, _, _, _, h => by cases h; rfl
  | 2, _, _, _, h => by cases h; rfl
  | 3, _, _, _, h => by cases h; rfl
  | 4, _, _, _, h => by cases h; rfl
  | 5, _, _, _, h => by cases h; rfl
  | 6, _, _, _, h => by cases h; rfl
  | 7, _, _, _, h => by cases h; rfl
  | 8, _, _, _, h => by cases h; rfl
  | 9, _, _, _, h => by cases h; rfl
  | 10, _, _, _, h => by cases h; rfl
  | k + 11, _, _, h, _ => absurd h (by omega)
/-- an object kind's slot, of a type -/
def zq_iO (k j t : Nat) : Prop := 0 < k ∧ k < 11 ∧ j < zq_n k ∧ zq_os k j = t
/-- an array kind, of a type and a length -/
def zq_iA (k t n : Nat) : Prop := 20 ≤ k ∧ zq_ar k = (t, n)
def zq_ty (t : Nat) : FieldType := match t with | 1 => .boolean | 3 => .long | _ => .int
def zq_F (X : zq_X) (s : State) (args : Array Value) (own : String) (index k j : Nat) : Prop :=
  ∃ (ref nm ds : String) (cf : Nat) (kf : Class) (fi : Nat) (f : Field), (Cond.fieldLink own index ref nm ds).before args s = true ∧ s.fieldFound? ref nm ds = some (cf, kf, fi, f) ∧ f.isStatic = false ∧ f.slot = X.1.2 (k - 1) j
def zq_G (X : zq_X) (s : State) (args : Array Value) (own : String) (index k j : Nat) (ty : FieldType) : Prop :=
  ∃ (ref nm ds : String) (cf : Nat) (kf : Class) (fi : Nat) (f : Field), (Cond.fieldLink own index ref nm ds).before args s = true ∧ s.fieldFound? ref nm ds = some (cf, kf, fi, f) ∧ f.isStatic = false ∧ f.slot = X.1.2 (k - 1) j ∧
    (∀ v : Value, narrow ty v = v → fits ty v = true → k2_Sd s f (X.1.1 (k - 1)) v) ∧ ∀ x y, x < zq_n k → y < zq_n k → x ≠ y → X.1.2 (k - 1) x ≠ X.1.2 (k - 1) y
theorem zq_b01 {v : Int32} (h : 0 ≤ v.toInt ∧ v.toInt ≤ 1) : v = 0 ∨ v = 1 := by
  have h1 : v.toInt = 0 ∨ v.toInt = 1 := by omega
  rcases h1 with h1 | h1
  · exact Or.inl (Int32.toInt_inj.mp (by rw [h1]; rfl))
  · exact Or.inr (Int32.toInt_inj.mp (by rw [h1]; rfl))
theorem zq_any (v : Int32) : zq_min ≤ v.toInt ∧ v.toInt ≤ zq_max := by
  have h1 := Int32.le_toInt v
  have h2 := Int32.toInt_lt v
  unfold zq_min zq_max
  constructor <;> omega
section ZQ
variable {p : Program} {l : Launch} {e : Env} {R : Room} {s : State} {m : MethodId} {args : Array Value} {below : List Frame} {meth : Method} {c : Code} {H : Heap} {locs : List Loc} {cells slots : Nat} {Q : State → Prop}
variable {cc : ByteArray} {nL pc : Nat} {ls : Array Slot} {rest st0 : List Value} {Ts : List Cond} {own : String} {X : zq_X} {z z2 : zq_Z} {I : zq_M} {a k j index : Nat} {aa : Array Value}
theorem zq_F.of {C : String} {T : u_T} {N : Nat} (E : CallFix p m c cc nL s args Ts own) (hZ : zq_K X s) (hc : vwCl[k - 1]? = some (C, T, N)) (hin : ∀ w ∈ u_ws C T N, w ∈ Ts) (hj : j < N) (hl : Cond.fieldLink own index (T j).1 (T j).2.1 (T j).2.2.1 ∈ Ts) : zq_F X s args own index k j := by
  obtain ⟨hS, hfc, kC, hkC, hkind⟩ := hZ.1.1 (k - 1) _ hc
  obtain ⟨cf, kf, fi, f, hi, hsl⟩ := hS j hj
  exact ⟨_, _, _, cf, kf, fi, f, E.2.2.2.2 _ hl, hi, (u_facts hfc hkC (u_lays E.2.2.2.2 hin hj) hi).1, hsl⟩
theorem zq_G.of {C : String} {T : u_T} {N : Nat} {ty : FieldType} (E : CallFix p m c cc nL s args Ts own) (hZ : zq_K X s) (hc : vwCl[k - 1]? = some (C, T, N)) (hin : ∀ w ∈ u_ws C T N, w ∈ Ts) (hN : N = zq_n k) (ty0 : Nat → FieldType) (hty : ∀ k, k < N → parseFieldDescriptor (T k).2.2.1 = some (ty0 k)) (hnm : ∀ a, a < N → ∀ b, b < N → a ≠ b → (T a).2.1 ≠ (T b).2.1) (hj : j < N) (hfin : (T j).2.2.2 = false) (hd : ty0 j = ty) (hl : Cond.fieldLink own index (T j).1 (T j).2.1 (T j).2.2.1 ∈ Ts) : zq_G X s args own index k j ty := by
  have hap := va_apart (own := own) E.2.2.2.2 hin ty0 hty hnm hZ.1 hc
  obtain ⟨hS, hfc, kC, hkC, hkind⟩ := hZ.1.1 (k - 1) _ hc
  obtain ⟨cf, kf, fi, f, hi, hsl⟩ := hS j hj
  have hlay := E.2.2.2.2 _ (hin _ (u_in_lay hj))
  unfold u_lay at hlay
  rw [if_neg (by rw [hfin]; decide)] at hlay
  refine ⟨_, _, _, cf, kf, fi, f, E.2.2.2.2 _ hl, hi, (u_facts hfc hkC (u_lays E.2.2.2.2 hin hj) hi).1, hsl, fun v hn hf => u_store hfc hkC hkind hlay hi (by rw [hty j hj, hd]) hn hf, ?_⟩
  rw [← hN]
  exact hap
theorem zq_G.F {ty : FieldType} (h : zq_G X s args own index k j ty) : zq_F X s args own index k j := by
  obtain ⟨r, n, d, cf, kf, fi, f, h1, h2, h3, h4, -⟩ := h
  exact ⟨r, n, d, cf, kf, fi, f, h1, h2, h3, h4⟩
theorem zq_get0 (E : CallFix p m c cc nL s args Ts own) (hM : zq_hm X z I H) (hk : zq_k X a = k) (F : zq_F X s args own index k j) (h1 : 0 < k) (h2 : k < 11) (h3 : j < zq_n k) (hdg : decode cc pc = .ok (.getfield index, 3))
    (kk : ∀ v : Value, zq_vl X I (zq_os k j) a j v → W p l e R s m args below meth c H locs cells slots Q (F0 m (pc + 3) ls (v :: rest))) : W p l e R s m args below meth c H locs cells slots Q (F0 m pc ls (.ref a :: rest)) := by
  obtain ⟨r, V, hr, ⟨cell, q1, q2, q3, q4⟩, hV⟩ := hM.1 a k hk h1 h2
  have hj : j < r.2.2 := by rw [zq_nl k r h1 h2 hr]; exact h3
  obtain ⟨ref, nm, ds, cf, kf, fi, f, hl, hi, hst, hsl⟩ := F
  refine W.getf E.1 E.2.1 E.2.2.2.1 hl hi hst q1 (by rw [q3]; exact fun h => by cases h) (v := V j) ?_ rfl rfl hdg (kk _ (hV j hj))
  rw [hsl, q4 j hj]
theorem zq_geti (E : CallFix p m c cc nL s args Ts own) (hM : zq_hm X z I H) (hk : zq_k X a = k) (F : zq_F X s args own index k j) (ho : zq_iO k j 0) {v : Int32} (hv : I a j = v) (hdg : decode cc pc = .ok (.getfield index, 3))
    (kk : W p l e R s m args below meth c H locs cells slots Q (F0 m (pc + 3) ls (.int v :: rest))) : W p l e R s m args below meth c H locs cells slots Q (F0 m pc ls (.ref a :: rest)) := by
  obtain ⟨h1, h2, h3, h4⟩ := ho
  refine zq_get0 E hM hk F h1 h2 h3 hdg (fun w hw => ?_)
  rw [h4] at hw
  rw [show w = .int (I a j) from hw, hv]; exact kk
theorem zq_getz (E : CallFix p m c cc nL s args Ts own) (hM : zq_hm X z I H) (hk : zq_k X a = k) (F : zq_F X s args own index k j) (ho : zq_iO k j 1) {v : Int32} (hv : I a j = v) (hdg : decode cc pc = .ok (.getfield index, 3))
    (kk : W p l e R s m args below meth c H locs cells slots Q (F0 m (pc + 3) ls (.int v :: rest))) : W p l e R s m args below meth c H locs cells slots Q (F0 m pc ls (.ref a :: rest)) := by
  obtain ⟨h1, h2, h3, h4⟩ := ho
  refine zq_get0 E hM hk F h1 h2 h3 hdg (fun w hw => ?_)
  rw [h4] at hw
  rw [show w = .int (I a j) from hw, hv]; exact kk
theorem zq_getl (E : CallFix p m c cc nL s args Ts own) (hM : zq_hm X z I H) (hk : zq_k X a = k) (F : zq_F X s args own index k j) (ho : zq_iO k j 3) (hdg : decode cc pc = .ok (.getfield index, 3))
    (kk : ∀ x : Int64, W p l e R s m args below meth c H locs cells slots Q (F0 m (pc + 3) ls (.long x :: rest))) : W p l e R s m args below meth c H locs cells slots Q (F0 m pc ls (.ref a :: rest)) := by
  obtain ⟨h1, h2, h3, h4⟩ := ho
  refine zq_get0 E hM hk F h1 h2 h3 hdg (fun v hv => ?_)
  rw [h4] at hv
  obtain ⟨x, rfl⟩ : ∃ x : Int64, v = .long x := hv
  exact kk x
theorem zq_getr (E : CallFix p m c cc nL s args Ts own) (hM : zq_hm X z I H) (hk : zq_k X a = k) (F : zq_F X s args own index k j) (ho : zq_iO k j 4) (hdg : decode cc pc = .ok (.getfield index, 3))
    (kk : W p l e R s m args below meth c H locs cells slots Q (F0 m (pc + 3) ls (.ref (zq_r X a j) :: rest))) : W p l e R s m args below meth c H locs cells slots Q (F0 m pc ls (.ref a :: rest)) := by
  obtain ⟨h1, h2, h3, h4⟩ := ho
  refine zq_get0 E hM hk F h1 h2 h3 hdg (fun v hv => ?_)
  rw [h4] at hv
  rw [show v = .ref (zq_r X a j) from hv]; exact kk
/-- one slot of one cell is written: the map behind it -/
theorem zq_hm.row {I2 : zq_M} {H1 : Heap} (hM : zq_hm X z I H) (hk : zq_k X a = k) (hnc : k ≠ 0 ∧ ¬ (12 ≤ k ∧ k < 20)) (hob : 0 < k → k < 11 → zq_ob X I2 k a H1) (har : 20 ≤ k → zq_aa X I2 k a H1) (ho : ∀ q, q ≠ a → H1[q]? = H[q]?) (hI : ∀ b i, b ≠ a → I2 b i = I b i) (hr : ∀ i, (zq_rg z k i).1 ≤ (I2 a i).toInt ∧ (I2 a i).toInt ≤ (zq_rg z k i).2) : zq_hm X z I2 H1 := by
  have hv : ∀ t b i w, b ≠ a → zq_vl X I t b i w → zq_vl X I2 t b i w := by
    intro t b i w hb h
    have e := hI b i hb
    unfold zq_vl at h ⊢
    split <;> simp_all
  refine ⟨fun b k2 hb h1 h2 => ?_, fun b k2 hb h1 => ?_, fun b i => ?_, fun b h1 h2 => ?_⟩
  · by_cases e : b = a
    · subst e
      have : k2 = k := hb.symm.trans hk
      subst this
      exact hob h1 h2
    · obtain ⟨r, V, hr, hO, hV⟩ := hM.1 b k2 hb h1 h2
      exact ⟨r, V, hr, hO.kept (ho b e), fun i hi => hv _ _ _ _ e (hV i hi)⟩
  · by_cases e : b = a
    · subst e
      have : k2 = k := hb.symm.trans hk
      subst this
      exact har h1
    · obtain ⟨V, hO, hV⟩ := hM.2.1 b k2 hb h1
      exact ⟨V, (ho b e).trans hO, fun i hi => hv _ _ _ _ e (hV i hi)⟩
  · by_cases e : b = a
    · subst e
      rw [hk]
      exact hr i
    · rw [hI b i e]
      exact hM.2.2.1 b i
  · have e : b ≠ a := fun e => h2 (by rw [e]; unfold zq_A; rw [hk]; exact hnc)
    rw [ho b e]
    exact hM.2.2.2 b h1 h2
theorem zq_put0 {ty : FieldType} {v : Value} {I2 : zq_M} (E : CallFix p m c cc nL s args Ts own) (hM : zq_hm X z I H) (hS : va_S (zq_A X) s.heap H locs) (hk : zq_k X a = k) (G : zq_G X s args own index k j ty) (h1 : 0 < k) (h2 : k < 11) (h3 : j < zq_n k) (hn : narrow ty v = v) (hf : fits ty v = true)
    (hI : ∀ b i, b ≠ a ∨ i ≠ j → I2 b i = I b i) (hv : zq_vl X I2 (zq_os k j) a j v) (hr : (zq_rg z k j).1 ≤ (I2 a j).toInt ∧ (I2 a j).toInt ≤ (zq_rg z k j).2) (hdg : decode cc pc = .ok (.putfield index, 3))
    (kk : ∀ (H1 : Heap) (locs1 : List Loc), zq_hm X z I2 H1 → va_S (zq_A X) s.heap H1 locs1 → W p l e R s m args below meth c H1 locs1 cells slots Q (F0 m (pc + 3) ls rest)) : W p l e R s m args below meth c H locs cells slots Q (F0 m pc ls (v :: .ref a :: rest)) := by
  obtain ⟨r, V, hrr, ⟨cell, q1, q2, q3, q4⟩, hV⟩ := hM.1 a k hk h1 h2
  have hrn := zq_nl k r h1 h2 hrr
  have hj : j < r.2.2 := by rw [hrn]; exact h3
  obtain ⟨ref, nm, ds, cf, kf, fi, f, hl, hi, hst, hsl, hsd, hap⟩ := G
  refine W.putK E.1 E.2.1 (f := f) ⟨E.2.2.2.1, hl, ⟨_, _, _, hi⟩, hst⟩ (by rw [q2]; exact hsd v hn hf) q1 q3 (by rw [hsl]; exact k2_hasslot (q4 j hj)) rfl rfl hdg fun H' e1 e2 e3 => ?_
  rw [hsl] at e1 ⊢
  refine kk H' _ (hM.row hk ⟨by omega, by omega⟩ (fun _ _ => ⟨r, updV V j v, hrr, ⟨_, e1, q2, q3, t_set q4 (by rw [hrn]; exact hap) hj v⟩, fun i hi => ?_⟩) (fun h => absurd h (by omega)) e3 (fun b i hb => hI b i (Or.inl hb)) (fun i => ?_)) (hS.put e2 e3 ⟨by rw [hk]; omega, by rw [hk]; omega⟩)
  · by_cases e : i = j
    · subst e
      simpa [updV] using hv
    · have h := hV i hi
      have e2 := hI a i (Or.inr e)
      unfold zq_vl at h ⊢
      split <;> simp_all [updV]
  · by_cases e : i = j
    · subst e; exact hr
    · rw [hI a i (Or.inr e), ← hk]
      exact hM.2.2.1 a i
theorem zq_puti {v : Int32} (E : CallFix p m c cc nL s args Ts own) (hM : zq_hm X z I H) (hS : va_S (zq_A X) s.heap H locs) (hk : zq_k X a = k) (G : zq_G X s args own index k j .int) (ho : zq_iO k j 0) (hr : (zq_rg z k j).1 ≤ v.toInt ∧ v.toInt ≤ (zq_rg z k j).2) (hdg : decode cc pc = .ok (.putfield index, 3))
    (kk : ∀ (H1 : Heap) (locs1 : List Loc), zq_hm X z (zq_up I a j v) H1 → va_S (zq_A X) s.heap H1 locs1 → W p l e R s m args below meth c H1 locs1 cells slots Q (F0 m (pc + 3) ls rest)) : W p l e R s m args below meth c H locs cells slots Q (F0 m pc ls (.int v :: .ref a :: rest)) := by
  obtain ⟨h1, h2, h3, h4⟩ := ho
  refine zq_put0 (I2 := zq_up I a j v) E hM hS hk G h1 h2 h3 rfl rfl (fun b i h => h.elim zq_up_a zq_up_j) ?_ (by rw [zq_up_eq]; exact hr) hdg kk
  rw [h4]
  show Value.int v = .int (zq_up I a j v a j)
  rw [zq_up_eq]
theorem zq_putz {v : Int32} (E : CallFix p m c cc nL s args Ts own) (hM : zq_hm X z I H) (hS : va_S (zq_A X) s.heap H locs) (hk : zq_k X a = k) (G : zq_G X s args own index k j .boolean) (ho : zq_iO k j 1) (h01 : 0 ≤ v.toInt ∧ v.toInt ≤ 1) (hr : (zq_rg z k j).1 ≤ v.toInt ∧ v.toInt ≤ (zq_rg z k j).2) (hdg : decode cc pc = .ok (.putfield index, 3))
    (kk : ∀ (H1 : Heap) (locs1 : List Loc), zq_hm X z (zq_up I a j v) H1 → va_S (zq_A X) s.heap H1 locs1 → W p l e R s m args below meth c H1 locs1 cells slots Q (F0 m (pc + 3) ls rest)) : W p l e R s m args below meth c H locs cells slots Q (F0 m pc ls (.int v :: .ref a :: rest)) := by
  obtain ⟨h1, h2, h3, h4⟩ := ho
  refine zq_put0 (I2 := zq_up I a j v) E hM hS hk G h1 h2 h3 (by rcases zq_b01 h01 with rfl | rfl <;> decide +kernel) (by rcases zq_b01 h01 with rfl | rfl <;> decide +kernel) (fun b i h => h.elim zq_up_a zq_up_j) ?_ (by rw [zq_up_eq]; exact hr) hdg kk
  rw [h4]
  show Value.int v = .int (zq_up I a j v a j)
  rw [zq_up_eq]
theorem zq_putl {v : Int64} (E : CallFix p m c cc nL s args Ts own) (hM : zq_hm X z I H) (hS : va_S (zq_A X) s.heap H locs) (hk : zq_k X a = k) (G : zq_G X s args own index k j .long) (ho : zq_iO k j 3) (hdg : decode cc pc = .ok (.putfield index, 3))
    (kk : ∀ (H1 : Heap) (locs1 : List Loc), zq_hm X z I H1 → va_S (zq_A X) s.heap H1 locs1 → W p l e R s m args below meth c H1 locs1 cells slots Q (F0 m (pc + 3) ls rest)) : W p l e R s m args below meth c H locs cells slots Q (F0 m pc ls (.long v :: .ref a :: rest)) := by
  obtain ⟨h1, h2, h3, h4⟩ := ho
  refine zq_put0 (I2 := I) E hM hS hk G h1 h2 h3 rfl rfl (fun _ _ _ => rfl) ?_ (by rw [← hk]; exact hM.2.2.1 a j) hdg kk
  rw [h4]
  exact ⟨v, rfl⟩
theorem zq_in {i : Int32} {n : Nat} (h : 0 ≤ i.toInt ∧ i.toInt < (n : Int)) : vp_in i n := vp_in_iff.mpr h
theorem zq_inn {i : Int32} {n : Nat} (h : 0 ≤ i.toInt ∧ i.toInt < (n : Int)) : i.toNatClampNeg < n := Nat.not_le.mp fun q => (zq_in h) (Or.inr q)
theorem zq_cl {i : Int32} (h : 0 ≤ i.toInt) : (i.toNatClampNeg : Int) = i.toInt := by
  show ((i.toInt.toNat : Nat) : Int) = i.toInt
  omega
theorem zq_iald {n : Nat} (E : CallFix p m c cc nL s args Ts own) (hZ : zq_K X s) (hM : zq_hm X z I H) (hk : zq_k X a = k) (ho : zq_iA k 0 n) {i : Int32} (hin : 0 ≤ i.toInt ∧ i.toInt < (n : Int)) {j : Nat} (hj : i.toNatClampNeg = j) {v : Int32} (hv : I a j = v) (hdg : decode cc pc = .ok (.iaload, 1))
    (kk : W p l e R s m args below meth c H locs cells slots Q (F0 m (pc + 1) ls (.int v :: rest))) : W p l e R s m args below meth c H locs cells slots Q (F0 m pc ls (.int i :: .ref a :: rest)) := by
  obtain ⟨h1, h2⟩ := ho
  obtain ⟨V, hV, hw⟩ := hM.2.1 a k hk h1
  rw [h2] at hV hw
  have e : V i.toNatClampNeg = .int v := by rw [show V i.toNatClampNeg = .int (I a i.toNatClampNeg) from hw _ (zq_inn hin), hj, hv]
  exact W.iald E.1 E.2.1 hV ((hZ.1.2 0 _ rfl).1 n V) (fun q => by cases q) (by rw [arrV_size]; exact zq_in hin) (by rw [arrV_read _ _ (zq_inn hin), e]) rfl rfl hdg kk
theorem zq_zald {n : Nat} (E : CallFix p m c cc nL s args Ts own) (hZ : zq_K X s) (hM : zq_hm X z I H) (hk : zq_k X a = k) (ho : zq_iA k 1 n) {i : Int32} (hin : 0 ≤ i.toInt ∧ i.toInt < (n : Int)) {j : Nat} (hj : i.toNatClampNeg = j) {v : Int32} (hv : I a j = v) (hdg : decode cc pc = .ok (.baload, 1))
    (kk : W p l e R s m args below meth c H locs cells slots Q (F0 m (pc + 1) ls (.int v :: rest))) : W p l e R s m args below meth c H locs cells slots Q (F0 m pc ls (.int i :: .ref a :: rest)) := by
  obtain ⟨h1, h2⟩ := ho
  obtain ⟨V, hV, hw⟩ := hM.2.1 a k hk h1
  rw [h2] at hV hw
  have e : V i.toNatClampNeg = .int v := by rw [show V i.toNatClampNeg = .int (I a i.toNatClampNeg) from hw _ (zq_inn hin), hj, hv]
  exact W.zald E.1 E.2.1 hV ((hZ.1.2 1 _ rfl).1 n V) (fun q => by cases q) (by rw [arrV_size]; exact zq_in hin) (by rw [arrV_read _ _ (zq_inn hin), e]) rfl rfl hdg kk
theorem zq_bald {n : Nat} (E : CallFix p m c cc nL s args Ts own) (hZ : zq_K X s) (hM : zq_hm X z I H) (hk : zq_k X a = k) (ho : zq_iA k 2 n) {i : Int32} (hin : 0 ≤ i.toInt ∧ i.toInt < (n : Int)) {j : Nat} (hj : i.toNatClampNeg = j) {v : Int32} (hv : I a j = v) (hdg : decode cc pc = .ok (.baload, 1))
    (kk : W p l e R s m args below meth c H locs cells slots Q (F0 m (pc + 1) ls (.int v :: rest))) : W p l e R s m args below meth c H locs cells slots Q (F0 m pc ls (.int i :: .ref a :: rest)) := by
  obtain ⟨h1, h2⟩ := ho
  obtain ⟨V, hV, hw⟩ := hM.2.1 a k hk h1
  rw [h2] at hV hw
  have e : V i.toNatClampNeg = .int v := by rw [show V i.toNatClampNeg = .int (I a i.toNatClampNeg) from hw _ (zq_inn hin), hj, hv]
  exact W.bald E.1 E.2.1 hV ((hZ.1.2 2 _ rfl).1 n V) (fun q => by cases q) (by rw [arrV_size]; exact zq_in hin) (by rw [arrV_read _ _ (zq_inn hin), e]) rfl rfl hdg kk
theorem zq_lald {n : Nat} (E : CallFix p m c cc nL s args Ts own) (hZ : zq_K X s) (hM : zq_hm X z I H) (hk : zq_k X a = k) (ho : zq_iA k 3 n) {i : Int32} (hin : 0 ≤ i.toInt ∧ i.toInt < (n : Int)) (hdg : decode cc pc = .ok (.laload, 1))
    (kk : ∀ x : Int64, W p l e R s m args below meth c H locs cells slots Q (F0 m (pc + 1) ls (.long x :: rest))) : W p l e R s m args below meth c H locs cells slots Q (F0 m pc ls (.int i :: .ref a :: rest)) := by
  obtain ⟨h1, h2⟩ := ho
  obtain ⟨V, hV, hv⟩ := hM.2.1 a k hk h1
  rw [h2] at hV hv
  obtain ⟨x, e⟩ : ∃ x : Int64, V i.toNatClampNeg = .long x := hv _ (zq_inn hin)
  exact W.lald E.1 E.2.1 hV ((hZ.1.2 3 _ rfl).1 n V) (fun q => by cases q) (by rw [arrV_size]; exact zq_in hin) (by rw [arrV_read _ _ (zq_inn hin), e]) rfl rfl hdg (kk x)
/-- the type of an array of references -/
theorem zq_rT {t : Nat} (hZ : zq_K X s) (ht : 4 ≤ t) (ht2 : t ≤ 10) : ∃ ty : FieldType, ty.isReference = true ∧ ArrOfT s (X.2.1 t) ty := by
  rcases (show t = 4 ∨ t = 5 ∨ t = 6 ∨ t = 7 ∨ t = 8 ∨ t = 9 ∨ t = 10 by omega) with rfl | rfl | rfl | rfl | rfl | rfl | rfl
  · exact ⟨_, rfl, (hZ.1.2 4 _ rfl).1⟩
  · exact ⟨_, rfl, (hZ.1.2 5 _ rfl).1⟩
  · exact ⟨_, rfl, (hZ.1.2 6 _ rfl).1⟩
  · exact ⟨_, rfl, (hZ.1.2 7 _ rfl).1⟩
  · exact ⟨_, rfl, (hZ.1.2 8 _ rfl).1⟩
  · exact ⟨_, rfl, (hZ.1.2 9 _ rfl).1⟩
  · exact ⟨_, rfl, (hZ.1.2 10 _ rfl).1⟩
theorem zq_rald {n t : Nat} (E : CallFix p m c cc nL s args Ts own) (hZ : zq_K X s) (hM : zq_hm X z I H) (hk : zq_k X a = k) (ho : zq_iA k t n) (ht : zq_as t = 4 ∧ 4 ≤ t ∧ t ≤ 10) {i : Int32} (hin : 0 ≤ i.toInt ∧ i.toInt < (n : Int)) {j : Nat} (hj : i.toNatClampNeg = j) (hdg : decode cc pc = .ok (.aaload, 1))
    (kk : W p l e R s m args below meth c H locs cells slots Q (F0 m (pc + 1) ls (.ref (zq_r X a j) :: rest))) : W p l e R s m args below meth c H locs cells slots Q (F0 m pc ls (.int i :: .ref a :: rest)) := by
  subst hj
  obtain ⟨h1, h2⟩ := ho
  obtain ⟨V, hV, hv⟩ := hM.2.1 a k hk h1
  rw [h2] at hV hv
  have e0 := hv _ (zq_inn hin)
  simp only [ht.1] at e0
  have e : V i.toNatClampNeg = .ref (zq_r X a i.toNatClampNeg) := e0
  obtain ⟨ty, hr, hT⟩ := zq_rT hZ ht.2.1 ht.2.2
  exact W.aald E.1 E.2.1 hV (hT n V) hr (fun q => by cases q) (by rw [arrV_size]; exact zq_in hin) (by rw [arrV_read _ _ (zq_inn hin), e]) rfl rfl hdg kk
theorem zq_wald {n : Nat} (E : CallFix p m c cc nL s args Ts own) (hZ : zq_K X s) (hM : zq_hm X z I H) (hk : zq_k X a = k) (ho : zq_iA k 9 n) {i : Int32} (hin : 0 ≤ i.toInt ∧ i.toInt < (n : Int)) (hdg : decode cc pc = .ok (.aaload, 1))
    (kk : ∀ w : Nat, zq_k X w = 12 → W p l e R s m args below meth c H locs cells slots Q (F0 m (pc + 1) ls (.ref w :: rest))) : W p l e R s m args below meth c H locs cells slots Q (F0 m pc ls (.int i :: .ref a :: rest)) := by
  obtain ⟨h1, h2⟩ := ho
  obtain ⟨V, hV, hv⟩ := hM.2.1 a k hk h1
  rw [h2] at hV hv
  obtain ⟨w, hw, e⟩ : ∃ w : Nat, zq_k X w = 12 ∧ V i.toNatClampNeg = .ref w := hv _ (zq_inn hin)
  obtain ⟨ty, hr, hT⟩ := zq_rT (t := 9) hZ (by decide) (by decide)
  exact W.aald E.1 E.2.1 hV (hT n V) hr (fun q => by cases q) (by rw [arrV_size]; exact zq_in hin) (by rw [arrV_read _ _ (zq_inn hin), e]) rfl rfl hdg (kk w hw)
/-- an array's slot is written: the map behind it -/
theorem zq_ast0 {n i t : Nat} {w : Value} {I2 : zq_M} {H1 : Heap} {V : Nat → Value} {lc : Loc} (hM : zq_hm X z I H) (hS : va_S (zq_A X) s.heap H locs) (hk : zq_k X a = k) (ho : zq_iA k t n) (hV : H[a]? = some (arrV (X.2.1 t) n V)) (e1 : H1[a]? = some ((arrV (X.2.1 t) n V).setSlot i w)) (e2 : H1.size = H.size) (e3 : ∀ q, q ≠ a → H1[q]? = H[q]?)
    (hI : ∀ b q, b ≠ a ∨ q ≠ i → I2 b q = I b q) (hv : zq_vl X I2 (zq_as t) a i w) (hr : (zq_rg z k i).1 ≤ (I2 a i).toInt ∧ (I2 a i).toInt ≤ (zq_rg z k i).2) (hlc : lc.base = a) : zq_hm X z I2 H1 ∧ va_S (zq_A X) s.heap H1 (locs ++ [lc]) := by
  obtain ⟨h1, h2⟩ := ho
  obtain ⟨V2, hV2, hv2⟩ := hM.2.1 a k hk h1
  rw [h2] at hV2 hv2
  have hk12 : ¬ (12 ≤ k ∧ k < 20) := by omega
  obtain ⟨lb, li⟩ := lc
  subst hlc
  refine ⟨hM.row hk ⟨by omega, by omega⟩ (fun _ h => absurd h (by omega)) (fun _ => ⟨updV V i w, by rw [h2, e1, arrV_store], fun q hq => ?_⟩) e3 (fun b q hb => hI b q (Or.inl hb)) (fun q => ?_), hS.put e2 e3 ⟨by rw [hk]; omega, by rw [hk]; exact hk12⟩⟩
  · rw [h2] at hq ⊢
    by_cases e : q = i
    · subst e
      simpa [updV] using hv
    · have hVV : V q = V2 q := by
        have h3 := arrV_read (X.2.1 t) V hq
        have h4 := arrV_read (X.2.1 t) V2 hq
        have h5 := Option.some.inj (hV.symm.trans hV2)
        rw [h5, h4] at h3
        exact (Option.some.inj h3).symm
      have h := hv2 q hq
      have e4 := hI lb q (Or.inr e)
      rw [← hVV] at h
      unfold zq_vl at h ⊢
      split <;> simp_all [updV]
  · by_cases e : q = i
    · subst e; exact hr
    · rw [hI lb q (Or.inr e), ← hk]
      exact hM.2.2.1 lb q
theorem zq_iast {n : Nat} (E : CallFix p m c cc nL s args Ts own) (hZ : zq_K X s) (hM : zq_hm X z I H) (hS : va_S (zq_A X) s.heap H locs) (hk : zq_k X a = k) (ho : zq_iA k 0 n) {i x : Int32} (hin : 0 ≤ i.toInt ∧ i.toInt < (n : Int)) {j : Nat} (hj : i.toNatClampNeg = j) (hr : (zq_rg z k j).1 ≤ x.toInt ∧ x.toInt ≤ (zq_rg z k j).2) (hdg : decode cc pc = .ok (.iastore, 1))
    (kk : ∀ (H1 : Heap) (locs1 : List Loc), zq_hm X z (zq_up I a j x) H1 → va_S (zq_A X) s.heap H1 locs1 → W p l e R s m args below meth c H1 locs1 cells slots Q (F0 m (pc + 1) ls rest)) : W p l e R s m args below meth c H locs cells slots Q (F0 m pc ls (.int x :: .int i :: .ref a :: rest)) := by
  subst hj
  obtain ⟨V, hV, -⟩ := hM.2.1 a k hk ho.1
  rw [ho.2] at hV
  refine W.iast E.1 E.2.1 hV ((hZ.1.2 0 _ rfl).1 n V) (fun q => by cases q) (by rw [arrV_size]; exact zq_in hin) rfl rfl hdg fun H1 e1 e2 e3 => ?_
  obtain ⟨g1, g2⟩ := zq_ast0 (I2 := zq_up I a i.toNatClampNeg x) (lc := ⟨a, i.toNatClampNeg⟩) hM hS hk ho hV e1 e2 e3 (fun b q h => h.elim zq_up_a zq_up_j) (show Value.int x = .int _ by rw [zq_up_eq]) (by rw [zq_up_eq]; exact hr) rfl
  exact kk H1 _ g1 g2
theorem zq_zast {n : Nat} (E : CallFix p m c cc nL s args Ts own) (hZ : zq_K X s) (hM : zq_hm X z I H) (hS : va_S (zq_A X) s.heap H locs) (hk : zq_k X a = k) (ho : zq_iA k 1 n) {i x : Int32} (hin : 0 ≤ i.toInt ∧ i.toInt < (n : Int)) {j : Nat} (hj : i.toNatClampNeg = j) (h01 : 0 ≤ x.toInt ∧ x.toInt ≤ 1) (hr : (zq_rg z k j).1 ≤ x.toInt ∧ x.toInt ≤ (zq_rg z k j).2) (hdg : decode cc pc = .ok (.bastore, 1))
    (kk : ∀ (H1 : Heap) (locs1 : List Loc), zq_hm X z (zq_up I a j x) H1 → va_S (zq_A X) s.heap H1 locs1 → W p l e R s m args below meth c H1 locs1 cells slots Q (F0 m (pc + 1) ls rest)) : W p l e R s m args below meth c H locs cells slots Q (F0 m pc ls (.int x :: .int i :: .ref a :: rest)) := by
  subst hj
  obtain ⟨V, hV, -⟩ := hM.2.1 a k hk ho.1
  rw [ho.2] at hV
  have hx : narrow .boolean (.int x) = .int x := by rcases zq_b01 h01 with rfl | rfl <;> decide +kernel
  refine W.zast E.1 E.2.1 hV ((hZ.1.2 1 _ rfl).1 n V) (fun q => by cases q) (by rw [arrV_size]; exact zq_in hin) rfl rfl hdg fun H1 e1 e2 e3 => ?_
  rw [hx] at e1
  obtain ⟨g1, g2⟩ := zq_ast0 (I2 := zq_up I a i.toNatClampNeg x) (lc := ⟨a, i.toNatClampNeg⟩) hM hS hk ho hV e1 e2 e3 (fun b q h => h.elim zq_up_a zq_up_j) (show Value.int x = .int _ by rw [zq_up_eq]) (by rw [zq_up_eq]; exact hr) rfl
  exact kk H1 _ g1 g2
theorem zq_bast {n : Nat} (E : CallFix p m c cc nL s args Ts own) (hZ : zq_K X s) (hM : zq_hm X z I H) (hS : va_S (zq_A X) s.heap H locs) (hk : zq_k X a = k) (ho : zq_iA k 2 n) {i x : Int32} (hin : 0 ≤ i.toInt ∧ i.toInt < (n : Int)) {j : Nat} (hj : i.toNatClampNeg = j) (hr : ∀ q, zq_rg z k q = (zq_min, zq_max)) (hdg : decode cc pc = .ok (.bastore, 1))
    (kk : ∀ (x2 : Int32) (H1 : Heap) (locs1 : List Loc), zq_hm X z (zq_up I a j x2) H1 → va_S (zq_A X) s.heap H1 locs1 → W p l e R s m args below meth c H1 locs1 cells slots Q (F0 m (pc + 1) ls rest)) : W p l e R s m args below meth c H locs cells slots Q (F0 m pc ls (.int x :: .int i :: .ref a :: rest)) := by
  subst hj
  obtain ⟨V, hV, -⟩ := hM.2.1 a k hk ho.1
  rw [ho.2] at hV
  obtain ⟨x2, hx⟩ : ∃ x2 : Int32, narrow .byte (.int x) = .int x2 := ⟨vp_nar .byte x, by simp [vp_nar, narrow]⟩
  refine W.bast E.1 E.2.1 hV ((hZ.1.2 2 _ rfl).1 n V) (fun q => by cases q) (by rw [arrV_size]; exact zq_in hin) rfl rfl hdg fun H1 e1 e2 e3 => ?_
  rw [hx] at e1
  obtain ⟨g1, g2⟩ := zq_ast0 (I2 := zq_up I a i.toNatClampNeg x2) (lc := ⟨a, i.toNatClampNeg⟩) hM hS hk ho hV e1 e2 e3 (fun b q h => h.elim zq_up_a zq_up_j) (show Value.int x2 = .int _ by rw [zq_up_eq]) (by rw [zq_up_eq, hr]; exact zq_any _) rfl
  exact kk x2 H1 _ g1 g2
theorem zq_last {n : Nat} (E : CallFix p m c cc nL s args Ts own) (hZ : zq_K X s) (hM : zq_hm X z I H) (hS : va_S (zq_A X) s.heap H locs) (hk : zq_k X a = k) (ho : zq_iA k 3 n) {i : Int32} {x : Int64} (hin : 0 ≤ i.toInt ∧ i.toInt < (n : Int)) (hdg : decode cc pc = .ok (.lastore, 1))
    (kk : ∀ (H1 : Heap) (locs1 : List Loc), zq_hm X z I H1 → va_S (zq_A X) s.heap H1 locs1 → W p l e R s m args below meth c H1 locs1 cells slots Q (F0 m (pc + 1) ls rest)) : W p l e R s m args below meth c H locs cells slots Q (F0 m pc ls (.long x :: .int i :: .ref a :: rest)) := by
  obtain ⟨V, hV, -⟩ := hM.2.1 a k hk ho.1
  rw [ho.2] at hV
  refine W.last E.1 E.2.1 hV ((hZ.1.2 3 _ rfl).1 n V) (fun q => by cases q) (by rw [arrV_size]; exact zq_in hin) rfl rfl hdg fun H1 e1 e2 e3 => ?_
  obtain ⟨g1, g2⟩ := zq_ast0 (I2 := I) (lc := ⟨a, i.toNatClampNeg⟩) hM hS hk ho hV e1 e2 e3 (fun _ _ _ => rfl) ⟨x, rfl⟩ (by rw [← hk]; exact hM.2.2.1 a _) rfl
  exact kk H1 _ g1 g2
theorem zq_alen {n t : Nat} (E : CallFix p m c cc nL s args Ts own) (hZ : zq_K X s) (hM : zq_hm X z I H) (hk : zq_k X a = k) (ho : zq_iA k t n) (ht : t ≤ 10) {v : Int32} (hv : Int32.ofNat n = v) (hdg : decode cc pc = .ok (.arraylength, 1))
    (kk : W p l e R s m args below meth c H locs cells slots Q (F0 m (pc + 1) ls (.int v :: rest))) : W p l e R s m args below meth c H locs cells slots Q (F0 m pc ls (.ref a :: rest)) := by
  obtain ⟨V, hV, -⟩ := hM.2.1 a k hk ho.1
  rw [ho.2] at hV
  obtain ⟨ty, hT⟩ : ∃ ty : FieldType, ArrOfT s (X.2.1 t) ty := by
    rcases (show t = 0 ∨ t = 1 ∨ t = 2 ∨ t = 3 ∨ 4 ≤ t by omega) with rfl | rfl | rfl | rfl | h
    · exact ⟨_, (hZ.1.2 0 _ rfl).1⟩
    · exact ⟨_, (hZ.1.2 1 _ rfl).1⟩
    · exact ⟨_, (hZ.1.2 2 _ rfl).1⟩
    · exact ⟨_, (hZ.1.2 3 _ rfl).1⟩
    · obtain ⟨ty, -, h⟩ := zq_rT hZ h ht
      exact ⟨ty, h⟩
  exact W.alen (n := v) E.1 E.2.1 hV (hT n V) (by rw [arrV_size]; exact hv) rfl rfl hdg kk
-- calls
theorem zq_blind {As : List Value} : FrameBlind (va_Pc As (zq_W X z I)) := fun _ U g mk q => ⟨q.1, q.2.1, zq_K.same rfl q.2.2⟩
theorem zq_preS {As : List Value} (hM : zq_hm X z I H) (hZ : zq_K X s) : PreS s H (va_Pc As (zq_W X z I)) As := ⟨zq_blind, fun U hU hW => ⟨rfl, by rw [hU]; exact hM, hZ.warm hW⟩⟩
theorem zq_recv {C : String} {T : u_T} {N : Nat} (hM : zq_hm X z I H) (hZ : zq_K X s) (hk : zq_k X a = k) (h1 : 0 < k ∧ k < 11) (hc : vwCl[k - 1]? = some (C, T, N)) : ∃ cellB : Cell, H[a]? = some cellB ∧ cellB.vm.isStatics = false ∧ s.vm.findClass C = some cellB.cls := by
  obtain ⟨r, V, hr, ⟨cell, q1, q2, q3, q4⟩, hV⟩ := hM.1 a k hk h1.1 h1.2
  obtain ⟨-, hfc, -⟩ := hZ.1.1 (k - 1) _ hc
  exact ⟨cell, q1, by rw [q3]; rfl, by rw [q2]; exact hfc⟩
theorem zq_preV {As : List Value} {C : String} {T : u_T} {N : Nat} (hM : zq_hm X z I H) (hZ : zq_K X s) (hk : zq_k X a = k) (h1 : 0 < k ∧ k < 11) (hc : vwCl[k - 1]? = some (C, T, N)) : PreV s H C a (va_Pc (.ref a :: As) (zq_W X z I)) As := ⟨zq_blind, zq_recv hM hZ hk h1 hc, fun U hU hW => ⟨rfl, by rw [hU]; exact hM, hZ.warm hW⟩⟩
theorem zq_calli {post : Int32 → zq_M → Prop} (hr : va_Run p l e R s m args below meth c H locs cells slots 0 0 (F0 m pc ls st0) rest (va_Qi post (zq_E X z2) (zq_A X) aa) (zq_A X)) (hS : va_S (zq_A X) s.heap H locs)
    (kk : ∀ (r : Int32) (I2 : zq_M) (H1 : Heap) (locs1 : List Loc), post r I2 → zq_hm X z2 I2 H1 → va_S (zq_A X) s.heap H1 locs1 → W p l e R s m args below meth c H1 locs1 cells slots Q (F0 m (pc + 3) ls (.int r :: rest))) : W p l e R s m args below meth c H locs cells slots Q (F0 m pc ls st0) :=
  va_calli hr hS (fun _ _ h => h) (fun _ h => h) (fun r u t H1 locs1 ht _ hp hb _ _ hS1 => kk r u H1 locs1 hp (by rw [← ht]; exact hb) hS1)
theorem zq_calll {post : Int64 → zq_M → Prop} (hr : va_Run p l e R s m args below meth c H locs cells slots 0 0 (F0 m pc ls st0) rest (va_Ql post (zq_E X z2) (zq_A X) aa) (zq_A X)) (hS : va_S (zq_A X) s.heap H locs)
    (kk : ∀ (r : Int64) (I2 : zq_M) (H1 : Heap) (locs1 : List Loc), post r I2 → zq_hm X z2 I2 H1 → va_S (zq_A X) s.heap H1 locs1 → W p l e R s m args below meth c H1 locs1 cells slots Q (F0 m (pc + 3) ls (.long r :: rest))) : W p l e R s m args below meth c H locs cells slots Q (F0 m pc ls st0) :=
  va_calll hr hS (fun _ _ h => h) (fun _ h => h) (fun r u t H1 locs1 ht _ hp hb _ _ hS1 => kk r u H1 locs1 hp (by rw [← ht]; exact hb) hS1)
theorem zq_callv {post : zq_M → Prop} (hr : va_Run p l e R s m args below meth c H locs cells slots 0 0 (F0 m pc ls st0) rest (va_Qv post (zq_E X z2) (zq_A X) aa) (zq_A X)) (hS : va_S (zq_A X) s.heap H locs)
    (kk : ∀ (I2 : zq_M) (H1 : Heap) (locs1 : List Loc), post I2 → zq_hm X z2 I2 H1 → va_S (zq_A X) s.heap H1 locs1 → W p l e R s m args below meth c H1 locs1 cells slots Q (F0 m (pc + 3) ls rest)) : W p l e R s m args below meth c H locs cells slots Q (F0 m pc ls st0) :=
  va_callv hr hS (fun _ _ h => h) (fun _ h => h) (fun u t H1 locs1 ht _ hp hb _ _ hS1 => kk u H1 locs1 hp (by rw [← ht]; exact hb) hS1)
theorem zq_callr {post : zq_M → Prop} {B : zq_M → Nat → Prop} (hr : va_Run p l e R s m args below meth c H locs cells slots 0 0 (F0 m pc ls st0) rest (va_Qr post (fun I2 q t => zq_E X z2 I2 t ∧ B I2 q) (zq_A X) aa) (zq_A X)) (hS : va_S (zq_A X) s.heap H locs)
    (kk : ∀ (q : Nat) (I2 : zq_M) (H1 : Heap) (locs1 : List Loc), post I2 → B I2 q → zq_hm X z2 I2 H1 → va_S (zq_A X) s.heap H1 locs1 → W p l e R s m args below meth c H1 locs1 cells slots Q (F0 m (pc + 3) ls (.ref q :: rest))) : W p l e R s m args below meth c H locs cells slots Q (F0 m pc ls st0) :=
  va_callr hr hS (fun _ _ h => h) (fun _ h => h) (fun u q t H1 locs1 ht _ hp hb _ _ hS1 => kk q u H1 locs1 hp hb.2 (by rw [← ht]; exact hb.1) hS1)
-- returns
theorem zq_iret {post : Int32 → zq_M → Prop} {v : Int32} (E : CallFix p m c cc nL s args Ts own) (hrt : meth.sig.returnType = some .int) (hZ : zq_K X s) (hM : zq_hm X z I H) (hS : va_S (zq_A X) s.heap H locs) (hp : post v I) (hlocks : meth.locks = false) (hdg : decode cc pc = .ok (.ireturn, 1)) :
    W p l e R s m args below meth c H locs cells slots (MQ below (va_Qi post (zq_E X z) (zq_A X)) args s cells slots (zq_A X)) (F0 m pc ls [.int v]) :=
  W.iret E.1 E.2.1 hrt (fun t ht hW => ⟨⟨v, I, rfl, hp, by show zq_hm _ _ _ _; rw [ht]; exact hM⟩, hS.F ht⟩) hS.2.2 hdg hlocks
theorem zq_zret {post : Int32 → zq_M → Prop} {v : Int32} (E : CallFix p m c cc nL s args Ts own) (hrt : meth.sig.returnType = some .boolean) (hZ : zq_K X s) (hM : zq_hm X z I H) (hS : va_S (zq_A X) s.heap H locs) (h01 : 0 ≤ v.toInt ∧ v.toInt ≤ 1) (hp : post v I) (hlocks : meth.locks = false) (hdg : decode cc pc = .ok (.ireturn, 1)) :
    W p l e R s m args below meth c H locs cells slots (MQ below (va_Qi post (zq_E X z) (zq_A X)) args s cells slots (zq_A X)) (F0 m pc ls [.int v]) :=
  W.zret E.1 E.2.1 hrt (by rcases zq_b01 h01 with rfl | rfl <;> decide +kernel) (fun t ht hW => ⟨⟨v, I, rfl, hp, by show zq_hm _ _ _ _; rw [ht]; exact hM⟩, hS.F ht⟩) hS.2.2 hdg hlocks
theorem zq_lret {post : Int64 → zq_M → Prop} {v : Int64} (E : CallFix p m c cc nL s args Ts own) (hrt : meth.sig.returnType = some .long) (hZ : zq_K X s) (hM : zq_hm X z I H) (hS : va_S (zq_A X) s.heap H locs) (hp : post v I) (hlocks : meth.locks = false) (hdg : decode cc pc = .ok (.lreturn, 1)) :
    W p l e R s m args below meth c H locs cells slots (MQ below (va_Ql post (zq_E X z) (zq_A X)) args s cells slots (zq_A X)) (F0 m pc ls [.long v]) :=
  W.lret E.1 E.2.1 hrt (fun t ht hW => ⟨⟨v, I, rfl, hp, by show zq_hm _ _ _ _; rw [ht]; exact hM⟩, hS.F ht⟩) hS.2.2 hdg hlocks
theorem zq_vret {post : zq_M → Prop} (E : CallFix p m c cc nL s args Ts own) (hrt : meth.sig.returnType = none) (hZ : zq_K X s) (hM : zq_hm X z I H) (hS : va_S (zq_A X) s.heap H locs) (hp : post I) (hlocks : meth.locks = false) (hdg : decode cc pc = .ok (.return_, 1)) :
    W p l e R s m args below meth c H locs cells slots (MQ below (va_Qv post (zq_E X z) (zq_A X)) args s cells slots (zq_A X)) (F0 m pc ls []) :=
  W.vret E.1 E.2.1 hrt (fun t ht hW => ⟨⟨I, rfl, hp, by show zq_hm _ _ _ _; rw [ht]; exact hM⟩, hS.F ht⟩) hS.2.2 hdg hlocks
theorem zq_rret {post : zq_M → Prop} {B : zq_M → Nat → Prop} {q : Nat} {n : String} (E : CallFix p m c cc nL s args Ts own) (hrt : meth.sig.returnType = some (.object n)) (hZ : zq_K X s) (hM : zq_hm X z I H) (hS : va_S (zq_A X) s.heap H locs) (hp : post I) (hB : B I q) (hlocks : meth.locks = false) (hdg : decode cc pc = .ok (.areturn, 1)) :
    W p l e R s m args below meth c H locs cells slots (MQ below (va_Qr post (fun I2 q t => zq_E X z I2 t ∧ B I2 q) (zq_A X)) args s cells slots (zq_A X)) (F0 m pc ls [.ref q]) :=
  W.aret E.1 E.2.1 hrt (Or.inl ⟨n, rfl⟩) (Or.inr ⟨q, rfl⟩) (fun t ht hW => ⟨⟨I, q, rfl, hp, ⟨by show zq_hm _ _ _ _; rw [ht]; exact hM, hB⟩⟩, hS.F ht⟩) hS.2.2 hdg hlocks
end ZQ
/-! frames: what a method may have written -/
def zq_fr (S : Nat → Nat → Prop) (I0 I : zq_M) : Prop := ∀ b i, ¬ S b i → I b i = I0 b i
theorem zq_fr.rf {S : Nat → Nat → Prop} {I : zq_M} : zq_fr S I I := fun _ _ _ => rfl
theorem zq_fr.put {S : Nat → Nat → Prop} {I0 I : zq_M} {a j : Nat} {v : Int32} (h : zq_fr S I0 I) (hs : S a j) : zq_fr S I0 (zq_up I a j v) := fun b i hn => by
  rw [← h b i hn]
  by_cases e : b = a ∧ i = j
  · obtain ⟨rfl, rfl⟩ := e
    exact absurd hs hn
  · exact if_neg e
theorem zq_fr.call {S S2 : Nat → Nat → Prop} {I0 I I2 : zq_M} (h : zq_fr S I0 I) (h2 : zq_fr S2 I I2) (hs : ∀ b i, S2 b i → S b i) : zq_fr S I0 I2 := fun b i hn => (h2 b i (fun q => hn (hs b i q))).trans (h b i hn)
/-- by kinds and slots (999: all of a kind); of the kinds 5, 7, 8, 30 (worlds) those cells alone that P names -/
def zf_in (L : List (Nat × Nat)) (k i : Nat) : Bool := L.any (fun q => q.1 == k && (q.2 == i || q.2 == 999))
def zf_w (k : Nat) : Bool := k == 5 || k == 7 || k == 8 || k == 30
def zf (X : zq_X) (L : List (Nat × Nat)) (P : Nat → Prop) : Nat → Nat → Prop := fun b i => zf_in L (zq_k X b) i = true ∧ (zf_w (zq_k X b) = true → P b)
def zf_le (L2 L : List (Nat × Nat)) : Bool := L2.all (fun q => L.any (fun r => r.1 == q.1 && (r.2 == q.2 || r.2 == 999)))
theorem zf_sub {X : zq_X} {L2 L : List (Nat × Nat)} {P2 P : Nat → Prop} (h : zf_le L2 L = true) (hp : ∀ b, zf_w (zq_k X b) = true → P2 b → P b) : ∀ b i, zf X L2 P2 b i → zf X L P b i := by
  intro b i ⟨h1, h2⟩
  refine ⟨?_, fun h3 => hp b h3 (h2 h3)⟩
  unfold zf_in at h1 ⊢
  obtain ⟨q, hq, h4⟩ := List.any_eq_true.mp h1
  obtain ⟨r, hr, h5⟩ := List.any_eq_true.mp (List.all_eq_true.mp h q hq)
  refine List.any_eq_true.mpr ⟨r, hr, ?_⟩
  simp only [Bool.and_eq_true, Bool.or_eq_true, beq_iff_eq] at h4 h5 ⊢
  refine ⟨h5.1.trans h4.1, ?_⟩
  rcases h5.2 with h6 | h6
  · rcases h4.2 with h7 | h7
    · exact Or.inl (h6.trans h7)
    · exact Or.inr (h6.trans h7)
  · exact Or.inr h6
theorem zf_no {X : zq_X} {L : List (Nat × Nat)} {P : Nat → Prop} (h : L.all (fun q => !(zf_w q.1)) = true) : ∀ b, zf_w (zq_k X b) = true → ∀ i, ¬ zf X L P b i := by
  intro b hb i ⟨h1, _⟩
  obtain ⟨q, hq, h4⟩ := List.any_eq_true.mp h1
  have h5 := List.all_eq_true.mp h q hq
  simp only [Bool.and_eq_true, beq_iff_eq] at h4
  rw [← h4.1] at hb
  rw [hb] at h5
  exact absurd h5 (by decide)
theorem zf_i {X : zq_X} {L : List (Nat × Nat)} {P : Nat → Prop} {a k j : Nat} (hk : zq_k X a = k) (h : zf_in L k j = true) (hw : zf_w k = false) : zf X L P a j := ⟨by rw [hk]; exact h, fun h2 => by rw [hk, hw] at h2; exact absurd h2 (by decide)⟩
theorem zf_iw {X : zq_X} {L : List (Nat × Nat)} {P : Nat → Prop} {a k j : Nat} (hk : zq_k X a = k) (h : zf_in L k j = true) (hp : P a) : zf X L P a j := ⟨by rw [hk]; exact h, fun _ => hp⟩
theorem zf_n {X : zq_X} {L : List (Nat × Nat)} {P : Nat → Prop} {a k j : Nat} (hk : zq_k X a = k) (h : zf_in L k j = false) : ¬ zf X L P a j := fun q => by have := q.1; rw [hk, h] at this; exact absurd this (by decide)
theorem zf_np {X : zq_X} {L : List (Nat × Nat)} {P : Nat → Prop} {a k j : Nat} (hk : zq_k X a = k) (hw : zf_w k = true) (h : ¬ P a) : ¬ zf X L P a j := fun q => h (q.2 (by rw [hk]; exact hw))
/-! the layout -/
def zq_lay (X : zq_X) : Prop := ∀ a k j, zq_k X a = k → zq_rk k j ≠ 0 → zq_k X (zq_r X a j) = zq_rk k j
theorem zq_lk {X : zq_X} (L : zq_lay X) {a k j k2 : Nat} (hk : zq_k X a = k) (h : zq_rk k j = k2) (h0 : k2 ≠ 0) : zq_k X (zq_r X a j) = k2 := by
  have := L a k j hk (by rw [h]; exact h0)
  rw [this, h]
/-! numbers -/
theorem zi_add {a b c : Int32} {x y : Int} (e : c = a + b) (ha : a.toInt = x) (hb : b.toInt = y) (h : -2147483648 ≤ x + y ∧ x + y ≤ 2147483647) : c.toInt = x + y := by
  subst ha hb e
  rw [Int32.toInt_add]
  exact Int.bmod_eq_of_le (by omega) (by omega)
theorem zi_sub {a b c : Int32} {x y : Int} (e : c = a - b) (ha : a.toInt = x) (hb : b.toInt = y) (h : -2147483648 ≤ x - y ∧ x - y ≤ 2147483647) : c.toInt = x - y := by
  subst ha hb e
  rw [Int32.toInt_sub]
  exact Int.bmod_eq_of_le (by omega) (by omega)
theorem zi_mul {a b c : Int32} {x y : Int} (e : c = a * b) (ha : a.toInt = x) (hb : b.toInt = y) (h : -2147483648 ≤ x * y ∧ x * y ≤ 2147483647) : c.toInt = x * y := by
  subst ha hb e
  rw [Int32.toInt_mul]
  exact Int.bmod_eq_of_le (by omega) (by omega)
theorem zi_le {a b : Int32} {x y : Int} (h : a ≤ b) (ha : a.toInt = x) (hb : b.toInt = y) : x ≤ y := by subst ha hb; exact Int32.le_iff_toInt_le.mp h
theorem zi_nle {a b : Int32} {x y : Int} (h : ¬ a ≤ b) (ha : a.toInt = x) (hb : b.toInt = y) : y < x := by subst ha hb; exact Int.not_le.mp fun q => h (Int32.le_iff_toInt_le.mpr q)
theorem zi_lt {a b : Int32} {x y : Int} (h : a < b) (ha : a.toInt = x) (hb : b.toInt = y) : x < y := by subst ha hb; exact Int32.lt_iff_toInt_lt.mp h
theorem zi_nlt {a b : Int32} {x y : Int} (h : ¬ a < b) (ha : a.toInt = x) (hb : b.toInt = y) : y ≤ x := by subst ha hb; exact Int.not_lt.mp fun q => h (Int32.lt_iff_toInt_lt.mpr q)
theorem zi_eq {a b : Int32} {x y : Int} (h : a = b) (ha : a.toInt = x) (hb : b.toInt = y) : x = y := by subst ha hb; rw [h]
theorem zi_ne {a b : Int32} {x y : Int} (h : ¬ a = b) (ha : a.toInt = x) (hb : b.toInt = y) : ¬ x = y := by subst ha hb; exact fun q => h (Int32.toInt_inj.mp q)
/-- division by a positive number -/
theorem zi_div {a b c : Int32} {x y : Int} (e : c = a / b) (ha : a.toInt = x) (hb : b.toInt = y) (h : 0 < y) : c.toInt = x.tdiv y := by
  subst ha hb e
  rw [Int32.toInt_div]
  have h1 := Int32.le_toInt a
  have h2 := Int32.toInt_lt a
  have h3 : (a.toInt.tdiv b.toInt).natAbs ≤ a.toInt.natAbs := by rw [Int.natAbs_tdiv]; exact Nat.div_le_self _ _
  by_cases hm : 0 ≤ a.toInt
  · have := Int.tdiv_nonneg hm (Int.le_of_lt h)
    exact Int.bmod_eq_of_le (by omega) (by omega)
  · have h4 : a.toInt.tdiv b.toInt ≤ 0 := by
      have := Int.tdiv_nonneg (a := -a.toInt) (b := b.toInt) (by omega) (Int.le_of_lt h)
      rw [Int.neg_tdiv] at this
      omega
    exact Int.bmod_eq_of_le (by omega) (by omega)
theorem zi_divn {a b c : Int32} {x y : Int} (e : c = a / b) (ha : a.toInt = x) (hb : b.toInt = y) (h : 0 < y) (h0 : 0 ≤ x) : c.toInt = x / y := by rw [zi_div e ha hb h, Int.tdiv_eq_ediv_of_nonneg h0]
theorem zi_rem {a b c : Int32} {x y : Int} (e : c = a - a / b * b) (ha : a.toInt = x) (hb : b.toInt = y) (h : 0 < y) (h0 : 0 ≤ x) : c.toInt = x % y := by
  have h1 := zi_divn (c := a / b) rfl ha hb h h0
  have hx : x ≤ 2147483647 := by rw [← ha]; have := Int32.toInt_lt a; omega
  have h5 : 0 ≤ x / y := Int.ediv_nonneg h0 (Int.le_of_lt h)
  have h2 : x / y * y ≤ x := Int.ediv_mul_le x (Int.ne_of_gt h)
  have h6 : 0 ≤ x / y * y := Int.mul_nonneg h5 (Int.le_of_lt h)
  have h3 := zi_mul (c := a / b * b) rfl h1 hb ⟨by omega, by omega⟩
  have h4 := zi_sub (c := c) e ha h3 ⟨by omega, by omega⟩
  rw [h4, Int.emod_def, Int.mul_comm y]
theorem zi_and {a c : Int32} (k : Nat) {b : Int32} (hm : b.toBitVec.toNat = 2 ^ k - 1) (hk : k ≤ 30) (e : c = a &&& b) : 0 ≤ c.toInt ∧ c.toInt < ((2 ^ k : Nat) : Int) := by
  subst e
  exact vp_in_iff.mp (pk_andIn a k hm hk)
section ZQ2
variable {p : Program} {l : Launch} {e : Env} {R : Room} {s : State} {m : MethodId} {args : Array Value} {below : List Frame} {meth : Method} {c : Code} {H : Heap} {locs : List Loc} {cells slots : Nat} {Q : State → Prop}
variable {cc : ByteArray} {nL pc : Nat} {ls : Array Slot} {rest st0 : List Value} {Ts : List Cond} {own : String} {X : zq_X} {z z2 : zq_Z} {I : zq_M} {a k j index : Nat} {aa : Array Value}
/-- calls that change nothing -/
theorem zq_pcalli {P : Int32 → Prop} (hr : va_Run p l e R s m args below meth c H locs cells slots 0 0 (F0 m pc ls st0) rest (va_Qi (fun r I2 => I2 = I ∧ P r) (zq_E X z2) (zq_A X) aa) (zq_A X)) (hS : va_S (zq_A X) s.heap H locs)
    (kk : ∀ (r : Int32) (H1 : Heap) (locs1 : List Loc), P r → zq_hm X z2 I H1 → va_S (zq_A X) s.heap H1 locs1 → W p l e R s m args below meth c H1 locs1 cells slots Q (F0 m (pc + 3) ls (.int r :: rest))) : W p l e R s m args below meth c H locs cells slots Q (F0 m pc ls st0) :=
  zq_calli hr hS (fun r I2 H1 locs1 hp hM hS => kk r H1 locs1 hp.2 (by rw [← hp.1]; exact hM) hS)
theorem zq_pcalll {P : Int64 → Prop} (hr : va_Run p l e R s m args below meth c H locs cells slots 0 0 (F0 m pc ls st0) rest (va_Ql (fun r I2 => I2 = I ∧ P r) (zq_E X z2) (zq_A X) aa) (zq_A X)) (hS : va_S (zq_A X) s.heap H locs)
    (kk : ∀ (r : Int64) (H1 : Heap) (locs1 : List Loc), P r → zq_hm X z2 I H1 → va_S (zq_A X) s.heap H1 locs1 → W p l e R s m args below meth c H1 locs1 cells slots Q (F0 m (pc + 3) ls (.long r :: rest))) : W p l e R s m args below meth c H locs cells slots Q (F0 m pc ls st0) :=
  zq_calll hr hS (fun r I2 H1 locs1 hp hM hS => kk r H1 locs1 hp.2 (by rw [← hp.1]; exact hM) hS)
end ZQ2
/-- a method's room by its height -/
abbrev zq_rm (d : Nat) : Room := { frames := d, cells := 0, slots := 0, locals := 64 * d }
section ZQ3
variable {p : Program} {l : Launch} {e : Env} {R : Room} {s : State} {m : MethodId} {args : Array Value} {below : List Frame} {meth : Method} {c : Code} {H : Heap} {locs : List Loc} {cells slots : Nat} {Q : State → Prop}
variable {cc : ByteArray} {nL pc n : Nat} {ls : Array Slot} {rest st0 : List Value} {Ts : List Cond} {own : String} {X : zq_X} {z z2 : zq_Z} {I : zq_M} {a k j index : Nat} {aa : Array Value}
/-- a field is read, and named -/
theorem zq_gn (E : CallFix p m c cc nL s args Ts own) (hM : zq_hm X z I H) (hk : zq_k X a = k) (F : zq_F X s args own index k j) (ho : zq_iO k j 0 ∨ zq_iO k j 1) (hdg : decode cc pc = .ok (.getfield index, 3))
    (kk : ∀ v : Int32, I a j = v → (zq_rg z k j).1 ≤ v.toInt ∧ v.toInt ≤ (zq_rg z k j).2 → W p l e R s m args below meth c H locs cells slots Q (F0 m (pc + 3) ls (.int v :: rest))) : W p l e R s m args below meth c H locs cells slots Q (F0 m pc ls (.ref a :: rest)) := by
  rcases ho with ho | ho
  · exact zq_geti E hM hk F ho rfl hdg (kk _ rfl (zq_rng hM hk j))
  · exact zq_getz E hM hk F ho rfl hdg (kk _ rfl (zq_rng hM hk j))
/-- a field whose number is known already -/
theorem zq_gk {v : Int32} (E : CallFix p m c cc nL s args Ts own) (hM : zq_hm X z I H) (hk : zq_k X a = k) (F : zq_F X s args own index k j) (ho : zq_iO k j 0 ∨ zq_iO k j 1) (hv : I a j = v) (hdg : decode cc pc = .ok (.getfield index, 3))
    (kk : W p l e R s m args below meth c H locs cells slots Q (F0 m (pc + 3) ls (.int v :: rest))) : W p l e R s m args below meth c H locs cells slots Q (F0 m pc ls (.ref a :: rest)) := by
  rcases ho with ho | ho
  · exact zq_geti E hM hk F ho hv hdg kk
  · exact zq_getz E hM hk F ho hv hdg kk
theorem zq_pn {v : Int32} (E : CallFix p m c cc nL s args Ts own) (hM : zq_hm X z I H) (hS : va_S (zq_A X) s.heap H locs) (hk : zq_k X a = k) (G : zq_G X s args own index k j .int) (ho : zq_iO k j 0) (hr : (zq_rg z k j).1 ≤ v.toInt ∧ v.toInt ≤ (zq_rg z k j).2) (hdg : decode cc pc = .ok (.putfield index, 3))
    (kk : ∀ (I2 : zq_M) (H1 : Heap) (locs1 : List Loc), I2 = zq_up I a j v → zq_hm X z I2 H1 → va_S (zq_A X) s.heap H1 locs1 → W p l e R s m args below meth c H1 locs1 cells slots Q (F0 m (pc + 3) ls rest)) : W p l e R s m args below meth c H locs cells slots Q (F0 m pc ls (.int v :: .ref a :: rest)) :=
  zq_puti E hM hS hk G ho hr hdg (fun H1 locs1 hM hS => kk _ H1 locs1 rfl hM hS)
theorem zq_pz {v : Int32} (E : CallFix p m c cc nL s args Ts own) (hM : zq_hm X z I H) (hS : va_S (zq_A X) s.heap H locs) (hk : zq_k X a = k) (G : zq_G X s args own index k j .boolean) (ho : zq_iO k j 1) (hr : 0 ≤ v.toInt ∧ v.toInt ≤ 1) (hrg : zq_rg z k j = (0, 1)) (hdg : decode cc pc = .ok (.putfield index, 3))
    (kk : ∀ (I2 : zq_M) (H1 : Heap) (locs1 : List Loc), I2 = zq_up I a j v → zq_hm X z I2 H1 → va_S (zq_A X) s.heap H1 locs1 → W p l e R s m args below meth c H1 locs1 cells slots Q (F0 m (pc + 3) ls rest)) : W p l e R s m args below meth c H locs cells slots Q (F0 m pc ls (.int v :: .ref a :: rest)) :=
  zq_putz E hM hS hk G ho hr (by rw [hrg]; exact hr) hdg (fun H1 locs1 hM hS => kk _ H1 locs1 rfl hM hS)
theorem zq_ian (E : CallFix p m c cc nL s args Ts own) (hZ : zq_K X s) (hM : zq_hm X z I H) (hk : zq_k X a = k) (ho : zq_iA k 0 n) {i : Int32} (hin : 0 ≤ i.toInt ∧ i.toInt < (n : Int)) (hj : i.toNatClampNeg = j) (hdg : decode cc pc = .ok (.iaload, 1))
    (kk : ∀ v : Int32, I a j = v → (zq_rg z k j).1 ≤ v.toInt ∧ v.toInt ≤ (zq_rg z k j).2 → W p l e R s m args below meth c H locs cells slots Q (F0 m (pc + 1) ls (.int v :: rest))) : W p l e R s m args below meth c H locs cells slots Q (F0 m pc ls (.int i :: .ref a :: rest)) := zq_iald E hZ hM hk ho hin hj rfl hdg (kk _ rfl (zq_rng hM hk j))
theorem zq_zan (E : CallFix p m c cc nL s args Ts own) (hZ : zq_K X s) (hM : zq_hm X z I H) (hk : zq_k X a = k) (ho : zq_iA k 1 n) {i : Int32} (hin : 0 ≤ i.toInt ∧ i.toInt < (n : Int)) (hj : i.toNatClampNeg = j) (hdg : decode cc pc = .ok (.baload, 1))
    (kk : ∀ v : Int32, I a j = v → (zq_rg z k j).1 ≤ v.toInt ∧ v.toInt ≤ (zq_rg z k j).2 → W p l e R s m args below meth c H locs cells slots Q (F0 m (pc + 1) ls (.int v :: rest))) : W p l e R s m args below meth c H locs cells slots Q (F0 m pc ls (.int i :: .ref a :: rest)) := zq_zald E hZ hM hk ho hin hj rfl hdg (kk _ rfl (zq_rng hM hk j))
theorem zq_ban (E : CallFix p m c cc nL s args Ts own) (hZ : zq_K X s) (hM : zq_hm X z I H) (hk : zq_k X a = k) (ho : zq_iA k 2 n) {i : Int32} (hin : 0 ≤ i.toInt ∧ i.toInt < (n : Int)) (hj : i.toNatClampNeg = j) (hdg : decode cc pc = .ok (.baload, 1))
    (kk : ∀ v : Int32, I a j = v → (zq_rg z k j).1 ≤ v.toInt ∧ v.toInt ≤ (zq_rg z k j).2 → W p l e R s m args below meth c H locs cells slots Q (F0 m (pc + 1) ls (.int v :: rest))) : W p l e R s m args below meth c H locs cells slots Q (F0 m pc ls (.int i :: .ref a :: rest)) := zq_bald E hZ hM hk ho hin hj rfl hdg (kk _ rfl (zq_rng hM hk j))
theorem zq_isn (E : CallFix p m c cc nL s args Ts own) (hZ : zq_K X s) (hM : zq_hm X z I H) (hS : va_S (zq_A X) s.heap H locs) (hk : zq_k X a = k) (ho : zq_iA k 0 n) {i x : Int32} (hin : 0 ≤ i.toInt ∧ i.toInt < (n : Int)) (hj : i.toNatClampNeg = j) (hr : (zq_rg z k j).1 ≤ x.toInt ∧ x.toInt ≤ (zq_rg z k j).2) (hdg : decode cc pc = .ok (.iastore, 1))
    (kk : ∀ (I2 : zq_M) (H1 : Heap) (locs1 : List Loc), I2 = zq_up I a j x → zq_hm X z I2 H1 → va_S (zq_A X) s.heap H1 locs1 → W p l e R s m args below meth c H1 locs1 cells slots Q (F0 m (pc + 1) ls rest)) : W p l e R s m args below meth c H locs cells slots Q (F0 m pc ls (.int x :: .int i :: .ref a :: rest)) :=
  zq_iast E hZ hM hS hk ho hin hj hr hdg (fun H1 locs1 hM hS => kk _ H1 locs1 rfl hM hS)
theorem zq_zsn (E : CallFix p m c cc nL s args Ts own) (hZ : zq_K X s) (hM : zq_hm X z I H) (hS : va_S (zq_A X) s.heap H locs) (hk : zq_k X a = k) (ho : zq_iA k 1 n) {i x : Int32} (hin : 0 ≤ i.toInt ∧ i.toInt < (n : Int)) (hj : i.toNatClampNeg = j) (hr : 0 ≤ x.toInt ∧ x.toInt ≤ 1) (hrg : zq_rg z k j = (0, 1)) (hdg : decode cc pc = .ok (.bastore, 1))
    (kk : ∀ (I2 : zq_M) (H1 : Heap) (locs1 : List Loc), I2 = zq_up I a j x → zq_hm X z I2 H1 → va_S (zq_A X) s.heap H1 locs1 → W p l e R s m args below meth c H1 locs1 cells slots Q (F0 m (pc + 1) ls rest)) : W p l e R s m args below meth c H locs cells slots Q (F0 m pc ls (.int x :: .int i :: .ref a :: rest)) :=
  zq_zast E hZ hM hS hk ho hin hj hr (by rw [hrg]; exact hr) hdg (fun H1 locs1 hM hS => kk _ H1 locs1 rfl hM hS)
theorem zq_bsn (E : CallFix p m c cc nL s args Ts own) (hZ : zq_K X s) (hM : zq_hm X z I H) (hS : va_S (zq_A X) s.heap H locs) (hk : zq_k X a = k) (ho : zq_iA k 2 n) {i x : Int32} (hin : 0 ≤ i.toInt ∧ i.toInt < (n : Int)) (hj : i.toNatClampNeg = j) (hr : ∀ q, zq_rg z k q = (zq_min, zq_max)) (hdg : decode cc pc = .ok (.bastore, 1))
    (kk : ∀ (x2 : Int32) (I2 : zq_M) (H1 : Heap) (locs1 : List Loc), I2 = zq_up I a j x2 → zq_hm X z I2 H1 → va_S (zq_A X) s.heap H1 locs1 → W p l e R s m args below meth c H1 locs1 cells slots Q (F0 m (pc + 1) ls rest)) : W p l e R s m args below meth c H locs cells slots Q (F0 m pc ls (.int x :: .int i :: .ref a :: rest)) :=
  zq_bast E hZ hM hS hk ho hin hj hr hdg (fun x2 H1 locs1 hM hS => kk x2 _ H1 locs1 rfl hM hS)
end ZQ3
theorem zq_kp {I I2 : zq_M} {a j b i : Nat} {v t : Int32} (e : I2 = zq_up I a j v) (hn : b ≠ a ∨ i ≠ j) (h : I b i = t) : I2 b i = t := by
  rw [e, ← h]
  rcases hn with h | h
  · exact zq_up_a h
  · exact zq_up_j h
theorem zq_kv {I I2 : zq_M} {a j : Nat} {v : Int32} (e : I2 = zq_up I a j v) : I2 a j = v := by rw [e]; exact zq_up_eq I a j v
theorem zq_fr.putE {S : Nat → Nat → Prop} {I0 I I2 : zq_M} {a j : Nat} {v : Int32} (h : zq_fr S I0 I) (e : I2 = zq_up I a j v) (hs : S a j) : zq_fr S I0 I2 := by rw [e]; exact h.put hs
theorem zq_fr.kp {S : Nat → Nat → Prop} {I I2 : zq_M} {b i : Nat} {t : Int32} (h2 : zq_fr S I I2) (hn : ¬ S b i) (h : I b i = t) : I2 b i = t := (h2 b i hn).trans h
theorem zi_rng (x : Int32) : -2147483648 ≤ x.toInt ∧ x.toInt ≤ 2147483647 := by
  have h1 := Int32.le_toInt x
  have h2 := Int32.toInt_lt x
  omega
/-- owners: an inner cell belongs to whom its holder belongs -/
def zq_so (k j : Nat) : Bool := match k with
  | 8 => true | 31 => true | 32 => true
  | _ => false
def zq_own (X : zq_X) : Prop := ∀ a k j, zq_k X a = k → zq_rk k j ≠ 0 → zq_so k j = true → zq_o X (zq_r X a j) = zq_o X a
theorem zq_lo {X : zq_X} (L : zq_own X) {a k j w : Nat} (hk : zq_k X a = k) (h : zq_rk k j ≠ 0) (hs : zq_so k j = true) (hw : zq_o X a = w) : zq_o X (zq_r X a j) = w := by rw [L a k j hk h hs, hw]
