/-! the walk over a small machine of whole numbers: values, memory, layout -/
abbrev xV : Type := Int ⊕ (Int ⊕ Nat)
abbrev xI (z : Int) : xV := Sum.inl z
abbrev xL (z : Int) : xV := Sum.inr (Sum.inl z)
abbrev xR (k : Nat) : xV := Sum.inr (Sum.inr k)
abbrev i32 (z : Int) : Prop := -2147483648 ≤ z ∧ z < 2147483648
abbrev i64 (z : Int) : Prop := -9223372036854775808 ≤ z ∧ z < 9223372036854775808
def xc (σ : Nat → Nat) (v : xV) : Value := match v with
  | .inl z => .int (Int32.ofInt z)
  | .inr (.inl z) => .long (Int64.ofInt z)
  | .inr (.inr k) => .ref (σ k)
def xk (v : xV) : Prop := match v with
  | .inl z => i32 z
  | .inr (.inl z) => i64 z
  | .inr (.inr _) => True
def xcat (v : xV) : Nat := match v with
  | .inl _ => 1
  | .inr (.inl _) => 2
  | .inr (.inr _) => 1
abbrev xM : Type := Nat → Nat → Int
/-- a cell's kind (0..7: an object of that class; 8 bytes, 9 ints, 10 longs, 11 booleans, 12 States), its length, its references -/
abbrev xT : Type := Nat → Nat × Nat × (Nat → Option Nat)
def xN (ci : Nat) : Nat := [3, 2, 9, 13, 5, 3, 8, 22].getD ci 0
def xB (ci j : Nat) : Bool := ([[true, false, false], [true, true], [true, true, false, false, false, false, false, false, false], [true, true, true, true, true, true, true, true, true, true, false, false, false], [true, true, false, false, false], [false, false, false], [true, true, true, true, true, true, true, false], [true, true, false, true, true, true, true, true, false, true, false, true, true, true, false, false, false, true, false, false, false, false]].getD ci []).getD j false
def xo (σ : Nat → Nat) (ci : Nat) (r : Nat → Option Nat) (f : Nat → Int) : List Value := (List.range (xN ci)).map fun j => if xB ci j = true then va_rf ((r j).map σ) else .int (Int32.ofInt (f j))
def xe (σ : Nat → Nat) (cy : Nat → ClassId) (t : Nat × Nat × (Nat → Option Nat)) (f : Nat → Int) : va_E :=
  if t.1 < 8 then .inr (t.1, xo σ t.1 t.2.2 f)
  else if t.1 = 10 then .inl (cy 10, t.2.1, .inr (.inl fun j => Int64.ofInt (f j)))
  else if t.1 = 12 then .inl (cy 12, t.2.1, .inr (.inr (.inr (.inr fun j => (t.2.2 j).map σ))))
  else .inl (cy t.1, t.2.1, .inl fun j => Int32.ofInt (f j))
/-- where cells lie (the strings' too, from 1000000 on, their bytes from 2000000 on), the arrays' classes, the first cell, the classes -/
abbrev xD : Type := (Nat → Nat) × (Nat → ClassId) × Nat × va_G
def xw (D : xD) (n : Nat) (T : xT) (M : xM) : va_W := (List.range n).map fun k => (D.1 k, xe D.1 D.2.1 (T k) (M k))
def xA (B : Nat) : Nat → Prop := fun q => B ≤ q
def xr (T : xT) (M : xM) : Prop := ∀ k j, ((T k).1 = 10 → i64 (M k j)) ∧ (¬ (T k).1 = 10 → i32 (M k j))
def xty (cy : Nat → ClassId) : List (ClassId × FieldType) := [(cy 8, .byte), (cy 9, .int), (cy 10, .long), (cy 11, .boolean), (cy 12, .object "FairDraws$State")]
/-- memory written: one slot; a cell's row; a reference of the layout; a new cell of the layout -/
def xst (M : xM) (k j : Nat) (z : Int) : xM := fun a => if a = k then (fun b => if b = j then z else M k b) else M a
def xsr (M : xM) (k : Nat) (f : Nat → Int) : xM := fun a => if a = k then f else M a
def xTr (T : xT) (k j b : Nat) : xT := fun a => if a = k then ((T k).1, (T k).2.1, fun i => if i = j then some b else (T k).2.2 i) else T a
def xTn (T : xT) (k c len : Nat) : xT := fun a => if a = k then (c, len, fun _ => none) else T a
theorem xst_eq (M : xM) (k j : Nat) (z : Int) (a b : Nat) : xst M k j z a b = if a = k ∧ b = j then z else M a b := by
  unfold xst
  by_cases h : a = k
  · subst h
    by_cases h2 : b = j <;> simp [h2]
  · simp [h]
theorem x_toInt {z : Int} (h : i32 z) : (Int32.ofInt z).toInt = z := by
  rw [Int32.toInt_ofInt]
  have h1 := h.1
  have h2 := h.2
  have h3 : (Int32.size : Int) = 4294967296 := rfl
  exact Int.bmod_eq_of_le (by omega) (by omega)
theorem x_toInt64 {z : Int} (h : i64 z) : (Int64.ofInt z).toInt = z := by
  rw [Int64.toInt_ofInt]
  have h1 := h.1
  have h2 := h.2
  have h3 : (Int64.size : Int) = 18446744073709551616 := rfl
  exact Int.bmod_eq_of_le (by omega) (by omega)
theorem x_lt {x y : Int} (hx : i32 x) (hy : i32 y) : (Int32.ofInt x < Int32.ofInt y) ↔ x < y := by
  rw [Int32.lt_iff_toInt_lt, x_toInt hx, x_toInt hy]
theorem x_le {x y : Int} (hx : i32 x) (hy : i32 y) : (Int32.ofInt x ≤ Int32.ofInt y) ↔ x ≤ y := by
  rw [Int32.le_iff_toInt_le, x_toInt hx, x_toInt hy]
theorem x_eq {x y : Int} (hx : i32 x) (hy : i32 y) : (Int32.ofInt x = Int32.ofInt y) ↔ x = y := by
  rw [← Int32.toInt_inj, x_toInt hx, x_toInt hy]
theorem x_lt64 {x y : Int} (hx : i64 x) (hy : i64 y) : (Int64.ofInt x < Int64.ofInt y) ↔ x < y := by
  rw [Int64.lt_iff_toInt_lt, x_toInt64 hx, x_toInt64 hy]
theorem x_eq64 {x y : Int} (hx : i64 x) (hy : i64 y) : (Int64.ofInt x = Int64.ofInt y) ↔ x = y := by
  rw [← Int64.toInt_inj, x_toInt64 hx, x_toInt64 hy]
theorem x_nat {z : Int} (h : i32 z) : (Int32.ofInt z).toNatClampNeg = z.toNat := by
  show (Int32.ofInt z).toInt.toNat = z.toNat
  rw [x_toInt h]
theorem x_in {z : Int} {n : Nat} (h : i32 z) (h0 : 0 ≤ z) (h1 : z < n) : vp_in (Int32.ofInt z) n := by
  rw [vp_in_iff, x_toInt h]
  exact ⟨h0, h1⟩
theorem xcat_eq (σ : Nat → Nat) (v : xV) : (xc σ v).category = xcat v := by
  rcases v with z | z | z <;> rfl
theorem xw_get {D : xD} {n k : Nat} {T : xT} {M : xM} (h : k < n) : (xw D n T M)[k]? = some (D.1 k, xe D.1 D.2.1 (T k) (M k)) := by
  simp [xw, List.getElem?_map, List.getElem?_range, h]
theorem xw_set {D : xD} {n k : Nat} {T T' : xT} {M M' : xM} (h : k < n) (hT : ∀ a, a ≠ k → T' a = T a) (hM : ∀ a, a ≠ k → M' a = M a) : (xw D n T M).set k (D.1 k, xe D.1 D.2.1 (T' k) (M' k)) = xw D n T' M' := by
  apply List.ext_getElem?
  intro i
  by_cases hi : i < n
  · by_cases hk : i = k
    · subst hk
      rw [List.getElem?_set_self (by simp [xw]; exact hi), xw_get hi]
    · rw [List.getElem?_set_ne (Ne.symm hk), xw_get hi, xw_get hi, hT i hk, hM i hk]
  · rw [List.getElem?_eq_none (by simp [xw]; omega), List.getElem?_eq_none (by simp [xw]; omega)]
theorem xw_push {D : xD} {n : Nat} {T T' : xT} {M M' : xM} (hT : ∀ a, a < n → T' a = T a) (hM : ∀ a, a < n → M' a = M a) : xw D n T M ++ [(D.1 n, xe D.1 D.2.1 (T' n) (M' n))] = xw D (n + 1) T' M' := by
  unfold xw
  rw [List.range_succ, List.map_append]
  congr 1
  apply List.map_congr_left
  intro k hk
  have := List.mem_range.mp hk
  rw [hT k this, hM k this]
