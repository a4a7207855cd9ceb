/-- all that came, the first ahead; those that a sampler finds of them -/
def rkl (V : xM) : List Nat := (List.range (V 0 10).toNat).map fun p => (V 10 p).toNat
def lb1 (V : xM) (l : List Nat) (b : Int) : Int := ((l.countP fun i => decide (V 5 i = b) : Nat) : Int)
def stp (V : xM) (P : Nat → Bool) (most cap : Int) (acc : List Nat) (i : Nat) : List Nat := if (acc.length : Int) < most ∧ P i = true ∧ lb1 V acc (V 5 i) < cap then acc ++ [i] else acc
def fil (V : xM) (P : Nat → Bool) (most cap : Int) (l : List Nat) : List Nat := l.foldl (stp V P most cap) []
theorem fil_add (V : xM) (P : Nat → Bool) (most cap : Int) (l : List Nat) (i : Nat) : fil V P most cap (l ++ [i]) = stp V P most cap (fil V P most cap l) i := by
  unfold fil; rw [List.foldl_append]; rfl
theorem rkl_len (V : xM) : (rkl V).length = (V 0 10).toNat := by simp [rkl]
theorem rkl_take {V : xM} {k : Nat} (hk : k < (V 0 10).toNat) : (rkl V).take (k + 1) = (rkl V).take k ++ [(V 10 k).toNat] := by
  rw [List.take_succ]
  congr 1
  unfold rkl
  rw [List.getElem?_map, List.getElem?_range hk]
  rfl
theorem rkl_all (V : xM) : (rkl V).take (V 0 10).toNat = rkl V := List.take_of_length_le (Nat.le_of_eq (rkl_len V))
theorem stp_full {V : xM} {P : Nat → Bool} {most cap : Int} : ∀ (r acc : List Nat), most ≤ acc.length → r.foldl (stp V P most cap) acc = acc := by
  intro r
  induction r with
  | nil => intro acc _; rfl
  | cons i r ih =>
    intro acc h
    rw [List.foldl_cons, show stp V P most cap acc i = acc by unfold stp; rw [if_neg (by omega)]]
    exact ih acc h
theorem fil_full {V : xM} {P : Nat → Bool} {most cap : Int} {l : List Nat} (k : Nat) (h : most ≤ (fil V P most cap (l.take k)).length) : fil V P most cap l = fil V P most cap (l.take k) := by
  have e := List.take_append_drop k l
  have e2 : fil V P most cap l = (l.drop k).foldl (stp V P most cap) (fil V P most cap (l.take k)) := by
    unfold fil
    rw [← List.foldl_append, e]
  rw [e2]
  exact stp_full _ _ h
theorem stp_len (V : xM) (P : Nat → Bool) (most cap : Int) (acc : List Nat) (i : Nat) : (stp V P most cap acc i).length ≤ acc.length + 1 := by
  unfold stp
  split
  · simp
  · omega
theorem lb1_add (V : xM) (l : List Nat) (i : Nat) (b : Int) : lb1 V (l ++ [i]) b = lb1 V l b + (if V 5 i = b then 1 else 0) := by
  unfold lb1
  rw [List.countP_append]
  by_cases h : V 5 i = b <;> simp [h]
theorem lb1_b (V : xM) (l : List Nat) (b : Int) : 0 ≤ lb1 V l b ∧ lb1 V l b ≤ l.length := by
  unfold lb1
  have := List.countP_le_length (p := fun i => decide (V 5 i = b)) (l := l)
  omega
theorem getD_add_lt {l : List Nat} {i j : Nat} (h : j < l.length) : (l ++ [i]).getD j 0 = l.getD j 0 := by
  simp [List.getD, List.getElem?_append_left h]
theorem getD_add_eq (l : List Nat) (i : Nat) : (l ++ [i]).getD l.length 0 = i := by
  simp [List.getD]
/-- what a sampler shows, what it is asked for -/
abbrev Smp (M : xM) (b : Nat) (V : xM) (L : List Nat) : Prop := M b 2 = (L.length : Int) ∧ (∀ j, j < L.length → M (b + 1) j = ((L.getD j 0 : Nat) : Int)) ∧ ∀ q : Nat, q < 26 → M (b + 2) q = lb1 V L q
abbrev Ask (M : xM) (b : Nat) (s mo t u ou c : Int) : Prop := M b 3 = s ∧ M b 4 = mo ∧ M b 5 = t ∧ M b 6 = u ∧ M b 7 = ou ∧ M b 8 = c
abbrev asd (V : xM) (s t u ou : Int) (i : Nat) : Prop := bit s (V 4 i) ∧ (i : Int) ≤ u ∧ (i : Int) ≠ ou ∧ alv V i t
def kth (L : List Nat) (k : Int) : Int := if k = -1 then (L.length : Int) else if 0 ≤ k ∧ k < L.length then ((L.getD k.toNat 0 : Nat) : Int) else -2
def lst (L : List Nat) : Int := if 0 < L.length then ((L.getD (L.length - 1) 0 : Nat) : Int) else -2
def plc (L : List Nat) (i : Nat) : Int := if i ∈ L then ((L.idxOf i : Nat) : Int) else -1
theorem plc_no {L : List Nat} {i : Nat} (h : ∀ j, j < L.length → L.getD j 0 ≠ i) : plc L i = -1 := by
  unfold plc
  rw [if_neg]
  intro hm
  obtain ⟨j, hj, e⟩ := List.getElem_of_mem hm
  exact h j hj (by simp [List.getD, hj, e])
theorem plc_at {L : List Nat} {i k : Nat} (h : ∀ j, j < k → L.getD j 0 ≠ i) (hk : k < L.length) (e : L.getD k 0 = i) : plc L i = k := by
  have hm : i ∈ L := by
    rw [← e]; simp [List.getD, hk]
  unfold plc
  rw [if_pos hm]
  have h1 := List.idxOf_lt_length_of_mem hm
  have h2 : L.getD (L.idxOf i) 0 = i := by
    simp [List.getD, h1, List.getElem_idxOf]
  rcases Nat.lt_trichotomy (L.idxOf i) k with c | c | c
  · exact absurd h2 (h _ c)
  · rw [c]
  · have h3 := List.not_of_lt_findIdx (p := (· == i)) (xs := L) (show k < L.findIdx (· == i) from c)
    have e9 : L[k] = i := by rw [← e]; simp [List.getD, hk]
    simp [e9] at h3
theorem list_eq {L K : List Nat} (h : L.length = K.length) (h2 : ∀ j, j < L.length → L.getD j 0 = K.getD j 0) : L = K := by
  apply List.ext_getElem h
  intro j h1 h3
  have := h2 j h1
  simp [List.getD, h1, h3] at this
  exact this
theorem fil_len (V : xM) (P : Nat → Bool) (most cap : Int) : ∀ k : Nat, (fil V P most cap ((rkl V).take k)).length ≤ k := by
  intro k
  induction k with
  | zero => simp [fil]
  | succ k ih =>
    by_cases hk : k < (V 0 10).toNat
    · rw [rkl_take hk, fil_add]
      have := stp_len V P most cap (fil V P most cap ((rkl V).take k)) (V 10 k).toNat
      omega
    · have e : (rkl V).take (k + 1) = (rkl V).take k := by
        rw [List.take_of_length_le (by rw [rkl_len]; omega), List.take_of_length_le (by rw [rkl_len]; omega)]
      rw [e]; omega
