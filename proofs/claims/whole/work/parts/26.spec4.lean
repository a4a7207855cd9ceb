theorem aw_trans {l1 w1 l2 w2 l3 w3 i j k : Int} (h1 : 1 ≤ l1) (h2 : 1 ≤ l2) (h3 : 1 ≤ l3) (g1 : 1 ≤ w1) (g2 : 1 ≤ w2) (g3 : 1 ≤ w3) (a : 0 < kc l1 w1 l2 w2 ∨ (kc l1 w1 l2 w2 = 0 ∧ i < j)) (b : 0 < kc l2 w2 l3 w3 ∨ (kc l2 w2 l3 w3 = 0 ∧ j < k)) : 0 < kc l1 w1 l3 w3 ∨ (kc l1 w1 l3 w3 = 0 ∧ i < k) := by
  have t1 := kc_trans (l1 := l1) (w1 := w1) (l2 := l2) (w2 := w2) (l3 := l3) (w3 := w3) h1 h2 h3 g2
  have t2 := kc_trans (l1 := l2) (w1 := w2) (l2 := l3) (w2 := w3) (l3 := l1) (w3 := w1) h2 h3 h1 g3
  have t3 := kc_trans (l1 := l3) (w1 := w3) (l2 := l1) (w2 := w1) (l3 := l2) (w3 := w2) h3 h1 h2 g1
  have s1 := kc_swap l1 w1 l2 w2
  have s2 := kc_swap l2 w2 l3 w3
  have s3 := kc_swap l1 w1 l3 w3
  omega
theorem fil_out {V : xM} (hv : VOK V) (hs : Srt V (V 10) (V 0 10).toNat) {sh t u mo ou : Int} (h : 0 ≤ sh ∧ sh ≤ 3) : fil V (fun i => decide (asd V (2 ^ sh.toNat) t u ou i)) mo 100 (rkl V) = ((alL V sh t (V 12 sh.toNat) (u + 1)).filter fun j : Nat => decide ((j : Int) ≠ ou)).take mo.toNat := by
  rw [fil_eq (by have := rkl_l100 hv; omega)]
  unfold alL
  rw [List.filter_filter]
  congr 1
  apply List.filter_congr
  intro i hi
  have h1 := (rkl_iff hs i).mp hi
  have h2 := hv.2.2.1 i h1
  have e := bit_sh h h2.1
  rw [← Bool.decide_and]
  apply decide_eq_decide.mpr
  constructor
  · rintro ⟨a1, a2, a3, a4, a5⟩
    have a6 := e.mp a1
    rw [a6] at a5
    exact ⟨a3, by omega, a4, a6, a5⟩
  · rintro ⟨a3, a2, a4, a6, a5⟩
    refine ⟨e.mpr a6, by omega, a3, a4, ?_⟩
    rw [a6]; exact a5
theorem fil_wo {V : xM} (hv : VOK V) (hs : Srt V (V 10) (V 0 10).toNat) {i : Int} (h : 0 ≤ i ∧ i < V 0 10) : fil V (fun j => decide (asd V (2 ^ (V 4 i.toNat).toNat) (V 0 11) 100 i j)) (V 11 (V 4 i.toNat).toNat) 100 (rkl V) = woL V i.toNat := by
  have hi := ok_i hv h.1 h.2
  rw [fil_out hv hs hi.1, alL_up hs (by have := ok_c hv; omega)]
  unfold woL alN
  congr 1
  apply List.filter_congr
  intro j _
  exact decide_eq_decide.mpr (by omega)
theorem fil_th {V : xM} (hv : VOK V) (hs : Srt V (V 10) (V 0 10).toNat) {i : Int} (h : 0 ≤ i ∧ i < V 0 10) : fil V (fun j => decide (asd V (2 ^ (V 4 i.toNat).toNat) (V 8 i.toNat) i (-1) j)) (V 11 (V 4 i.toNat).toNat) 100 (rkl V) = thL V i.toNat (i + 1) := by
  have hi := ok_i hv h.1 h.2
  rw [fil_al hv hs hi.1]
  rfl
theorem fil_po {V : xM} (hv : VOK V) (hs : Srt V (V 10) (V 0 10).toNat) {i : Int} (h : 0 ≤ i ∧ i < V 0 10) : fil V (fun j => decide (asd V (2 ^ (V 4 i.toNat).toNat) (V 8 i.toNat) i i j)) (V 11 (V 4 i.toNat).toNat) 100 (rkl V) = thL V i.toNat i := by
  have hi := ok_i hv h.1 h.2
  rw [fil_out hv hs hi.1]
  unfold thL alL
  rw [List.filter_filter]
  congr 1
  apply List.filter_congr
  intro j _
  rw [← Bool.decide_and]
  exact decide_eq_decide.mpr ⟨fun g => ⟨by omega, g.2.2⟩, fun g => ⟨by omega, by omega, g.2⟩⟩
theorem th_it {V : xM} (hs : Srt V (V 10) (V 0 10).toNat) {i : Nat} {up : Int} {j : Nat} (h : j ∈ thL V i up) : (j : Int) < V 0 10 := al_it hs (List.mem_of_mem_take h)
theorem wo_it {V : xM} (hs : Srt V (V 10) (V 0 10).toNat) {i j : Nat} (h : j ∈ woL V i) : (j : Int) < V 0 10 := al_it hs (List.mem_filter.mp (List.mem_of_mem_take h)).1
/-- of a list along which a thing holds only at first: how often it holds -/
theorem pre_cnt {D : Nat → Prop} [DecidablePred D] : ∀ {L : List Nat} {m : Nat}, L.Pairwise (fun a b => D b → D a) → 1 ≤ m → (L.countP (fun j => decide (D j)) < m ↔ (L.length < m ∨ ¬ D (L.getD (m - 1) 0))) := by
  intro L
  induction L with
  | nil => intro m _ hm; simp; omega
  | cons x L ih =>
    intro m hp hm
    obtain ⟨h1, h2⟩ := List.pairwise_cons.mp hp
    have hl : (x :: L).length = L.length + 1 := rfl
    by_cases hx : D x
    · rw [List.countP_cons_of_pos (p := fun j : Nat => decide (D j)) (decide_eq_true hx)]
      by_cases e : m = 1
      · subst e
        constructor
        · intro g; omega
        · intro g
          rcases g with g | g
          · omega
          · exact absurd hx (by simpa [List.getD] using g)
      · obtain ⟨k, rfl⟩ : ∃ k, m = k + 2 := ⟨m - 2, by omega⟩
        have := ih (m := k + 1) h2 (by omega)
        have e2 : (x :: L).getD (k + 2 - 1) 0 = L.getD (k + 1 - 1) 0 := rfl
        rw [e2, hl]
        constructor
        · intro g
          rcases this.mp (by omega) with a | a
          · exact Or.inl (by omega)
          · exact Or.inr a
        · intro g
          have := this.mpr (by rcases g with a | a; exact Or.inl (by omega); exact Or.inr a)
          omega
    · have hz : ∀ j ∈ L, ¬ D j := fun j hj hd => hx (h1 j hj hd)
      have c0 : (x :: L).countP (fun j => decide (D j)) = 0 := by
        rw [List.countP_eq_zero]
        intro j hj hd
        have hd := of_decide_eq_true hd
        rcases List.mem_cons.mp hj with g | g
        · subst g; exact hx hd
        · exact hz j g hd
      rw [c0]
      refine ⟨fun _ => ?_, fun _ => by omega⟩
      rcases Nat.lt_or_ge (x :: L).length m with g | g
      · exact Or.inl g
      · refine Or.inr ?_
        have hmem := getD_in (L := x :: L) (j := m - 1) (by omega)
        rcases List.mem_cons.mp hmem with q | q
        · rw [q]; exact hx
        · exact hz _ q
theorem lst_take {L : List Nat} {m : Nat} (hm : 1 ≤ m) (h : m ≤ L.length) : lst (L.take m) = ((L.getD (m - 1) 0 : Nat) : Int) := by
  have e : (L.take m).length = m := by rw [List.length_take]; omega
  unfold lst
  rw [e, if_pos (by omega)]
  congr 1
  simp only [List.getD]
  rw [List.getElem?_take_of_lt (by omega)]
theorem wo_would {V : xM} (hv : VOK V) (hs : Srt V (V 10) (V 0 10).toNat) {i w : Int} (hi : 0 ≤ i ∧ i < V 0 10) (hw : 1 ≤ w) : (((woL V i.toNat).length : Int) < V 11 (V 4 i.toNat).toNat ∨ ahw V i w (lst (woL V i.toNat))) ↔ wouldW V i.toNat w := by
  have hit := ok_i hv hi.1 hi.2
  have hsw := ok_s hv hit.1.1 hit.1.2
  let Q : Nat → Prop := fun j => (V 9 j = 0 ∧ V 4 j = V 4 i.toNat ∧ alv V j (V 0 11)) ∧ j ≠ i.toNat
  have hA : ((alN V (V 4 i.toNat)).filter fun j => decide (j ≠ i.toNat)) = (rkl V).filter fun j => decide (Q j) := by
    unfold alN alL
    rw [List.filter_filter]
    apply List.filter_congr
    intro j hj
    have hjr := (rkl_iff hs j).mp hj
    rw [← Bool.decide_and]
    apply decide_eq_decide.mpr
    constructor
    · rintro ⟨a1, a2, a3, a4, a5⟩
      refine ⟨⟨a3, a4, a3, ?_⟩, a1⟩
      rw [a4]; exact a5
    · rintro ⟨⟨a3, a4, _, a5⟩, a1⟩
      rw [a4] at a5
      exact ⟨a1, hjr, a3, a4, a5⟩
  have hso : ((rkl V).filter fun j => decide (Q j)).Pairwise (fun a b : Nat => ¬ ahw V i w b → ¬ ahw V i w a) := by
    refine List.Pairwise.imp_of_mem (R := fun a b : Nat => ahd V a b) (fun {a b} ha hb hab h1 h2 => h1 ?_) ((rkl_sorted hs).filter _)
    have ha := (rkl_iff hs a).mp (List.mem_filter.mp ha).1
    have hb := (rkl_iff hs b).mp (List.mem_filter.mp hb).1
    have ia := hv.2.2.1 a ha
    have ib := hv.2.2.1 b hb
    exact aw_trans hit.2.2.2.1.1 ia.2.2.2.1.1 ib.2.2.2.1.1 hw ia.2.2.1.1 ib.2.2.1.1 h2 hab
  have hc : (((rkl V).filter fun j => decide (Q j)).countP (fun j : Nat => decide (¬ ahw V i w j)) : Int) = fb_si (fun j => b2i ((V 9 j = 0 ∧ V 4 j = V 4 i.toNat ∧ alv V j (V 0 11)) ∧ j ≠ i.toNat ∧ ¬ ahw V i.toNat w j)) (V 0 10).toNat := by
    rw [List.countP_filter, ← si_rkl hs (fun j => (V 9 j = 0 ∧ V 4 j = V 4 i.toNat ∧ alv V j (V 0 11)) ∧ j ≠ i.toNat ∧ ¬ ahw V i.toNat w j)]
    congr 1
    apply List.countP_congr
    intro j _
    rw [← Bool.decide_and, decide_eq_true_eq, decide_eq_true_eq]
    rw [show ((i.toNat : Nat) : Int) = i by omega]
    constructor
    · rintro ⟨a, b⟩; exact ⟨b.1, b.2, a⟩
    · rintro ⟨a, b, c⟩; exact ⟨c, a, b⟩
  have hp := pre_cnt hso (m := (V 11 (V 4 i.toNat).toNat).toNat) (by omega)
  unfold wouldW
  rw [← hc]
  unfold woL
  rw [hA]
  generalize hL : ((rkl V).filter fun j => decide (Q j)) = L at hp
  have hlen : (L.take (V 11 (V 4 i.toNat).toNat).toNat).length = min (V 11 (V 4 i.toNat).toNat).toNat L.length := List.length_take
  constructor
  · intro g
    have : L.countP (fun j : Nat => decide (¬ ahw V i w j)) < (V 11 (V 4 i.toNat).toNat).toNat := by
      apply hp.mpr
      rcases Nat.lt_or_ge L.length (V 11 (V 4 i.toNat).toNat).toNat with c | c
      · exact Or.inl c
      · refine Or.inr (fun hx => ?_)
        rcases g with g | g
        · omega
        · rw [lst_take (by omega) c] at g
          exact hx g
    omega
  · intro g
    have := hp.mp (by omega)
    rcases Nat.lt_or_ge L.length (V 11 (V 4 i.toNat).toNat).toNat with c | c
    · exact Or.inl (by omega)
    · rcases this with d | d
      · omega
      · rw [lst_take (by omega) c]
        exact Or.inr (Decidable.not_not.mp d)
theorem ex_add (V : xM) (sh : Int) (P : Nat → Prop) [DecidablePred P] (k : Nat) : ((List.range (k + 1)).filter fun i => decide (P i)) = ((List.range k).filter fun i => decide (P i)) ++ (if P k then [k] else []) := by
  rw [List.range_succ, List.filter_append]
  congr 1
  by_cases h : P k <;> simp [h]
theorem range_at (P : Nat → Prop) [DecidablePred P] {k n : Nat} (hk : k < n) (hp : P k) : ((List.range n).filter fun i => decide (P i)).getD ((List.range k).filter fun i => decide (P i)).length 0 = k ∧ ((List.range k).filter fun i => decide (P i)).length < ((List.range n).filter fun i => decide (P i)).length := by
  obtain ⟨m, rfl⟩ := Nat.le.dest (show k + 1 ≤ n from hk)
  rw [List.range_add, List.filter_append, ex_add (fun _ _ => 0) 0 P k, if_pos hp]
  constructor
  · simp [List.getD]
  · simp
theorem range_len (P : Nat → Prop) [DecidablePred P] (n : Nat) : ((List.range n).filter fun i => decide (P i)).length ≤ n := by
  have := List.length_filter_le (fun i => decide (P i)) (List.range n)
  rw [List.length_range] at this
  exact this
theorem wt_add (V : xM) {L : List Nat} {k : Nat} (hk : k < L.length) : wtL V (L.take (k + 1)) = wtL V (L.take k) + V 6 (L.getD k 0) := by
  unfold wtL
  have e : L[k]? = some (L.getD k 0) := by simp [List.getD, hk]
  rw [List.take_succ, e]
  generalize L.getD k 0 = x
  simp
theorem wt_b {V : xM} (hv : VOK V) : ∀ {L : List Nat}, (∀ i ∈ L, (i : Int) < V 0 10) → 0 ≤ wtL V L ∧ wtL V L ≤ 20 * L.length := by
  intro L
  induction L with
  | nil => intro _; exact ⟨Int.le_refl _, Int.le_refl _⟩
  | cons x L ih =>
    intro h
    have h1 := ih (fun i hi => h i (List.mem_cons_of_mem _ hi))
    have h2 := hv.2.2.1 x (h x List.mem_cons_self)
    have e : wtL V (x :: L) = V 6 x + wtL V L := by simp [wtL]
    rw [e, List.length_cons]
    omega
