/-- ranked: every number below m stands there once, each ahead of those behind it -/
abbrev Srt (V : xM) (R : Nat → Int) (m : Nat) : Prop := (∀ p : Nat, p < m → 0 ≤ R p ∧ R p < m) ∧ (∀ p q : Nat, p < q → q < m → ahd V (R p) (R q))
theorem kc_swap (l1 w1 l2 w2 : Int) : kc l2 w2 l1 w1 = - kc l1 w1 l2 w2 := by
  unfold kc xcmp
  split <;> split <;> (try split) <;> (try split) <;> omega
theorem kc_range (l1 w1 l2 w2 : Int) : kc l1 w1 l2 w2 = -1 ∨ kc l1 w1 l2 w2 = 0 ∨ kc l1 w1 l2 w2 = 1 := by
  unfold kc xcmp
  split <;> (try split) <;> omega
theorem kc_self (l w : Int) : kc l w l w = 0 := by
  unfold kc
  exact xcmp_eq.mpr rfl
theorem ipow_le_iff {f g : Int} (h0 : 0 ≤ f) (h1 : 0 ≤ g) {a : Nat} (ha : 1 ≤ a) (h : f ^ a ≤ g ^ a) : f ≤ g := by
  rcases Int.lt_or_le g f with c | c
  · have := ipow_lt h1 c ha
    omega
  · exact c
theorem imul_pow (a b : Int) (n : Nat) : (a * b) ^ n = a ^ n * b ^ n := by
  induction n with
  | zero => simp
  | succ n ih =>
    rw [Int.pow_succ, Int.pow_succ, Int.pow_succ, ih]
    rw [Int.mul_assoc, Int.mul_assoc]
    congr 1
    rw [Int.mul_left_comm]
theorem ktr {x y z t : Int} {p q r : Nat} (hx : 1 ≤ x) (hy : 1 ≤ y) (hz : 1 ≤ z) (ht : 1 ≤ t) (hq : 1 ≤ q) (h1 : y ^ p * t ^ q ≤ x ^ q * t ^ p) (h2 : z ^ q * t ^ r ≤ y ^ r * t ^ q) : z ^ p * t ^ r ≤ x ^ r * t ^ p := by
  have nn : ∀ {u : Int} {k : Nat}, 1 ≤ u → 1 ≤ u ^ k := fun h => ipow_pos h _
  have pm : ∀ {u v : Int}, 1 ≤ u → 1 ≤ v → 1 ≤ u * v := fun hu hv => by
    have := Int.mul_le_mul hu hv (by decide) (by omega)
    omega
  have a1 := ipow_le (f := y ^ p * t ^ q) (by have := pm (nn hy (k := p)) (nn ht (k := q)); omega) h1 r
  have a2 := ipow_le (f := z ^ q * t ^ r) (by have := pm (nn hz (k := q)) (nn ht (k := r)); omega) h2 p
  have a3 := Int.mul_le_mul a1 a2 (Int.pow_nonneg (by have := pm (nn hz (k := q)) (nn ht (k := r)); omega)) (Int.pow_nonneg (by have := pm (nn hx (k := q)) (nn ht (k := p)); omega))
  refine ipow_le_iff (by have := pm (nn hz (k := p)) (nn ht (k := r)); omega) (by have := pm (nn hx (k := r)) (nn ht (k := p)); omega) hq ?_
  have e : ∀ (u : Int) (m n : Nat), (u ^ m) ^ n = u ^ (m * n) := fun u m n => (Int.pow_mul).symm
  simp only [imul_pow, e] at a3 ⊢
  have L : y ^ (p * r) * t ^ (q * r) * (z ^ (q * p) * t ^ (r * p)) = (z ^ (p * q) * t ^ (r * q)) * (y ^ (p * r) * t ^ (p * r)) := by
    rw [Nat.mul_comm q r, Nat.mul_comm q p, Nat.mul_comm r p]
    simp only [Int.mul_assoc, Int.mul_comm, Int.mul_left_comm]
  have R : x ^ (q * r) * t ^ (p * r) * (y ^ (r * p) * t ^ (q * p)) = (x ^ (r * q) * t ^ (p * q)) * (y ^ (p * r) * t ^ (p * r)) := by
    rw [Nat.mul_comm q r, Nat.mul_comm q p, Nat.mul_comm r p]
    simp only [Int.mul_assoc, Int.mul_comm, Int.mul_left_comm]
  rw [L, R] at a3
  exact Int.le_of_mul_le_mul_right a3 (by have := pm (nn hy (k := p * r)) (nn ht (k := p * r)); omega)
theorem kc_trans {l1 w1 l2 w2 l3 w3 : Int} (h1 : 1 ≤ l1) (h2 : 1 ≤ l2) (h3 : 1 ≤ l3) (hw : 1 ≤ w2) (a : 0 ≤ kc l1 w1 l2 w2) (b : 0 ≤ kc l2 w2 l3 w3) : 0 ≤ kc l1 w1 l3 w3 := by
  unfold kc at *
  rw [xcmp_ge] at *
  exact ktr h1 h2 h3 (by decide) (by omega) a b
theorem kcV {V : xM} (hv : VOK V) {i j k : Int} (hi : 0 ≤ i ∧ i < V 0 10) (hj : 0 ≤ j ∧ j < V 0 10) (hk : 0 ≤ k ∧ k < V 0 10) (a : 0 ≤ kc (V 7 i.toNat) (V 6 i.toNat) (V 7 j.toNat) (V 6 j.toNat)) (b : 0 ≤ kc (V 7 j.toNat) (V 6 j.toNat) (V 7 k.toNat) (V 6 k.toNat)) : 0 ≤ kc (V 7 i.toNat) (V 6 i.toNat) (V 7 k.toNat) (V 6 k.toNat) := by
  have h1 := ok_i hv hi.1 hi.2
  have h2 := ok_i hv hj.1 hj.2
  have h3 := ok_i hv hk.1 hk.2
  exact kc_trans (by omega) (by omega) (by omega) (by omega) a b
theorem ahd_trans {V : xM} (hv : VOK V) {i j k : Int} (hi : 0 ≤ i ∧ i < V 0 10) (hj : 0 ≤ j ∧ j < V 0 10) (hk : 0 ≤ k ∧ k < V 0 10) (a : ahd V i j) (b : ahd V j k) : ahd V i k := by
  have t1 := kcV hv hi hj hk
  have t2 := kcV hv hj hk hi
  have t3 := kcV hv hk hi hj
  have s1 := kc_swap (V 7 i.toNat) (V 6 i.toNat) (V 7 j.toNat) (V 6 j.toNat)
  have s2 := kc_swap (V 7 j.toNat) (V 6 j.toNat) (V 7 k.toNat) (V 6 k.toNat)
  have s3 := kc_swap (V 7 i.toNat) (V 6 i.toNat) (V 7 k.toNat) (V 6 k.toNat)
  simp only [ahd, ahw] at a b ⊢
  omega
theorem ahd_asym {V : xM} {i j : Int} (a : ahd V i j) (b : ahd V j i) : False := by
  have s1 := kc_swap (V 7 i.toNat) (V 6 i.toNat) (V 7 j.toNat) (V 6 j.toNat)
  simp only [ahd, ahw] at a b
  omega
theorem ahd_total {V : xM} {i j : Int} (h : i ≠ j) (a : ¬ ahd V i j) : ahd V j i := by
  have s1 := kc_swap (V 7 i.toNat) (V 6 i.toNat) (V 7 j.toNat) (V 6 j.toNat)
  simp only [ahd, ahw] at a ⊢
  omega
theorem srt_ne {V : xM} {R : Nat → Int} {m : Nat} (h : Srt V R m) {p q : Nat} (hpq : p < q) (hq : q < m) : R p ≠ R q := by
  intro e
  have := h.2 p q hpq hq
  rw [e] at this
  exact ahd_asym this this
theorem srt_onto {V : xM} {R : Nat → Int} {m : Nat} (h : Srt V R m) {i : Int} (h0 : 0 ≤ i) (h1 : i < m) : ∃ p, p < m ∧ R p = i := by
  obtain ⟨p, hp, e⟩ := fb_onto (n := m) (f := fun p => (R p).toNat) (fun p hp => by have := h.1 p hp; omega) (fun p q hpq hq e => by
    have a := h.1 p (by omega)
    have b := h.1 q hq
    exact srt_ne h hpq hq (by omega)) (y := i.toNat) (by omega)
  have := h.1 p hp
  exact ⟨p, hp, by omega⟩
theorem srt_one {V : xM} {R R' : Nat → Int} {m : Nat} (h : Srt V R m) (h' : Srt V R' m) : ∀ p, p < m → R p = R' p := by
  intro p
  induction p using Nat.strongRecOn with
  | ind p ih =>
    intro hp
    have b := h.1 p hp
    have b' := h'.1 p hp
    obtain ⟨q, hq, e⟩ := srt_onto h' b.1 b.2
    obtain ⟨q', hq', e'⟩ := srt_onto h b'.1 b'.2
    have g1 : p ≤ q := by
      rcases Nat.lt_or_ge q p with c | c
      · have := ih q c (by omega)
        exact absurd (this.trans e) (srt_ne h c hp)
      · exact c
    have g2 : p ≤ q' := by
      rcases Nat.lt_or_ge q' p with c | c
      · have := ih q' c (by omega)
        exact absurd (this.symm.trans e') (srt_ne h' c hp)
      · exact c
    rcases Nat.eq_or_lt_of_le g1 with c | c
    · subst c; exact e.symm
    · rcases Nat.eq_or_lt_of_le g2 with c' | c'
      · subst c'; exact e'
      · have a1 := h'.2 p q c hq
        have a2 := h.2 p q' c' hq'
        rw [e] at a1
        rw [e'] at a2
        exact (ahd_asym a1 a2).elim
/-- where one that is no less than all numbers there comes in -/
theorem srt_cut {V : xM} (hv : VOK V) {R : Nat → Int} {m : Nat} (h : Srt V R m) (hm : (m : Int) ≤ V 0 10) {i : Int} (hi : 0 ≤ i ∧ i < V 0 10) : ∃ c, c ≤ m ∧ (∀ p, p < c → ahd V (R p) i) ∧ ∀ p, c ≤ p → p < m → ¬ ahd V (R p) i := by
  by_cases g : ∃ p, p < m ∧ ¬ ahd V (R p) i
  · obtain ⟨c, hc, hn, hb⟩ := fb_first g
    refine ⟨c, by omega, fun p hp => Decidable.not_not.mp (hb p hp), fun p hcp hp hx => ?_⟩
    rcases Nat.eq_or_lt_of_le hcp with e | e
    · subst e; exact hn hx
    · have b1 := h.1 c hc
      have b2 := h.1 p hp
      exact hn (ahd_trans hv ⟨b1.1, by omega⟩ ⟨b2.1, by omega⟩ hi (h.2 c p e hp) hx)
  · exact ⟨m, Nat.le_refl m, fun p hp => Decidable.not_not.mp (fun hx => g ⟨p, hp, hx⟩), fun p h1 h2 => by omega⟩
def insR (R : Nat → Int) (c m : Nat) : Nat → Int := fun p => if p < c then R p else if p = c then (m : Int) else if p ≤ m then R (p - 1) else R p
theorem srt_ins {V : xM} (hv : VOK V) {R : Nat → Int} {m c : Nat} (h : Srt V R m) (hc : c ≤ m) (h1 : ∀ p, p < c → ahd V (R p) m) (h2 : ∀ p, c ≤ p → p < m → ¬ ahd V (R p) m) : Srt V (insR R c m) (m + 1) := by
  refine ⟨fun p hp => ?_, fun p q hpq hq => ?_⟩
  · unfold insR
    split
    · have := h.1 p (by omega); omega
    · split
      · omega
      · split
        · have := h.1 (p - 1) (by omega); omega
        · omega
  · unfold insR
    by_cases a : p < c
    · rw [if_pos a]
      by_cases b : q < c
      · rw [if_pos b]; exact h.2 p q hpq (by omega)
      · rw [if_neg b]
        by_cases d : q = c
        · rw [if_pos d]; exact h1 p a
        · rw [if_neg d, if_pos (by omega)]; exact h.2 p (q - 1) (by omega) (by omega)
    · rw [if_neg a, if_neg (show ¬ q < c by omega), if_neg (show ¬ q = c by omega), if_pos (show q ≤ m by omega)]
      by_cases d : p = c
      · rw [if_pos d]
        have b := h.1 (q - 1) (by omega)
        exact ahd_total (by omega) (h2 (q - 1) (by omega) (by omega))
      · rw [if_neg d, if_pos (by omega)]
        exact h.2 (p - 1) (q - 1) (by omega) (by omega)
abbrev seq (V W : xM) : Prop := (V 0 10 = W 0 10 ∧ V 0 11 = W 0 11 ∧ V 0 12 = W 0 12) ∧ (∀ s, s < 4 → V 11 s = W 11 s ∧ V 12 s = W 12 s) ∧ ∀ i : Nat, (i : Int) < W 0 10 → V 4 i = W 4 i ∧ V 5 i = W 5 i ∧ V 6 i = W 6 i ∧ V 7 i = W 7 i ∧ V 8 i = W 8 i ∧ V 9 i = W 9 i
abbrev seqr (V W : xM) : Prop := seq V W ∧ ∀ i : Nat, (i : Int) < W 0 10 → V 10 i = W 10 i
theorem seq_ok {V W : xM} (h : seq V W) (hw : VOK W) : VOK V := by
  obtain ⟨⟨e1, e2, e3⟩, h2, h3⟩ := h
  obtain ⟨g1, g2, g3, g4⟩ := hw
  refine ⟨by omega, fun s hs => ?_, fun i hi => ?_, fun i j hij hj => ?_⟩
  · have := h2 s hs
    have := g2 s hs
    omega
  · have := h3 i (by omega)
    have := g3 i (by omega)
    omega
  · have := h3 i (by omega)
    have := h3 j (by omega)
    have := g4 i j hij (by omega)
    omega
theorem ahd_seq {V W : xM} (h : seq V W) {i j : Int} (hi : 0 ≤ i ∧ i < W 0 10) (hj : 0 ≤ j ∧ j < W 0 10) : ahd V i j ↔ ahd W i j := by
  have a := h.2.2 i.toNat (by omega)
  have b := h.2.2 j.toNat (by omega)
  simp only [ahd, ahw, a, b]
theorem srt_seq {V W : xM} (h : seq V W) {R : Nat → Int} {m : Nat} (hm : (m : Int) ≤ W 0 10) (hs : Srt W R m) : Srt V R m := by
  refine ⟨hs.1, fun p q hpq hq => ?_⟩
  have a := hs.1 p (by omega)
  have b := hs.1 q hq
  exact (ahd_seq h ⟨a.1, by omega⟩ ⟨b.1, by omega⟩).mpr (hs.2 p q hpq hq)
theorem srt_cg {V : xM} {R R' : Nat → Int} {m : Nat} (h : ∀ p, p < m → R' p = R p) (hs : Srt V R m) : Srt V R' m := by
  refine ⟨fun p hp => by rw [h p hp]; exact hs.1 p hp, fun p q hpq hq => ?_⟩
  rw [h p (by omega), h q hq]
  exact hs.2 p q hpq hq
