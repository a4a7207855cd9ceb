theorem rkl_perm {V : xM} (hs : Srt V (V 10) (V 0 10).toNat) : (rkl V).Perm (List.range (V 0 10).toNat) := by
  refine (List.perm_ext_iff_of_nodup (rkl_nodup hs) List.nodup_range).mpr fun i => ?_
  rw [rkl_iff hs, List.mem_range]
  omega
theorem si_range (P : Nat → Prop) [DecidablePred P] (n : Nat) : (((List.range n).countP fun i => decide (P i) : Nat) : Int) = fb_si (fun j => b2i (P j)) n := by
  induction n with
  | zero => rfl
  | succ n ih =>
    rw [List.range_succ, List.countP_append, fb_si_succ, ← ih]
    by_cases h : P n
    · rw [b2i_t h]; simp [h]
    · rw [b2i_f h]; simp [h]
theorem si_rkl {V : xM} (hs : Srt V (V 10) (V 0 10).toNat) (P : Nat → Prop) [DecidablePred P] : (((rkl V).countP fun i => decide (P i) : Nat) : Int) = fb_si (fun j => b2i (P j)) (V 0 10).toNat := by
  rw [(rkl_perm hs).countP_eq, si_range]
theorem rkl_sorted {V : xM} (hs : Srt V (V 10) (V 0 10).toNat) : (rkl V).Pairwise (fun i j : Nat => ahd V i j) := by
  unfold rkl
  rw [List.pairwise_map]
  refine List.Pairwise.imp_of_mem (R := fun a b => a < b) (fun {a b} ha hb hab => ?_) (List.pairwise_lt_range)
  have h1 := List.mem_range.mp ha
  have h2 := List.mem_range.mp hb
  have a1 := hs.1 a h1
  have a2 := hs.1 b h2
  rw [show (((V 10 a).toNat : Nat) : Int) = V 10 a by omega, show (((V 10 b).toNat : Nat) : Int) = V 10 b by omega]
  exact hs.2 a b hab h2
theorem idx_cnt {V : xM} : ∀ {L : List Nat}, L.Pairwise (fun i j : Nat => ahd V i j) → ∀ {i : Nat}, i ∈ L → L.idxOf i = L.countP (fun j : Nat => decide (ahd V j i)) := by
  intro L
  induction L with
  | nil => intro _ i hi; exact absurd hi List.not_mem_nil
  | cons x L ih =>
    intro hp i hi
    obtain ⟨h1, h2⟩ := List.pairwise_cons.mp hp
    rw [List.idxOf_cons]
    by_cases e : x = i
    · subst e
      have c0 : (x :: L).countP (fun j : Nat => decide (ahd V j x)) = 0 := by
        rw [List.countP_eq_zero]
        intro j hj hx
        have hx := of_decide_eq_true hx
        rcases List.mem_cons.mp hj with g | g
        · subst g; exact ahd_asym hx hx
        · exact ahd_asym hx (h1 j g)
      rw [c0]; simp
    · have hi2 : i ∈ L := (List.mem_cons.mp hi).resolve_left (fun g => e g.symm)
      have hx := h1 i hi2
      rw [show (x == i) = false by simpa using e, cond_false, ih h2 hi2, List.countP_cons_of_pos (p := fun j : Nat => decide (ahd V j i)) (decide_eq_true hx)]
theorem take_idx {L : List Nat} {i m : Nat} (hn : L.Nodup) : i ∈ L.take m ↔ i ∈ L ∧ L.idxOf i < m := by
  constructor
  · intro h
    have hm := List.mem_of_mem_take h
    refine ⟨hm, ?_⟩
    obtain ⟨j, hj, e⟩ := List.getElem_of_mem h
    rw [List.length_take] at hj
    rw [List.getElem_take] at e
    have h1 := List.idxOf_lt_length_of_mem hm
    have h2 := List.getElem_idxOf h1
    have := (List.getElem_inj (h₀ := h1) (h₁ := by omega) hn).mp (h2.trans e.symm)
    omega
  · rintro ⟨hm, hlt⟩
    have h1 := List.idxOf_lt_length_of_mem hm
    have h2 := List.getElem_idxOf h1
    have h3 : (L.take m)[L.idxOf i]'(by rw [List.length_take]; omega) = i := by rw [List.getElem_take]; exact h2
    rw [← h3]
    exact List.getElem_mem _
/-- one is among the first of those of whom a thing holds: fewer of them are ahead of it -/
theorem in_take {V : xM} (hs : Srt V (V 10) (V 0 10).toNat) (P : Nat → Prop) [DecidablePred P] (m i : Nat) : i ∈ ((rkl V).filter fun j => decide (P j)).take m ↔ (i : Int) < V 0 10 ∧ P i ∧ fb_si (fun j => b2i (P j ∧ ahd V j i)) (V 0 10).toNat < m := by
  rw [take_idx ((rkl_nodup hs).filter _), List.mem_filter, rkl_iff hs]
  have key : ∀ h : i ∈ (rkl V).filter fun j => decide (P j), (((rkl V).filter fun j => decide (P j)).idxOf i : Int) = fb_si (fun j => b2i (P j ∧ ahd V j i)) (V 0 10).toNat := fun h => by
    rw [idx_cnt ((rkl_sorted hs).filter _) h, List.countP_filter, ← si_rkl hs (fun j => P j ∧ ahd V j i)]
    congr 1
    apply List.countP_congr
    intro j _
    simp [and_comm]
  constructor
  · rintro ⟨⟨h1, h2⟩, h3⟩
    have hm : i ∈ (rkl V).filter fun j => decide (P j) := List.mem_filter.mpr ⟨(rkl_iff hs i).mpr h1, h2⟩
    have := key hm
    exact ⟨h1, of_decide_eq_true h2, by omega⟩
  · rintro ⟨h1, h2, h3⟩
    have hm : i ∈ (rkl V).filter fun j => decide (P j) := List.mem_filter.mpr ⟨(rkl_iff hs i).mpr h1, decide_eq_true h2⟩
    have := key hm
    exact ⟨⟨h1, decide_eq_true h2⟩, by omega⟩
theorem si_mono {P Q : Nat → Prop} [DecidablePred P] [DecidablePred Q] : ∀ {n : Nat}, (∀ j, j < n → P j → Q j) → fb_si (fun j => b2i (P j)) n ≤ fb_si (fun j => b2i (Q j)) n := by
  intro n
  induction n with
  | zero => intro _; exact Int.le_refl _
  | succ n ih =>
    intro h
    rw [fb_si_succ, fb_si_succ]
    have h1 := ih (fun j hj => h j (by omega))
    by_cases p : P n
    · rw [b2i_t p, b2i_t (h n (by omega) p)]; omega
    · rw [b2i_f p]
      have : b2i (Q n) = 0 ∨ b2i (Q n) = 1 := b2i_01
      omega
theorem si_cg {P Q : Nat → Prop} [DecidablePred P] [DecidablePred Q] {n : Nat} (h : ∀ j, j < n → (P j ↔ Q j)) : fb_si (fun j => b2i (P j)) n = fb_si (fun j => b2i (Q j)) n :=
  fb_si_cong fun j hj => b2i_cg (h j hj)
/-- how many there are from one on -/
theorem si_from (P : Nat → Prop) [DecidablePred P] (n k : Nat) (h : k ≤ n) : fb_si (fun j => b2i (P j ∧ k ≤ j)) n = fb_si (fun j => b2i (P j)) n - fb_si (fun j => b2i (P j)) k := by
  obtain ⟨m, rfl⟩ := Nat.le.dest h
  induction m with
  | zero =>
    have : fb_si (fun j => b2i (P j ∧ k ≤ j)) k = fb_si (fun j => b2i (False)) k := si_cg (fun j hj => ⟨fun g => by omega, fun g => g.elim⟩)
    have z : ∀ n, fb_si (fun _ => b2i False) n = 0 := fun n => by
      induction n with
      | zero => rfl
      | succ n ih => rw [fb_si_succ, ih]; rfl
    rw [Nat.add_zero, this, z]; omega
  | succ m ih =>
    rw [show k + (m + 1) = (k + m) + 1 by omega, fb_si_succ, fb_si_succ, ih (by omega)]
    have : b2i (P (k + m) ∧ k ≤ k + m) = b2i (P (k + m)) := b2i_cg ⟨fun g => g.1, fun g => ⟨g, by omega⟩⟩
    rw [this]; omega
/-- a rival: one of an item's shard, not dropped, ahead of it -/
abbrev riv (V : xM) (i : Nat) (j : Nat) : Prop := und V j (V 4 i) (-1) ∧ ahd V j i
abbrev Rvt (V : xM) (i : Nat) (z : Int) : Prop := (z = -1 ∧ fb_si (fun j => b2i (riv V i j)) (V 0 10).toNat < V 11 (V 4 i).toNat) ∨ (∃ j : Nat, (j : Int) < V 0 10 ∧ riv V i j ∧ z = V 8 j ∧ fb_si (fun q => b2i (riv V i q)) (V 0 10).toNat - fb_si (fun q => b2i (riv V i q)) j = V 11 (V 4 i).toNat)
theorem rvt_lt {V : xM} (hv : VOK V) {i : Nat} {z : Int} (h : Rvt V i z) (x : Int) : fb_si (fun j => b2i (riv V i j ∧ x < V 8 j)) (V 0 10).toNat < V 11 (V 4 i).toNat ↔ (z = -1 ∨ z ≤ x) := by
  rcases h with ⟨h1, h2⟩ | ⟨j, hj, hr, h1, h2⟩
  · have := si_mono (P := fun j => riv V i j ∧ x < V 8 j) (Q := riv V i) (n := (V 0 10).toNat) (fun j _ g => g.1)
    exact ⟨fun _ => Or.inl h1, fun _ => by omega⟩
  · have hji := hv.2.2.1 j hj
    have hf := si_from (riv V i) (V 0 10).toNat j (by omega)
    constructor
    · intro g
      refine Or.inr ?_
      rcases Int.lt_or_le x z with c | c
      · have := si_mono (P := fun q => riv V i q ∧ j ≤ q) (Q := fun q => riv V i q ∧ x < V 8 q) (n := (V 0 10).toNat) (fun q hq g => ⟨g.1, by have := hv.2.2.2 j q g.2 (by omega); omega⟩)
        omega
      · exact c
    · intro g
      have c : z ≤ x := by omega
      have hf2 := si_from (riv V i) (V 0 10).toNat (j + 1) (by omega)
      have e : fb_si (fun q => b2i (riv V i q)) (j + 1) = fb_si (fun q => b2i (riv V i q)) j + 1 := by rw [fb_si_succ, b2i_t hr]
      have := si_mono (P := fun q => riv V i q ∧ x < V 8 q) (Q := fun q => riv V i q ∧ j + 1 ≤ q) (n := (V 0 10).toNat) (fun q hq g => ⟨g.1, by
        rcases Nat.lt_or_ge j q with b | b
        · omega
        · have := hv.2.2.2 q j b hj; omega⟩)
      omega
abbrev woL (V : xM) (i : Nat) : List Nat := ((alN V (V 4 i)).filter fun j => decide (j ≠ i)).take (V 11 (V 4 i).toNat).toNat
def qWithout (V : xM) (i k : Int) : Int := if isI V i ∧ -1 ≤ k then (if V 9 i.toNat = 0 then kth (woL V i.toNat) k else -2) else -1
def exL (V : xM) (sh : Int) : List Nat := (List.range (V 0 10).toNat).filter fun i => decide (und V i sh (-1) ∧ ¬ alv V i (V 0 11))
def qExpired (V : xM) (sh k : Int) : Int := if okS sh ∧ -1 ≤ k then kth (exL V sh) k else -1
def busN (V : xM) (t : Int) (i : Nat) : Int := fb_si (fun j => b2i (V 9 j = 0 ∧ V 8 i ≤ V 8 j ∧ V 8 j ≤ V 8 i + t - 1)) (V 0 10).toNat
def bus (V : xM) (t : Int) : Nat → Int × Int
  | 0 => (0, -2)
  | k + 1 => if V 9 k = 0 ∧ (bus V t k).1 < busN V t k then (busN V t k, V 8 k) else bus V t k
def qBusiest (V : xM) (t what : Int) : Int := if (1 ≤ t ∧ t ≤ 9999) ∧ 0 ≤ what ∧ what ≤ 1 then (if what = 0 then (bus V t (V 0 10).toNat).1 else (bus V t (V 0 10).toNat).2) else -1
/-- an item would be in its shard's sample by another weight -/
abbrev wouldW (V : xM) (i : Nat) (w : Int) : Prop := fb_si (fun j => b2i ((V 9 j = 0 ∧ V 4 j = V 4 i ∧ alv V j (V 0 11)) ∧ j ≠ i ∧ ¬ ahw V i w j)) (V 0 10).toNat < V 11 (V 4 i).toNat
abbrev qWeightFor (V : xM) (i z : Int) : Prop := (¬ isI V i ∧ z = -1) ∨ (isI V i ∧ ¬ alv V i.toNat (V 0 11) ∧ z = -2) ∨ (isI V i ∧ alv V i.toNat (V 0 11) ∧ Lea (fun w => wouldW V i.toNat w) 1 20 z)
def qSizeFor (V : xM) (i : Int) : Int := if isI V i then (if qPl (alN V (V 4 i.toNat)) i.toNat = -2 ∨ 12 ≤ qPl (alN V (V 4 i.toNat)) i.toNat then -2 else qPl (alN V (V 4 i.toNat)) i.toNat + 1) else -1
/-- an item would be in its shard's sample by a window, at a tick -/
abbrev inBy (V : xM) (i : Nat) (x : Int) : Prop := x < V 8 i ∧ fb_si (fun j => b2i (riv V i j ∧ x < V 8 j)) (V 0 10).toNat < V 11 (V 4 i).toNat
abbrev Gre (P : Int → Prop) (lo hi z : Int) : Prop := ((lo ≤ z ∧ z ≤ hi) ∧ P z ∧ ∀ x, z < x → x ≤ hi → ¬ P x) ∨ (z = -2 ∧ ∀ x, lo ≤ x → x ≤ hi → ¬ P x)
theorem gre_one {P : Int → Prop} {lo hi z z2 : Int} (h : Gre P lo hi z) (h2 : Gre P lo hi z2) : z = z2 := by
  rcases h with ⟨a1, a2, a3⟩ | ⟨a1, a2⟩
  · rcases h2 with ⟨b1, b2, b3⟩ | ⟨b1, b2⟩
    · rcases Int.lt_trichotomy z z2 with g | g | g
      · exact absurd b2 (a3 z2 g b1.2)
      · exact g
      · exact absurd a2 (b3 z g a1.2)
    · exact absurd a2 (b2 z a1.1 a1.2)
  · rcases h2 with ⟨b1, b2, b3⟩ | ⟨b1, b2⟩
    · exact absurd b2 (a2 z2 b1.1 b1.2)
    · omega
abbrev qWindowFor (V : xM) (i z : Int) : Prop := (¬ isI V i ∧ z = -1) ∨ (isI V i ∧ ¬ V 9 i.toNat = 0 ∧ z = -2) ∨ (isI V i ∧ V 9 i.toNat = 0 ∧ Gre (fun w => inBy V i.toNat (V 0 11 - w)) 1 9999 z)
def ltL (V : xM) (sh t : Int) : List Nat := (alL V sh (V 0 11 + t) (V 12 sh.toNat) (V 0 10)).take (V 11 sh.toNat).toNat
def qLater (V : xM) (sh t k : Int) : Int := if okS sh ∧ (0 ≤ t ∧ t ≤ 9999) ∧ -1 ≤ k then kth (ltL V sh t) k else -1
/-- an item is in its shard's sample so many ticks later; without a window nothing expires -/
abbrev entW (V : xM) (i : Nat) : Int := V 12 (V 4 i).toNat
abbrev inAt (V : xM) (i : Nat) (t : Int) : Prop := inBy V i (if entW V i = 0 then -1 else V 0 11 + t - entW V i)
abbrev qEnters (V : xM) (i z : Int) : Prop := (¬ isI V i ∧ z = -1) ∨ (isI V i ∧ ¬ V 9 i.toNat = 0 ∧ z = -2) ∨ (isI V i ∧ V 9 i.toNat = 0 ∧ Lea (fun t => inAt V i.toNat t) 0 1000000 z)
abbrev qChanges (V : xM) (sh z : Int) : Prop := (¬ okS sh ∧ z = -1) ∨ (okS sh ∧ (V 12 sh.toNat = 0 ∨ (smL V sh).length = 0) ∧ z = -2) ∨ (okS sh ∧ ¬ V 12 sh.toNat = 0 ∧ (∃ j, j ∈ smL V sh ∧ z = V 8 j + V 12 sh.toNat - V 0 11) ∧ ∀ j, j ∈ smL V sh → z ≤ V 8 j + V 12 sh.toNat - V 0 11)
def thL (V : xM) (i : Nat) (up : Int) : List Nat := (alL V (V 4 i) (V 8 i) (V 12 (V 4 i).toNat) up).take (V 11 (V 4 i).toNat).toNat
def qThen (V : xM) (i k : Int) : Int := if isI V i ∧ -1 ≤ k then (if V 9 i.toNat = 0 then kth (thL V i.toNat (i + 1)) k else -2) else -1
/-- whom an item put out; -2: there was room; -1: it didn't come in -/
def putO (V : xM) (i : Nat) : Int := if ((thL V i i).length : Int) < V 11 (V 4 i).toNat then -2 else if ahd V i (lst (thL V i i)) then lst (thL V i i) else -1
def qPlayed (V : xM) (sh what : Int) : Int := if okS sh ∧ 0 ≤ what ∧ what ≤ 1 then fb_si (fun j => b2i (und V j sh (-1) ∧ (0 ≤ putO V j ∨ (what = 0 ∧ putO V j = -2)))) (V 0 10).toNat else -1
abbrev qOutBy (V : xM) (i z : Int) : Prop := (¬ isI V i ∧ z = -1) ∨ (isI V i ∧ ¬ V 9 i.toNat = 0 ∧ z = -2) ∨ (isI V i ∧ V 9 i.toNat = 0 ∧ Lea (fun x => und V x.toNat (V 4 i.toNat) (-1) ∧ putO V x.toNat = i) (i + 1) (V 0 10 - 1) z)
def cntA (V : xM) (sh lab : Int) : Int := fb_si (fun j => b2i (und V j sh lab ∧ alv V j (V 0 11))) (V 0 10).toNat
def sumA (V : xM) (sh lab : Int) : Int := fb_si (fun j => b2i (und V j sh lab ∧ alv V j (V 0 11)) * V 6 j) (V 0 10).toNat
def cntU (V : xM) (sh lab : Int) : Int := fb_si (fun j => b2i (und V j sh lab)) (V 0 10).toNat
def qLabels (V : xM) (sh lab what : Int) : Int := if okS sh ∧ 0 ≤ lab ∧ lab ≤ 25 then (if what = 0 then cntA V sh lab else if what = 1 then sumA V sh lab else if what = 2 then lb1 V (smL V sh) lab else if what = 3 then cntU V sh lab else -1) else -1
def wtL (V : xM) (L : List Nat) : Int := (L.map fun i => V 6 i).sum
def qTotal (V : xM) (sh what : Int) : Int := if okS sh then (if what = 0 then cntA V sh (-1) else if what = 1 then sumA V sh (-1) else if what = 2 then wtL V (smL V sh) else if what = 3 then cntU V sh (-1) else if what = 4 then V 11 sh.toNat else if what = 5 then V 12 sh.toNat else -1) else -1
abbrev qMode (V : xM) (sh z : Int) : Prop := (¬ okS sh ∧ z = -1) ∨ (okS sh ∧ z = -2 ∧ ∀ q : Nat, q < 26 → lb1 V (smL V sh) q ≤ 0) ∨ (okS sh ∧ (0 ≤ z ∧ z < 26) ∧ 0 < lb1 V (smL V sh) z ∧ (∀ q : Nat, q < 26 → lb1 V (smL V sh) q ≤ lb1 V (smL V sh) z) ∧ ∀ q : Nat, (q : Int) < z → lb1 V (smL V sh) q < lb1 V (smL V sh) z)
def ulk (V : xM) (L K : List Nat) : Int := fb_si (fun q => if 0 ≤ lb1 V L q - lb1 V K q then lb1 V L q - lb1 V K q else -(lb1 V L q - lb1 V K q)) 26
def qUnlike (V : xM) (sh sh2 : Int) : Int := if okS sh ∧ okS sh2 then ulk V (smL V sh) (smL V sh2) else -1
def dgs (s v : Int) : Int := Int.bmod (Int.bmod (31 * s) 18446744073709551616 + v) 18446744073709551616
def dig (V : xM) : Nat → Int
  | 0 => 17
  | k + 1 => dgs (dgs (dgs (dgs (dgs (dig V k) (if V 9 k = 0 then V 4 k else 4)) (V 5 k)) (V 6 k)) (V 7 k)) (V 8 k)
