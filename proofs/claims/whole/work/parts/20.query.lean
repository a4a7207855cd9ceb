theorem fil_go {V : xM} {P : Nat → Bool} {most cap : Int} : ∀ (r acc : List Nat), (acc.length : Int) + r.length ≤ cap → acc.length ≤ most.toNat → r.foldl (stp V P most cap) acc = acc ++ (r.filter P).take (most.toNat - acc.length) := by
  intro r
  induction r with
  | nil => intro acc _ _; simp
  | cons i r ih =>
    intro acc h1 h2
    have hl : (i :: r).length = r.length + 1 := rfl
    rw [List.foldl_cons]
    have hb := lb1_b V acc (V 5 i)
    by_cases hf : acc.length < most.toNat
    · by_cases hp : P i = true
      · rw [stp_yes (by omega) hp (by omega)]
        rw [ih (acc ++ [i]) (by simp; omega) (by simp; omega)]
        rw [List.filter_cons_of_pos hp]
        have e : most.toNat - acc.length = (most.toNat - (acc ++ [i]).length) + 1 := by simp; omega
        rw [e, List.take_succ_cons]
        simp
      · rw [stp_no (fun h => hp h.2.1), ih acc (by omega) h2, List.filter_cons_of_neg hp]
    · rw [stp_no (fun h => by omega), ih acc (by omega) h2]
      have e : most.toNat - acc.length = 0 := by omega
      rw [e]; simp
theorem fil_eq {V : xM} {P : Nat → Bool} {most cap : Int} {l : List Nat} (h : (l.length : Int) ≤ cap) : fil V P most cap l = (l.filter P).take most.toNat := by
  unfold fil
  rw [fil_go l [] (by simpa using h) (by simp)]
  simp
theorem rkl_mem {V : xM} (h : ∀ p : Nat, p < (V 0 10).toNat → 0 ≤ V 10 p ∧ V 10 p < ((V 0 10).toNat : Nat)) {i : Nat} (hi : i ∈ rkl V) : (i : Int) < V 0 10 := by
  unfold rkl at hi
  obtain ⟨p, hp, rfl⟩ := List.mem_map.mp hi
  have := h p (List.mem_range.mp hp)
  omega
theorem rkl_iff {V : xM} (h : Srt V (V 10) (V 0 10).toNat) (i : Nat) : i ∈ rkl V ↔ (i : Int) < V 0 10 := by
  refine ⟨rkl_mem h.1, fun hi => ?_⟩
  obtain ⟨p, hp, e⟩ := srt_onto h (i := (i : Int)) (by omega) (by omega)
  unfold rkl
  exact List.mem_map.mpr ⟨p, List.mem_range.mpr hp, by omega⟩
theorem rkl_nodup {V : xM} (h : Srt V (V 10) (V 0 10).toNat) : (rkl V).Nodup := by
  unfold rkl
  rw [List.Nodup, List.pairwise_map]
  refine List.Pairwise.imp_of_mem (R := fun a b => a < b) (fun {a b} ha hb hab e => ?_) (List.pairwise_lt_range)
  have h1 := List.mem_range.mp ha
  have h2 := List.mem_range.mp hb
  have a1 := h.1 a h1
  have a2 := h.1 b h2
  exact srt_ne h hab h2 (by omega)
abbrev isI (V : xM) (i : Int) : Prop := 0 ≤ i ∧ i < V 0 10
/-- those of a shard, up to a number, that are alive at a tick by a window; the sample; merged samples -/
def alL (V : xM) (sh t w up : Int) : List Nat := (rkl V).filter fun i : Nat => decide ((i : Int) < up ∧ V 9 i = 0 ∧ V 4 i = sh ∧ (w = 0 ∨ t - w < V 8 i))
def smL (V : xM) (sh : Int) : List Nat := (alL V sh (V 0 11) (V 12 sh.toNat) (V 0 10)).take (V 11 sh.toNat).toNat
def meL (V : xM) (set n : Int) : List Nat := ((rkl V).filter fun i : Nat => decide (bit set (V 4 i) ∧ alv V i (V 0 11))).take n.toNat
theorem alL_len {V : xM} (hv : VOK V) (sh t w up : Int) : (alL V sh t w up).length ≤ 100 := by
  have := List.length_filter_le (fun i : Nat => decide ((i : Int) < up ∧ V 9 i = 0 ∧ V 4 i = sh ∧ (w = 0 ∨ t - w < V 8 i))) (rkl V)
  have h2 := rkl_len V
  have h3 := ok_c hv
  unfold alL
  omega
theorem take_len {l : List Nat} {n : Nat} (h : l.length ≤ 100) : (l.take n).length ≤ 100 := by
  rw [List.length_take]; omega
theorem rkl_l100 {V : xM} (hv : VOK V) : (rkl V).length ≤ 100 := by
  have h2 := rkl_len V
  have h3 := ok_c hv
  omega
theorem fil_len2 {V : xM} (hv : VOK V) (P : Nat → Bool) (mo c : Int) : (fil V P mo c (rkl V)).length ≤ 100 := by
  have h := fil_len V P mo c (V 0 10).toNat
  have h3 := ok_c hv
  rw [rkl_all] at h
  omega
theorem bit_1 : ∀ a, a < 4 → ∀ b, b < 4 → ((2 ^ a / 2 ^ b % 2 = 1) ↔ b = a) := by decide
theorem bit_sh {sh x : Int} (h : 0 ≤ sh ∧ sh ≤ 3) (hx : 0 ≤ x ∧ x ≤ 3) : bit (2 ^ sh.toNat) x ↔ x = sh := by
  have := bit_1 sh.toNat (by omega) x.toNat (by omega)
  unfold bit
  constructor
  · intro e
    have e2 : 2 ^ sh.toNat / 2 ^ x.toNat % 2 = 1 := by exact_mod_cast e
    have := this.mp e2
    omega
  · intro e
    have e2 := this.mpr (by omega)
    exact_mod_cast e2
/-- what one sampler is asked for, in the words of the lists -/
theorem ask_al {V : xM} (hv : VOK V) {sh t u : Int} (h : 0 ≤ sh ∧ sh ≤ 3) : (rkl V).filter (fun i : Nat => decide ((i : Int) < V 0 10 ∧ asd V (2 ^ sh.toNat) t u (-1) i)) = (rkl V).filter (fun i : Nat => decide ((i : Int) < V 0 10 ∧ ((i : Int) < u + 1 ∧ V 9 i = 0 ∧ V 4 i = sh ∧ (V 12 sh.toNat = 0 ∨ t - V 12 sh.toNat < V 8 i)))) := by
  apply List.filter_congr
  intro i _
  apply decide_eq_decide.mpr
  constructor
  · rintro ⟨h0, h1, h2, h3, h4, h5⟩
    have hi := hv.2.2.1 i h0
    have e := (bit_sh h hi.1).mp h1
    rw [e] at h5
    exact ⟨h0, by omega, h4, e, h5⟩
  · rintro ⟨h0, h1, h4, e, h5⟩
    have hi := hv.2.2.1 i h0
    refine ⟨h0, (bit_sh h hi.1).mpr e, by omega, by omega, h4, ?_⟩
    rw [e]; exact h5
theorem filter_in {V : xM} (hs : Srt V (V 10) (V 0 10).toNat) (P : Nat → Prop) [DecidablePred P] : (rkl V).filter (fun i : Nat => decide (P i)) = (rkl V).filter (fun i : Nat => decide ((i : Int) < V 0 10 ∧ P i)) := by
  apply List.filter_congr
  intro i hi
  have := (rkl_iff hs i).mp hi
  exact decide_eq_decide.mpr ⟨fun h => ⟨this, h⟩, fun h => h.2⟩
theorem fil_al {V : xM} (hv : VOK V) (hs : Srt V (V 10) (V 0 10).toNat) {sh t u mo : Int} (h : 0 ≤ sh ∧ sh ≤ 3) : fil V (fun i : Nat => decide (asd V (2 ^ sh.toNat) t u (-1) i)) mo 100 (rkl V) = (alL V sh t (V 12 sh.toNat) (u + 1)).take mo.toNat := by
  rw [fil_eq (by have := rkl_l100 hv; omega), filter_in hs, ask_al hv h]
  unfold alL
  rw [filter_in hs (fun i => (i : Int) < u + 1 ∧ V 9 i = 0 ∧ V 4 i = sh ∧ (V 12 sh.toNat = 0 ∨ t - V 12 sh.toNat < V 8 i))]
theorem alL_up {V : xM} (hs : Srt V (V 10) (V 0 10).toNat) {sh t w u : Int} (hu : V 0 10 ≤ u) : alL V sh t w u = alL V sh t w (V 0 10) := by
  unfold alL
  apply List.filter_congr
  intro i hi
  have := (rkl_iff hs i).mp hi
  exact decide_eq_decide.mpr ⟨fun h => ⟨this, h.2⟩, fun h => ⟨by omega, h.2⟩⟩
theorem tkL_eq {V : xM} (hv : VOK V) (hs : Srt V (V 10) (V 0 10).toNat) {sh : Int} (h : 0 ≤ sh ∧ sh ≤ 3) : tkL V sh = smL V sh := by
  unfold tkL smL
  rw [fil_al hv hs h, alL_up hs (by have := ok_c hv; omega)]
/-- the least of some numbers of which a thing holds; -2: of none -/
abbrev Lea (P : Int → Prop) (lo hi z : Int) : Prop := ((lo ≤ z ∧ z ≤ hi) ∧ P z ∧ ∀ x, lo ≤ x → x < z → ¬ P x) ∨ (z = -2 ∧ ∀ x, lo ≤ x → x ≤ hi → ¬ P x)
theorem lea_one {P : Int → Prop} {lo hi z z2 : Int} (h : Lea P lo hi z) (h2 : Lea P lo hi z2) : z = z2 := by
  rcases h with ⟨a1, a2, a3⟩ | ⟨a1, a2⟩
  · rcases h2 with ⟨b1, b2, b3⟩ | ⟨b1, b2⟩
    · rcases Int.lt_trichotomy z z2 with g | g | g
      · exact absurd a2 (b3 z a1.1 g)
      · exact g
      · exact absurd b2 (a3 z2 b1.1 g)
    · exact absurd a2 (b2 z a1.1 a1.2)
  · rcases h2 with ⟨b1, b2, b3⟩ | ⟨b1, b2⟩
    · exact absurd b2 (a2 z2 b1.1 b1.2)
    · omega
theorem lea_cg {P Q : Int → Prop} {lo hi z : Int} (h : Lea P lo hi z) (e : ∀ x, lo ≤ x → x ≤ hi → (P x ↔ Q x)) : Lea Q lo hi z := by
  rcases h with ⟨a1, a2, a3⟩ | ⟨a1, a2⟩
  · exact Or.inl ⟨a1, (e z a1.1 a1.2).mp a2, fun x h1 h2 hq => a3 x h1 h2 ((e x h1 (by omega)).mpr hq)⟩
  · exact Or.inr ⟨a1, fun x h1 h2 hq => a2 x h1 h2 ((e x h1 h2).mpr hq)⟩
