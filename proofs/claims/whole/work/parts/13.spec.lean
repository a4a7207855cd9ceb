theorem x_div' {x y : Int} (h0 : 0 ≤ x) (hx : i32 x) (hy0 : 0 < y) (hy : i32 y) : Int32.ofInt x / Int32.ofInt y = Int32.ofInt (x / y) := by
  have hd : 0 ≤ x / y ∧ x / y ≤ x := ⟨Int.ediv_nonneg h0 (by omega), Int.ediv_le_self y h0⟩
  apply Int32.toInt_inj.mp
  rw [Int32.toInt_div, x_toInt hx, x_toInt hy, x_toInt ⟨by omega, by omega⟩, Int.tdiv_eq_ediv_of_nonneg h0]
  exact Int.bmod_eq_of_le (by omega) (by omega)
theorem x_rem' {x y : Int} (h0 : 0 ≤ x) (hx : i32 x) (hy0 : 0 < y) (hy : i32 y) : Int32.ofInt x - Int32.ofInt x / Int32.ofInt y * Int32.ofInt y = Int32.ofInt (x % y) := by
  rw [x_div' h0 hx hy0 hy, ← Int32.ofInt_mul, ← Int32.ofInt_sub, Int.emod_def, Int.mul_comm]
theorem x_nz {y : Int} (h : 0 < y) (hy : i32 y) : ¬ Int32.ofInt y = 0 := by
  intro h9
  have : (Int32.ofInt y).toInt = 0 := by rw [h9]; rfl
  rw [x_toInt hy] at this
  omega
theorem x_shr' {x k : Int} (h0 : 0 ≤ x) (hx : i32 x) (hk0 : 0 ≤ k) (hk : k < 32) : Int32.ofInt x >>> (Int32.ofInt k &&& 31) = Int32.ofInt (x / 2 ^ k.toNat) := by
  obtain ⟨n, rfl⟩ := Int.eq_ofNat_of_zero_le hk0
  have hd : 0 ≤ x / 2 ^ ((n : Int)).toNat ∧ x / 2 ^ ((n : Int)).toNat ≤ x := ⟨Int.ediv_nonneg h0 (Int.pow_nonneg (by decide)), Int.ediv_le_self _ h0⟩
  apply Int32.toInt_inj.mp
  have e : (Int32.ofInt x >>> (nI n &&& 31)).toInt = (Int32.ofInt x).toInt >>> n := by
    have h9 := s_l n (by omega)
    have e9 : (Int32.ofInt x >>> (nI n &&& 31)).toInt = (Int32.ofInt x).toInt >>> (((nI n &&& 31).toBitVec.smod 32).toNat) := BitVec.toInt_sshiftRight ..
    rw [h9] at e9
    exact e9
  show (Int32.ofInt x >>> (nI n &&& 31)).toInt = _
  rw [e, Int.shiftRight_eq_div_pow, x_toInt hx, x_toInt ⟨by omega, by omega⟩]
  simp
theorem x_and' {x m : Int} (k : Nat) (hm : m = 2 ^ k - 1) (h0 : 0 ≤ x) : Int32.ofInt x &&& Int32.ofInt m = Int32.ofInt (x % (m + 1)) := by
  obtain ⟨n, rfl⟩ := Int.eq_ofNat_of_zero_le h0
  have e1 : m = ((2 ^ k - 1 : Nat) : Int) := by
    have := Nat.two_pow_pos k
    rw [hm]; push_cast [Int.ofNat_sub this]; rfl
  have e2 : m + 1 = ((2 ^ k : Nat) : Int) := by rw [hm]; push_cast; omega
  rw [e2, e1]
  exact fa_mask n k
theorem x_shl_1 : ∀ n, n < 31 → nI 1 <<< (nI n &&& 31) = nI (2 ^ n) := by decide +kernel
theorem x_shl1 {k : Int} (hk0 : 0 ≤ k) (hk : k < 31) : Int32.ofInt 1 <<< (Int32.ofInt k &&& 31) = Int32.ofInt (2 ^ k.toNat) := by
  obtain ⟨n, rfl⟩ := Int.eq_ofNat_of_zero_le hk0
  have e := x_shl_1 n (by omega)
  have e2 : ((2 : Int) ^ ((n : Int)).toNat) = ((2 ^ n : Nat) : Int) := by simp
  rw [e2]
  exact e
theorem xof_refl (X : List Nat) (M : xM) : xof X M M := fun _ _ => rfl
theorem xof_trans {X : List Nat} {M M1 M2 : xM} (h : xof X M M1) (h2 : xof X M1 M2) : xof X M M2 := fun k hk => (h2 k hk).trans (h k hk)
theorem xof_mono {X Y : List Nat} {M M2 : xM} (h : xof X M M2) (hs : ∀ k ∈ X, k ∈ Y) : xof Y M M2 := fun k hk => h k fun h9 => hk (hs k h9)
theorem xof_xst {X : List Nat} {M : xM} {k j : Nat} {z : Int} (h : k ∈ X) : xof X M (xst M k j z) := fun q hq => by
  rw [xst_row (fun e => hq (by subst e; exact h))]
/-- the next seed; the seed by which a lot is drawn -/
def nxt (s : Int) : Int := (25173 * s + 13849) % 65536
def drw (s : Int) : Int := if 64 ≤ nxt s then nxt s else nxt (nxt s)
theorem nxt_b (s : Int) : 0 ≤ nxt s ∧ nxt s < 65536 := by unfold nxt; omega
theorem nxt_two_n : ∀ n : Nat, n < 64 → (64 : Int) ≤ (25173 * (n : Int) + 13849) % 65536 := by decide +kernel
theorem nxt_two {s : Int} (h0 : 0 ≤ s) (h : s < 64) : 64 ≤ nxt s := by
  obtain ⟨n, rfl⟩ := Int.eq_ofNat_of_zero_le h0
  have := nxt_two_n n (by omega)
  unfold nxt
  omega
theorem drw_b (s : Int) : 64 ≤ drw s ∧ drw s < 65536 := by
  unfold drw
  have h1 := nxt_b s
  have h2 := nxt_b (nxt s)
  split
  · omega
  · exact ⟨nxt_two h1.1 (by omega), h2.2⟩
/-- a State seen from its first cell on: 4 shard, 5 label, 6 weight, 7 lot, 8 time, 9 dropped, 10 ranked, 11 sizes, 12 windows; 0: 10 came, 11 tick, 12 seed -/
abbrev vw (M : xM) (a : Nat) : xM := fun k => M (a + k)
abbrev itm (V : xM) (i : Nat) : Prop := (0 ≤ V 4 i ∧ V 4 i ≤ 3) ∧ (0 ≤ V 5 i ∧ V 5 i ≤ 25) ∧ (1 ≤ V 6 i ∧ V 6 i ≤ 20) ∧ (1 ≤ V 7 i ∧ V 7 i ≤ 1023) ∧ (0 ≤ V 8 i ∧ V 8 i ≤ V 0 11) ∧ (0 ≤ V 9 i ∧ V 9 i ≤ 1)
abbrev scl (V : xM) : Prop := (0 ≤ V 0 10 ∧ V 0 10 ≤ 100) ∧ (0 ≤ V 0 11 ∧ V 0 11 ≤ 99999) ∧ (0 ≤ V 0 12 ∧ V 0 12 ≤ 65535)
abbrev swd (V : xM) (s : Nat) : Prop := (1 ≤ V 11 s ∧ V 11 s ≤ 12) ∧ (0 ≤ V 12 s ∧ V 12 s ≤ 9999)
abbrev VOK (V : xM) : Prop := scl V ∧ (∀ s, s < 4 → swd V s) ∧ (∀ i : Nat, (i : Int) < V 0 10 → itm V i) ∧ (∀ i j : Nat, i ≤ j → (j : Int) < V 0 10 → V 8 i ≤ V 8 j)
theorem ok_i {V : xM} (h : VOK V) {i : Int} (h0 : 0 ≤ i) (h1 : i < V 0 10) : itm V i.toNat := h.2.2.1 i.toNat (by omega)
theorem ok_s {V : xM} (h : VOK V) {s : Int} (h0 : 0 ≤ s) (h1 : s ≤ 3) : swd V s.toNat := h.2.1 s.toNat (by omega)
theorem ok_c {V : xM} (h : VOK V) : 0 ≤ V 0 10 ∧ V 0 10 ≤ 100 := h.1.1
abbrev und (V : xM) (i : Nat) (sh lab : Int) : Prop := V 9 i = 0 ∧ (sh = -1 ∨ V 4 i = sh) ∧ (lab = -1 ∨ V 5 i = lab)
abbrev alv (V : xM) (i : Nat) (when : Int) : Prop := V 9 i = 0 ∧ (V 12 (V 4 i).toNat = 0 ∨ when - V 12 (V 4 i).toNat < V 8 i)
abbrev ahw (V : xM) (i : Int) (w : Int) (j : Int) : Prop := 0 < kc (V 7 i.toNat) w (V 7 j.toNat) (V 6 j.toNat) ∨ (kc (V 7 i.toNat) w (V 7 j.toNat) (V 6 j.toNat) = 0 ∧ i < j)
abbrev ahd (V : xM) (i j : Int) : Prop := ahw V i (V 6 i.toNat) j
theorem si_y {p : Nat → Prop} [DecidablePred p] {k n : Int} (hk : 0 ≤ k) (hn : n = fb_si (fun i => b2i (p i)) k.toNat) (h : p k.toNat) : n + 1 = fb_si (fun i => b2i (p i)) (k + 1).toNat := by
  rw [show (k + 1).toNat = k.toNat + 1 by omega, fb_si_succ, ← hn, b2i_t h]
theorem si_n {p : Nat → Prop} [DecidablePred p] {k n : Int} (hk : 0 ≤ k) (hn : n = fb_si (fun i => b2i (p i)) k.toNat) (h : ¬ p k.toNat) : n = fb_si (fun i => b2i (p i)) (k + 1).toNat := by
  rw [show (k + 1).toNat = k.toNat + 1 by omega, fb_si_succ, ← hn, b2i_f h]; omega
theorem si_b (p : Nat → Prop) [DecidablePred p] (k : Nat) : 0 ≤ fb_si (fun i => b2i (p i)) k ∧ fb_si (fun i => b2i (p i)) k ≤ k := by
  induction k with
  | zero => exact ⟨Int.le_refl _, Int.le_refl _⟩
  | succ k ih =>
    rw [fb_si_succ]
    have : b2i (p k) = 0 ∨ b2i (p k) = 1 := b2i_01
    omega
theorem si_r {f : Nat → Int} {k n v : Int} (hk : 0 ≤ k) (hn : n = fb_si f k.toNat) (h : f k.toNat = v) : n + v = fb_si f (k + 1).toNat := by
  rw [show (k + 1).toNat = k.toNat + 1 by omega, fb_si_succ, ← hn, h]
theorem si_0 (f : Nat → Int) : (0 : Int) = fb_si f (0 : Int).toNat := rfl
/-- the memory shows a State, its two scratch rows aside -/
def shw (M : xM) (a : Nat) (V : xM) : Prop := ∀ k, k < 13 → k ≠ 2 → k ≠ 3 → M (a + k) = V k
theorem shw_self (M : xM) (a : Nat) : shw M a (vw M a) := fun _ _ _ _ => rfl
theorem shw_st {M : xM} {a : Nat} {V : xM} (h : shw M a V) {r j : Nat} {z : Int} (hr : r < a ∨ a + 13 ≤ r ∨ r = a + 2 ∨ r = a + 3) : shw (xst M r j z) a V := fun k h1 h2 h3 => by
  rw [xst_row (by omega)]; exact h k h1 h2 h3
theorem shw_xst {M : xM} {a : Nat} {V : xM} (h : shw M a V) {k j : Nat} {z : Int} (hk : k ≠ 2 ∧ k ≠ 3 ∧ k < 13) : shw (xst M (a + k) j z) a (xst V k j z) := fun q h1 h2 h3 => by
  by_cases e : q = k
  · subst e
    funext b
    rw [xst_eq, xst_eq, h q h1 h2 h3]
    by_cases e2 : b = j <;> simp [e2]
  · rw [xst_row (by omega), xst_row e]; exact h q h1 h2 h3
theorem shw_xof {M M2 : xM} {a : Nat} {V : xM} {X : List Nat} (h : shw M a V) (h2 : xof X M M2) (hx : ∀ k, k < 13 → k ≠ 2 → k ≠ 3 → a + k ∉ X) : shw M2 a V := fun k h3 h4 h5 => by
  rw [h2 _ (hx k h3 h4 h5)]; exact h k h3 h4 h5
theorem nat_bit {n k : Int} (h : 0 ≤ n) : n / 2 ^ k.toNat % 2 = 0 ∨ n / 2 ^ k.toNat % 2 = 1 := by omega
abbrev bit (n k : Int) : Prop := n / 2 ^ k.toNat % 2 = 1
