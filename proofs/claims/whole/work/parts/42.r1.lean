/-! the reference: its row of numbers shows a State -/
abbrev mrel (N : Nat → Int) (V : xM) : Prop := (N 0 = V 0 11 ∧ N 1 = V 0 12 ∧ N 2 = V 0 10) ∧ (∀ s, s < 4 → N (3 + s) = V 11 s ∧ N (7 + s) = V 12 s) ∧ ∀ i : Nat, (i : Int) < V 0 10 → N (11 + 5 * i) = V 4 i + 4 * V 9 i ∧ N (11 + 5 * i + 1) = V 5 i ∧ N (11 + 5 * i + 2) = V 6 i ∧ N (11 + 5 * i + 3) = V 7 i ∧ N (11 + 5 * i + 4) = V 8 i
def itw (V : xM) (i w : Nat) : Int := if w = 0 then V 4 i + 4 * V 9 i else V (w + 4) i
theorem mr_cg {N N2 : Nat → Int} {V : xM} (h : mrel N V) (e : N2 = N) : mrel N2 V := by rw [e]; exact h
theorem mr_sz {N : Nat → Int} {V : xM} (h : mrel N V) {x : Int} (hx : 0 ≤ x ∧ x ≤ 3) : N (3 + x).toNat = V 11 x.toNat := by
  rw [show (3 + x).toNat = 3 + x.toNat by omega]; exact (h.2.1 x.toNat (by omega)).1
theorem mr_wd {N : Nat → Int} {V : xM} (h : mrel N V) {x : Int} (hx : 0 ≤ x ∧ x ≤ 3) : N (7 + x).toNat = V 12 x.toNat := by
  rw [show (7 + x).toNat = 7 + x.toNat by omega]; exact (h.2.1 x.toNat (by omega)).2
theorem mr_item {N : Nat → Int} {V : xM} (h : mrel N V) {i w : Int} (hi : 0 ≤ i ∧ i < V 0 10) (hw : 0 ≤ w ∧ w ≤ 4) : N ((11 + (5 * i)) + w).toNat = itw V i.toNat w.toNat := by
  have g := h.2.2 i.toNat (by omega)
  have hw2 : w = 0 ∨ w = 1 ∨ w = 2 ∨ w = 3 ∨ w = 4 := by omega
  rcases hw2 with rfl | rfl | rfl | rfl | rfl
  · rw [show ((11 + (5 * i)) + 0).toNat = 11 + 5 * i.toNat by omega]; exact g.1
  · rw [show ((11 + (5 * i)) + 1).toNat = 11 + 5 * i.toNat + 1 by omega]; exact g.2.1
  · rw [show ((11 + (5 * i)) + 2).toNat = 11 + 5 * i.toNat + 2 by omega]; exact g.2.2.1
  · rw [show ((11 + (5 * i)) + 3).toNat = 11 + 5 * i.toNat + 3 by omega]; exact g.2.2.2.1
  · rw [show ((11 + (5 * i)) + 4).toNat = 11 + 5 * i.toNat + 4 by omega]; exact g.2.2.2.2
abbrev Rk (M V : xM) : Prop := M 195 10 = 0 ∨ (M 195 10 = 1 ∧ Srt V (M 203) (V 0 10).toNat)
theorem rk_cg {M M2 V : xM} (h : Rk M V) (e1 : M2 195 10 = M 195 10) (e2 : M2 203 = M 203) : Rk M2 V := by
  unfold Rk; rw [e1, e2]; exact h
abbrev mfx (b : Nat) (M M2 : xM) : Prop := (∀ q, q < 195 ∨ (196 ≤ q ∧ q < 200) ∨ b ≤ q → M2 q = M q) ∧ M2 195 2 = M 195 2 ∧ M2 195 18 = M 195 18
abbrev mfr (M M2 : xM) : Prop := mfx 207 M M2
theorem mfr_refl {b : Nat} (M : xM) : mfx b M M := ⟨fun _ _ => rfl, rfl, rfl⟩
theorem mfr_tr {b : Nat} {M M1 M2 : xM} (h : mfx b M M1) (h2 : mfx b M1 M2) : mfx b M M2 := ⟨fun q hq => (h2.1 q hq).trans (h.1 q hq), h2.2.1.trans h.2.1, h2.2.2.trans h.2.2⟩
theorem mfx_w {b : Nat} {M M2 : xM} (c : Nat) (h : mfx b M M2) (hbc : b ≤ c) : mfx c M M2 := ⟨fun q hq => h.1 q (by omega), h.2⟩
theorem mfr_st {b : Nat} {M M1 : xM} {k j : Nat} {z : Int} (h : mfx b M M1) (hk : (k = 195 ∧ j ≠ 2 ∧ j ≠ 18) ∨ (200 ≤ k ∧ k < b)) (hb : 200 ≤ b := by decide) : mfx b M (xst M1 k j z) := ⟨fun q hq => by rw [xst_row (by omega)]; exact h.1 q hq, by rw [xst_nq (by omega)]; exact h.2.1, by rw [xst_nq (by omega)]; exact h.2.2⟩
theorem mfr_of {b : Nat} {M M1 M2 : xM} {X : List Nat} (h : mfx b M M1) (h2 : xof X M1 M2) (hX : ∀ k ∈ X, 200 ≤ k ∧ k < b) (hb : 200 ≤ b := by decide) : mfx b M M2 := ⟨fun q hq => (h2 q (fun g => by have := hX q g; omega)).trans (h.1 q hq), (congrFun (h2 195 (fun g => by have := hX 195 g; omega)) 2).trans h.2.1, (congrFun (h2 195 (fun g => by have := hX 195 g; omega)) 18).trans h.2.2⟩
abbrev Rw (M : xM) (L : List Nat) : Prop := M 195 8 = (L.length : Int) ∧ ∀ j, j < L.length → M 202 j = ((L.getD j 0 : Nat) : Int)
theorem rw_cg {M M2 : xM} {L : List Nat} (h : Rw M L) (e1 : M2 195 8 = M 195 8) (e2 : M2 202 = M 202) : Rw M2 L := by
  unfold Rw; rw [e1, e2]; exact h
/-! digits -/
def vB (f : Nat → Int) : Nat → Int
  | 0 => 0
  | k + 1 => vB f k + f k * 32768 ^ k
abbrev dg6 (f : Nat → Int) : Prop := ∀ k, k < 64 → 0 ≤ f k ∧ f k < 32768
theorem vB_cg {f g : Nat → Int} : ∀ {m : Nat}, (∀ k, k < m → f k = g k) → vB f m = vB g m := by
  intro m
  induction m with
  | zero => intro _; rfl
  | succ m ih => intro h; show vB f m + f m * _ = vB g m + g m * _; rw [ih (fun k hk => h k (by omega)), h m (by omega)]
theorem vB_hi {f : Nat → Int} {m : Nat} : ∀ {m2 : Nat}, m ≤ m2 → (∀ k, m ≤ k → k < m2 → f k = 0) → vB f m2 = vB f m := by
  intro m2
  induction m2 with
  | zero => intro h _; rw [show m = 0 by omega]
  | succ m2 ih =>
    intro h h2
    rcases Nat.lt_or_ge m (m2 + 1) with c | c
    · show vB f m2 + f m2 * _ = _
      rw [ih (by omega) (fun k a b => h2 k a (by omega)), h2 m2 (by omega) (by omega)]; omega
    · rw [show m = m2 + 1 by omega]
theorem vB_b {f : Nat → Int} : ∀ {m : Nat}, (∀ k, k < m → 0 ≤ f k ∧ f k < 32768) → 0 ≤ vB f m ∧ vB f m < 32768 ^ m := by
  intro m
  induction m with
  | zero => intro _; exact ⟨Int.le_refl _, by show (0 : Int) < 32768 ^ 0; decide⟩
  | succ m ih =>
    intro h
    have h1 := ih (fun k hk => h k (by omega))
    have h2 := h m (by omega)
    have h3 : (0 : Int) ≤ 32768 ^ m := by omega
    have h4 := Int.mul_nonneg h2.1 h3
    have h5 := Int.mul_le_mul_of_nonneg_right (show f m ≤ 32767 by omega) h3
    show 0 ≤ vB f m + f m * 32768 ^ m ∧ vB f m + f m * 32768 ^ m < 32768 ^ (m + 1)
    rw [Int.pow_succ]
    omega
theorem vB_ab {f g : Nat → Int} {k : Nat} : ∀ {m : Nat}, k ≤ m → (∀ j, k ≤ j → j < m → f j = g j) → vB f m - vB f k = vB g m - vB g k := by
  intro m
  induction m with
  | zero => intro h _; rw [show k = 0 by omega]; omega
  | succ m ih =>
    intro h h2
    rcases Nat.lt_or_ge k (m + 1) with c | c
    · have := ih (by omega) (fun j a b => h2 j a (by omega))
      show vB f m + f m * _ - _ = vB g m + g m * _ - _
      rw [h2 m (by omega) (by omega)]; omega
    · rw [show k = m + 1 by omega]; omega
theorem vB_lt {f g : Nat → Int} {k : Nat} (hk : k < 64) (hf : dg6 f) (hg : dg6 g) (h : ∀ j, k + 1 ≤ j → j < 64 → f j = g j) (hl : f k < g k) : vB f 64 < vB g 64 := by
  have h1 := vB_ab (show k + 1 ≤ 64 by omega) h
  have h2 := vB_b (fun j (hj : j < k) => hf j (by omega))
  have h3 := vB_b (fun j (hj : j < k) => hg j (by omega))
  have e1 : vB f (k + 1) = vB f k + f k * 32768 ^ k := rfl
  have e2 : vB g (k + 1) = vB g k + g k * 32768 ^ k := rfl
  have h4 := Int.mul_le_mul_of_nonneg_right (show f k + 1 ≤ g k by omega) (show (0 : Int) ≤ 32768 ^ k by omega)
  rw [Int.add_mul, Int.one_mul] at h4
  omega
theorem vB_st {M1 : xM} {x k : Nat} {z : Int} : vB (xst M1 x k z x) (k + 1) = vB (M1 x) k + z * 32768 ^ k := by
  show vB (xst M1 x k z x) k + xst M1 x k z x k * _ = _
  rw [xst_same, vB_cg (g := M1 x) (fun j hj => xst_nq (by omega))]
theorem vB_step {M1 : xM} {x k : Nat} {a f c v n c2 S : Int} (hv : v = a * f + c) (hn : n = v % 32768) (hc : c2 = v / 32768) (h : vB (M1 x) k + c * 32768 ^ k = S * f) : vB (xst M1 x k n x) (k + 1) + c2 * 32768 ^ (k + 1) = (S + a * 32768 ^ k) * f := by
  rw [vB_st, Int.add_mul, ← h, Int.pow_succ]
  have e : v = n + 32768 * c2 := by omega
  have e2 : n + 32768 * c2 = a * f + c := by omega
  have e3 := congrArg (· * (32768 : Int) ^ k) e2
  simp only [Int.add_mul] at e3
  have e4 : a * 32768 ^ k * f = a * f * 32768 ^ k := by rw [Int.mul_assoc, Int.mul_assoc, Int.mul_comm f]
  have e5 : c2 * ((32768 : Int) ^ k * 32768) = 32768 * c2 * 32768 ^ k := by rw [Int.mul_comm ((32768 : Int) ^ k), ← Int.mul_assoc, Int.mul_comm c2]
  rw [e4, e5]
  omega
theorem carry_b {v a f c : Int} (hv : v = a * f + c) (ha : 0 ≤ a ∧ a < 32768) (hf : 1 ≤ f ∧ f ≤ 1024) (hc : 0 ≤ c ∧ c < f) : 0 ≤ v ∧ v < 33554432 ∧ 0 ≤ v / 32768 ∧ v / 32768 < f := by
  have h1 := Int.mul_nonneg ha.1 (show 0 ≤ f by omega)
  have h2 := Int.mul_le_mul_of_nonneg_right (show a ≤ 32767 by omega) (show 0 ≤ f by omega)
  omega
theorem mul_b {a f : Int} (ha : 0 ≤ a ∧ a < 32768) (hf : 1 ≤ f ∧ f ≤ 1024) : 0 ≤ a * f ∧ a * f ≤ 33553408 := by
  have h1 := Int.mul_nonneg ha.1 (show 0 ≤ f by omega)
  have h2 := Int.mul_le_mul (show a ≤ 32767 by omega) hf.2 (by omega) (by omega)
  omega
set_option maxRecDepth 100000 in
set_option maxHeartbeats 4000000 in
theorem kX7_in (D : xD) (l : Launch) {n : Nat} {T : xT} {M : xM} (z lo hi : Int)  : xC D l uX7_in 0 0 0 0 [xL z, xL lo, xL hi] n T M (xPp n T M (b2i (lo ≤ z ∧ z ≤ hi))) := by
  refine x_met uX7_in (by decide) (Nat.le_of_ble_eq_true rfl) ?_
  intro Γ G Rt _
  have G : xG Γ RX7 cX7_in 6 0 0 0 0 := G
  have Rt : xRt Γ (xPp n T M (b2i (lo ≤ z ∧ z ≤ hi))) (some .boolean) 0 0 := Rt
  show xX Γ 0 0 n T 0 [(0, xL z), (2, xL lo), (4, xL hi)] [] M
  refine x_lload_n G 0 rfl rfl dX7_in_0 ?_
  refine x_lload_n G 1 rfl rfl dX7_in_1 ?_
  refine x_lcmp G dX7_in_2 ?_
  refine x_if_lt G 17 (by decide) dX7_in_3 (fun c3 => ?_) (fun c3 => ?_)
  · skip
    have c3 := xcmp_lt.mp c3
    refine x_iconst G (by decide) dX7_in_17 ?_
    exact x_zret G (by omega) Rt dX7_in_18 ⟨rfl, rfl, congrArg (fun z => some (xI z)) (by first | exact (b2i_t (by omega)).symm | exact (b2i_f (by omega)).symm), rfl⟩
  · skip
    have c3 := xcmp_ge.mp c3
    refine x_lload_n G 0 rfl rfl dX7_in_6 ?_
    refine x_lload G 2 rfl dX7_in_7 ?_
    refine x_lcmp G dX7_in_9 ?_
    refine x_if_gt G 17 (by decide) dX7_in_10 (fun c10 => ?_) (fun c10 => ?_)
    · skip
      have c10 := xcmp_gt.mp c10
      refine x_iconst G (by decide) dX7_in_17 ?_
      exact x_zret G (by omega) Rt dX7_in_18 ⟨rfl, rfl, congrArg (fun z => some (xI z)) (by first | exact (b2i_t (by omega)).symm | exact (b2i_f (by omega)).symm), rfl⟩
    · skip
      have c10 := xcmp_le.mp c10
      refine x_iconst G (by decide) dX7_in_13 ?_
      refine x_goto G 18 (by decide) dX7_in_14 ?_
      exact x_zret G (by omega) Rt dX7_in_18 ⟨rfl, rfl, congrArg (fun z => some (xI z)) (by first | exact (b2i_t (by omega)).symm | exact (b2i_f (by omega)).symm), rfl⟩
set_option maxRecDepth 100000 in
set_option maxHeartbeats 4000000 in
theorem kX7_isShard (D : xD) (l : Launch) {n : Nat} {T : xT} {M : xM} (z : Int)  : xC D l uX7_isShard 1 25 0 0 [xI z] n T M (xPp n T M (b2i (0 ≤ z ∧ z ≤ 3))) := by
  refine x_met uX7_isShard (by decide) (Nat.le_of_ble_eq_true rfl) ?_
  intro Γ G Rt _
  have G : xG Γ RX7 cX7_isShard 1 1 25 0 0 := G
  have Rt : xRt Γ (xPp n T M (b2i (0 ≤ z ∧ z ≤ 3))) (some .boolean) 0 0 := Rt
  show xX Γ 0 0 n T 0 [(0, xI z)] [] M
  refine x_iload_n G 0 rfl rfl dX7_isShard_0 ?_
  refine x_i2l G dX7_isShard_1 ?_
  refine x_lconst G dX7_isShard_2 ?_
  show xX Γ 0 0 n T 3 [(0, xI z)] [xL 0, xL z] M
  refine x_ldc2 G (z := 3) (by decide) kc_X7_52 dX7_isShard_3 ?_
  refine x_callSp G [] [xL z, xL 0, xL 3] hy_X7_in ht_X7_in ml_X7_54 rfl rfl (kX7_in _ _ z 0 3) (by decide) (by decide) (Nat.le_of_ble_eq_true rfl) dX7_isShard_6 ?_
  exact x_zret G b2i_01 Rt dX7_isShard_9 ⟨rfl, rfl, congrArg (fun z => some (xI z)) (rfl), rfl⟩
set_option maxRecDepth 100000 in
set_option maxHeartbeats 4000000 in
theorem kX7_isItem (D : xD) (l : Launch) {n : Nat} {T : xT} {M : xM} (V : xM) (i : Int) (hY : LayOK n T) (hN : mrel (M 196) V) (hv : VOK V) : xC D l uX7_isItem 1 25 0 0 [xR 195, xI i] n T M (xPp n T M (b2i (isI V i))) := by
  refine x_met uX7_isItem (by decide) (Nat.le_of_ble_eq_true rfl) ?_
  intro Γ G Rt _
  have G : xG Γ RX7 cX7_isItem 2 1 25 0 0 := G
  have Rt : xRt Γ (xPp n T M (b2i (isI V i))) (some .boolean) 0 0 := Rt
  show xX Γ 0 0 n T 0 [(0, xR 195), (1, xI i)] [] M
  have hc := ok_c hv
  refine x_iload_n G 1 rfl rfl dX7_isItem_0 ?_
  refine x_i2l G dX7_isItem_1 ?_
  refine x_lconst G dX7_isItem_2 ?_
  show xX Γ 0 0 n T 3 [(0, xR 195), (1, xI i)] [xL 0, xL i] M
  refine x_aload_n G 0 rfl rfl dX7_isItem_3 ?_
  refine x_get G (xR 196) xf7_0 lk_X7_7 (ly_n hY 195 (by decide)) (ly_k hY 195 (by decide)) (Or.inr ⟨rfl, _, (ly_r hY 195 0 (by decide) (by decide)), rfl⟩) dX7_isItem_4 ?_
  refine x_iconst G (by decide) dX7_isItem_7 ?_
  refine x_iald G (ly_n hY 196 (by decide)) (ly_k hY 196 (by decide)) (show _ = 511 from ly_l hY 196 (by decide)) (by omega) (by omega) dX7_isItem_8 ?_
  show xX Γ 0 0 n T 9 [(0, xR 195), (1, xI i)] [xI (M 196 2), xL 0, xL i] M
  rw [show M 196 2 = (V 0 10) from hN.1.2.2]
  refine x_iconst G (by decide) dX7_isItem_9 ?_
  refine x_isub G (by omega) dX7_isItem_10 ?_
  refine x_i2l G dX7_isItem_11 ?_
  refine x_callSp G [] [xL i, xL 0, xL ((V 0 10) - 1)] hy_X7_in ht_X7_in ml_X7_54 rfl rfl (kX7_in _ _ i 0 ((V 0 10) - 1)) (by decide) (by decide) (Nat.le_of_ble_eq_true rfl) dX7_isItem_12 ?_
  exact x_zret G b2i_01 Rt dX7_isItem_15 ⟨rfl, rfl, congrArg (fun z => some (xI z)) (b2i_cg (by omega)), rfl⟩
set_option maxRecDepth 100000 in
set_option maxHeartbeats 4000000 in
theorem kX7_item (D : xD) (l : Launch) {n : Nat} {T : xT} {M : xM} (V : xM) (i w : Int) (hY : LayOK n T) (hN : mrel (M 196) V) (hv : VOK V) (hi : isI V i) (hw : 0 ≤ w ∧ w ≤ 4) : xC D l uX7_item 0 0 0 0 [xR 195, xI i, xI w] n T M (xPp n T M (itw V i.toNat w.toNat)) := by
  refine x_met uX7_item (by decide) (Nat.le_of_ble_eq_true rfl) ?_
  intro Γ G Rt _
  have G : xG Γ RX7 cX7_item 3 0 0 0 0 := G
  have Rt : xRt Γ (xPp n T M (itw V i.toNat w.toNat)) (some .int) 0 0 := Rt
  show xX Γ 0 0 n T 0 [(0, xR 195), (1, xI i), (2, xI w)] [] M
  have hc := ok_c hv
  refine x_aload_n G 0 rfl rfl dX7_item_0 ?_
  refine x_get G (xR 196) xf7_0 lk_X7_7 (ly_n hY 195 (by decide)) (ly_k hY 195 (by decide)) (Or.inr ⟨rfl, _, (ly_r hY 195 0 (by decide) (by decide)), rfl⟩) dX7_item_1 ?_
  refine x_bipush G (by decide) dX7_item_4 ?_
  refine x_iconst G (by decide) dX7_item_6 ?_
  refine x_iload_n G 1 rfl rfl dX7_item_7 ?_
  refine x_imul G (by omega) dX7_item_8 ?_
  refine x_iadd G (by omega) dX7_item_9 ?_
  refine x_iload_n G 2 rfl rfl dX7_item_10 ?_
  refine x_iadd G (by omega) dX7_item_11 ?_
  refine x_iald G (ly_n hY 196 (by decide)) (ly_k hY 196 (by decide)) (show _ = 511 from ly_l hY 196 (by decide)) (by omega) (by omega) dX7_item_12 ?_
  exact x_iret G Rt dX7_item_13 ⟨rfl, rfl, congrArg (fun z => some (xI z)) (mr_item hN hi hw), rfl⟩
theorem kX7_item_0 (D : xD) (l : Launch) {n : Nat} {T : xT} {M : xM} (V : xM) (i : Int) (hY : LayOK n T) (hN : mrel (M 196) V) (hv : VOK V) (hi : isI V i) : xC D l uX7_item 0 0 0 0 [xR 195, xI i, xI 0] n T M (xPp n T M (V 4 i.toNat + 4 * V 9 i.toNat)) := kX7_item D l V i 0 hY hN hv hi (by decide)
theorem kX7_item_1 (D : xD) (l : Launch) {n : Nat} {T : xT} {M : xM} (V : xM) (i : Int) (hY : LayOK n T) (hN : mrel (M 196) V) (hv : VOK V) (hi : isI V i) : xC D l uX7_item 0 0 0 0 [xR 195, xI i, xI 1] n T M (xPp n T M (V 5 i.toNat)) := kX7_item D l V i 1 hY hN hv hi (by decide)
theorem kX7_item_2 (D : xD) (l : Launch) {n : Nat} {T : xT} {M : xM} (V : xM) (i : Int) (hY : LayOK n T) (hN : mrel (M 196) V) (hv : VOK V) (hi : isI V i) : xC D l uX7_item 0 0 0 0 [xR 195, xI i, xI 2] n T M (xPp n T M (V 6 i.toNat)) := kX7_item D l V i 2 hY hN hv hi (by decide)
theorem kX7_item_3 (D : xD) (l : Launch) {n : Nat} {T : xT} {M : xM} (V : xM) (i : Int) (hY : LayOK n T) (hN : mrel (M 196) V) (hv : VOK V) (hi : isI V i) : xC D l uX7_item 0 0 0 0 [xR 195, xI i, xI 3] n T M (xPp n T M (V 7 i.toNat)) := kX7_item D l V i 3 hY hN hv hi (by decide)
theorem kX7_item_4 (D : xD) (l : Launch) {n : Nat} {T : xT} {M : xM} (V : xM) (i : Int) (hY : LayOK n T) (hN : mrel (M 196) V) (hv : VOK V) (hi : isI V i) : xC D l uX7_item 0 0 0 0 [xR 195, xI i, xI 4] n T M (xPp n T M (V 8 i.toNat)) := kX7_item D l V i 4 hY hN hv hi (by decide)
set_option maxRecDepth 100000 in
set_option maxHeartbeats 4000000 in
theorem kX7_shardOf (D : xD) (l : Launch) {n : Nat} {T : xT} {M : xM} (V : xM) (i : Int) (hY : LayOK n T) (hN : mrel (M 196) V) (hv : VOK V) (hi : isI V i) : xC D l uX7_shardOf 1 22 0 0 [xR 195, xI i] n T M (xPp n T M (V 4 i.toNat + 4 * V 9 i.toNat)) := by
  refine x_met uX7_shardOf (by decide) (Nat.le_of_ble_eq_true rfl) ?_
  intro Γ G Rt _
  have G : xG Γ RX7 cX7_shardOf 2 1 22 0 0 := G
  have Rt : xRt Γ (xPp n T M (V 4 i.toNat + 4 * V 9 i.toNat)) (some .int) 0 0 := Rt
  show xX Γ 0 0 n T 0 [(0, xR 195), (1, xI i)] [] M
  have hc := ok_c hv
  refine x_aload_n G 0 rfl rfl dX7_shardOf_0 ?_
  refine x_iload_n G 1 rfl rfl dX7_shardOf_1 ?_
  refine x_iconst G (by decide) dX7_shardOf_2 ?_
  refine x_callVp G [] [xI i, xI 0] rfl (by decide) (ly_n hY 195 (by decide)) (ly_k hY 195 (by decide)) hy_X7_item hi_X7_item hs_X7_item ml_X7_58 rfl rfl (kX7_item_0 _ _ V i hY hN hv (by omega)) (by decide) (by decide) (Nat.le_of_ble_eq_true rfl) dX7_shardOf_3 ?_
  exact x_iret G Rt dX7_shardOf_6 ⟨rfl, rfl, congrArg (fun z => some (xI z)) (rfl), rfl⟩
set_option maxRecDepth 100000 in
set_option maxHeartbeats 4000000 in
theorem kX7_isDropped (D : xD) (l : Launch) {n : Nat} {T : xT} {M : xM} (V : xM) (i : Int) (hY : LayOK n T) (hN : mrel (M 196) V) (hv : VOK V) (hi : isI V i) : xC D l uX7_isDropped 2 43 0 0 [xR 195, xI i] n T M (xPp n T M (b2i (¬ V 9 i.toNat = 0))) := by
  refine x_met uX7_isDropped (by decide) (Nat.le_of_ble_eq_true rfl) ?_
  intro Γ G Rt _
  have G : xG Γ RX7 cX7_isDropped 2 2 43 0 0 := G
  have Rt : xRt Γ (xPp n T M (b2i (¬ V 9 i.toNat = 0))) (some .boolean) 0 0 := Rt
  show xX Γ 0 0 n T 0 [(0, xR 195), (1, xI i)] [] M
  have hc := ok_c hv
  have hit := ok_i hv hi.1 hi.2
  refine x_aload_n G 0 rfl rfl dX7_isDropped_0 ?_
  refine x_iload_n G 1 rfl rfl dX7_isDropped_1 ?_
  refine x_callVp G [] [xI i] rfl (by decide) (ly_n hY 195 (by decide)) (ly_k hY 195 (by decide)) hy_X7_shardOf hi_X7_shardOf hs_X7_shardOf ml_X7_62 rfl rfl (kX7_shardOf _ _ V i hY hN hv (by omega)) (by decide) (by decide) (Nat.le_of_ble_eq_true rfl) dX7_isDropped_2 ?_
  refine x_iconst G (by decide) dX7_isDropped_5 ?_
  refine x_icmp_lt G 13 (by decide) dX7_isDropped_6 (fun c6 => ?_) (fun c6 => ?_)
  · skip
    refine x_iconst G (by decide) dX7_isDropped_13 ?_
    exact x_zret G (by omega) Rt dX7_isDropped_14 ⟨rfl, rfl, congrArg (fun z => some (xI z)) (by first | exact (b2i_t (by omega)).symm | exact (b2i_f (by omega)).symm), rfl⟩
  · skip
    refine x_iconst G (by decide) dX7_isDropped_9 ?_
    refine x_goto G 14 (by decide) dX7_isDropped_10 ?_
    exact x_zret G (by omega) Rt dX7_isDropped_14 ⟨rfl, rfl, congrArg (fun z => some (xI z)) (by first | exact (b2i_t (by omega)).symm | exact (b2i_f (by omega)).symm), rfl⟩
set_option maxRecDepth 100000 in
set_option maxHeartbeats 4000000 in
theorem kX7_isThere (D : xD) (l : Launch) {n : Nat} {T : xT} {M : xM} (V : xM) (i : Int) (hY : LayOK n T) (hN : mrel (M 196) V) (hv : VOK V) : xC D l uX7_isThere 3 64 0 0 [xR 195, xI i] n T M (xPp n T M (b2i (isT V i))) := by
  refine x_met uX7_isThere (by decide) (Nat.le_of_ble_eq_true rfl) ?_
  intro Γ G Rt _
  have G : xG Γ RX7 cX7_isThere 2 3 64 0 0 := G
  have Rt : xRt Γ (xPp n T M (b2i (isT V i))) (some .boolean) 0 0 := Rt
  show xX Γ 0 0 n T 0 [(0, xR 195), (1, xI i)] [] M
  have hc := ok_c hv
  refine x_aload_n G 0 rfl rfl dX7_isThere_0 ?_
  refine x_iload_n G 1 rfl rfl dX7_isThere_1 ?_
  refine x_callVp G [] [xI i] rfl (by decide) (ly_n hY 195 (by decide)) (ly_k hY 195 (by decide)) hy_X7_isItem hi_X7_isItem hs_X7_isItem ml_X7_66 rfl rfl (kX7_isItem _ _ V i hY hN hv) (by decide) (by decide) (Nat.le_of_ble_eq_true rfl) dX7_isThere_2 ?_
  refine x_if_eq G 20 (by decide) dX7_isThere_5 (fun c5 => ?_) (fun c5 => ?_)
  · skip
    have c5 := b2i_eq0.mp c5
    refine x_iconst G (by decide) dX7_isThere_20 ?_
    exact x_zret G (by omega) Rt dX7_isThere_21 ⟨rfl, rfl, congrArg (fun z => some (xI z)) (by first | exact (b2i_t ⟨c5, Decidable.not_not.mp c13⟩).symm | exact (b2i_f (fun h => c13 h.2)).symm | exact (b2i_f (fun h => c5 h.1)).symm), rfl⟩
  · skip
    have c5 := b2i_ne0.mp c5
    refine x_aload_n G 0 rfl rfl dX7_isThere_8 ?_
    refine x_iload_n G 1 rfl rfl dX7_isThere_9 ?_
    refine x_callVp G [] [xI i] rfl (by decide) (ly_n hY 195 (by decide)) (ly_k hY 195 (by decide)) hy_X7_isDropped hi_X7_isDropped hs_X7_isDropped ml_X7_70 rfl rfl (kX7_isDropped _ _ V i hY hN hv (by omega)) (by decide) (by decide) (Nat.le_of_ble_eq_true rfl) dX7_isThere_10 ?_
    refine x_if_ne G 20 (by decide) dX7_isThere_13 (fun c13 => ?_) (fun c13 => ?_)
    · skip
      have c13 := b2i_ne0.mp c13
      refine x_iconst G (by decide) dX7_isThere_20 ?_
      exact x_zret G (by omega) Rt dX7_isThere_21 ⟨rfl, rfl, congrArg (fun z => some (xI z)) (by first | exact (b2i_t ⟨c5, Decidable.not_not.mp c13⟩).symm | exact (b2i_f (fun h => c13 h.2)).symm | exact (b2i_f (fun h => c5 h.1)).symm), rfl⟩
    · skip
      have c13 := b2i_eq0.mp c13
      refine x_iconst G (by decide) dX7_isThere_16 ?_
      refine x_goto G 21 (by decide) dX7_isThere_17 ?_
      exact x_zret G (by omega) Rt dX7_isThere_21 ⟨rfl, rfl, congrArg (fun z => some (xI z)) (by first | exact (b2i_t ⟨c5, Decidable.not_not.mp c13⟩).symm | exact (b2i_f (fun h => c13 h.2)).symm | exact (b2i_f (fun h => c5 h.1)).symm), rfl⟩
set_option maxRecDepth 100000 in
set_option maxHeartbeats 4000000 in
theorem kX7_times (D : xD) (l : Launch) {n : Nat} {T : xT} {M : xM} (x : Nat) (m f : Int) (hxn : x < n) (hxk : (T x).1 = 9) (hxl : (T x).2.1 = 64) (hm : 1 ≤ m ∧ m ≤ 60) (hf : 1 ≤ f ∧ f ≤ 1024) (hd : dg6 (M x)) (hz : ∀ k, m.toNat ≤ k → k < 64 → M x k = 0) : xC D l uX7_times 0 0 0 0 [xR x, xI m, xI f] n T M (xPI n T (fun z M2 => (z = m ∨ z = m + 1) ∧ (∀ q, q ≠ x → M2 q = M q) ∧ dg6 (M2 x) ∧ (∀ k, z.toNat ≤ k → k < 64 → M2 x k = 0) ∧ vB (M2 x) 64 = vB (M x) 64 * f)) := by
  refine x_met uX7_times (by decide) (Nat.le_of_ble_eq_true rfl) ?_
  intro Γ G Rt _
  have G : xG Γ RX7 cX7_times 6 0 0 0 0 := G
  have Rt : xRt Γ (xPI n T (fun z M2 => (z = m ∨ z = m + 1) ∧ (∀ q, q ≠ x → M2 q = M q) ∧ dg6 (M2 x) ∧ (∀ k, z.toNat ≤ k → k < 64 → M2 x k = 0) ∧ vB (M2 x) 64 = vB (M x) 64 * f)) (some .int) 0 0 := Rt
  show xX Γ 0 0 n T 0 [(0, xR x), (1, xI m), (2, xI f)] [] M
  refine x_iconst G (by decide) dX7_times_0 ?_
  refine x_istore_n G [(3, xI 0), (0, xR x), (1, xI m), (2, xI f)] rfl (by decide) rfl dX7_times_1 ?_
  refine x_iconst G (by decide) dX7_times_2 ?_
  refine x_istore G [(4, xI 0), (3, xI 0), (0, xR x), (1, xI m), (2, xI f)] (by decide) rfl dX7_times_3 ?_
  have loop5 : ∀ (d : Nat) (k : Int) (c : Int) (M1 : xM), (m - k).toNat = d → (0 ≤ k ∧ k ≤ m) → (0 ≤ c ∧ c < f) → (∀ q, q ≠ x → M1 q = M q) → (∀ j, j < k.toNat → 0 ≤ M1 x j ∧ M1 x j < 32768) → (∀ j, k.toNat ≤ j → M1 x j = M x j) → (vB (M1 x) k.toNat + c * 32768 ^ k.toNat = vB (M x) k.toNat * f) → xX Γ 0 0 n T 5 [(0, xR x), (1, xI m), (2, xI f), (3, xI c), (4, xI k)] [] M1 := by
    intro d
    induction d using Nat.strongRecOn with
    | ind d ih5 =>
    intro k c M1 hd5 hk hcr hfr hlo hhi hval
    refine x_iload G 4 rfl dX7_times_5 ?_
    refine x_iload_n G 1 rfl rfl dX7_times_7 ?_
    refine x_icmp_ge G 42 (by decide) dX7_times_8 (fun c8 => ?_) (fun c8 => ?_)
    · skip
      refine x_aload_n G 0 rfl rfl dX7_times_42 ?_
      refine x_iload_n G 1 rfl rfl dX7_times_43 ?_
      refine x_iload_n G 3 rfl rfl dX7_times_44 ?_
      refine x_iast G hxn hxk (hxl) (by omega) (by omega) dX7_times_45 ?_
      refine x_iload_n G 3 rfl rfl dX7_times_46 ?_
      refine x_if_le G 56 (by decide) dX7_times_47 (fun c47 => ?_) (fun c47 => ?_)
      · skip
        refine x_iload_n G 1 rfl rfl dX7_times_56 ?_
        exact x_iret G Rt dX7_times_57 ⟨rfl, rfl, _, rfl, by
      have hk9 : k = m := (by omega)
      subst hk9
      refine ⟨by omega, fun q hq => (xst_row hq).trans (hfr q hq), fun j hj => ?_, fun j h1 h2 => ?_, ?_⟩
      · rw [xst_eq]
        by_cases e : j = k.toNat
        · rw [if_pos ⟨rfl, e⟩]; omega
        · rw [if_neg (fun h => e h.2)]
          rcases Nat.lt_or_ge j k.toNat with g | g
          · exact hlo j g
          · rw [hhi j g]; exact hd j hj
      · by_cases e : j = k.toNat
        · rw [e, xst_same]; omega
        · rw [xst_nq (Or.inr e), hhi j (by omega)]; exact hz j (by omega) h2
      · rw [vB_hi (m := k.toNat + 1) (by omega) (fun j h1 h2 => (xst_nq (by omega)).trans ((hhi j (by omega)).trans (hz j (by omega) h2))), vB_st, hval, vB_hi (f := M x) (m := k.toNat) (by omega) hz]⟩
      · skip
        refine x_iload_n G 1 rfl rfl dX7_times_50 ?_
        refine x_iconst G (by decide) dX7_times_51 ?_
        refine x_iadd G (by omega) dX7_times_52 ?_
        refine x_goto G 57 (by decide) dX7_times_53 ?_
        exact x_iret G Rt dX7_times_57 ⟨rfl, rfl, _, rfl, by
      have hk9 : k = m := (by omega)
      subst hk9
      refine ⟨by omega, fun q hq => (xst_row hq).trans (hfr q hq), fun j hj => ?_, fun j h1 h2 => ?_, ?_⟩
      · rw [xst_eq]
        by_cases e : j = k.toNat
        · rw [if_pos ⟨rfl, e⟩]; omega
        · rw [if_neg (fun h => e h.2)]
          rcases Nat.lt_or_ge j k.toNat with g | g
          · exact hlo j g
          · rw [hhi j g]; exact hd j hj
      · by_cases e : j = k.toNat
        · rw [e, xst_same]; omega
        · rw [xst_nq (Or.inr e), hhi j (by omega)]; exact hz j (by omega) h2
      · rw [vB_hi (m := k.toNat + 1) (by omega) (fun j h1 h2 => (xst_nq (by omega)).trans ((hhi j (by omega)).trans (hz j (by omega) h2))), vB_st, hval, vB_hi (f := M x) (m := k.toNat) (by omega) hz]⟩
    · skip
      refine x_aload_n G 0 rfl rfl dX7_times_11 ?_
      refine x_iload G 4 rfl dX7_times_12 ?_
      refine x_iald G hxn hxk (hxl) (by omega) (by omega) dX7_times_14 ?_
      refine x_iload_n G 2 rfl rfl dX7_times_15 ?_
      have hmb := mul_b (a := M1 x k.toNat) (f := f) (by rw [hhi k.toNat (Nat.le_refl _)]; exact hd k.toNat (by omega)) hf
      refine x_imul G (by omega) dX7_times_16 ?_
      refine x_iload_n G 3 rfl rfl dX7_times_17 ?_
      refine x_iadd G (by omega) dX7_times_18 ?_
      obtain ⟨v, hv⟩ : ∃ p9 : Int, p9 = (((M1 x k.toNat) * f) + c) := ⟨_, rfl⟩; rw [← hv]
      have hcb := carry_b hv (by rw [hhi k.toNat (Nat.le_refl _)]; exact hd k.toNat (by omega)) hf hcr
      refine x_istore G [(5, xI v), (0, xR x), (1, xI m), (2, xI f), (3, xI c), (4, xI k)] (by decide) rfl dX7_times_19 ?_
      refine x_aload_n G 1 rfl rfl dX7_times_21 ?_
      refine x_iload G 5 rfl dX7_times_22 ?_
      refine x_iload G 0 rfl dX7_times_24 ?_
      refine x_ldc G (z := 32768) (by decide) kc_X7_77 dX7_times_26 ?_
      refine x_irem G (v % 32768) (x_nz (by decide) (by decide)) (x_rem' hcb.1 ⟨by omega, by omega⟩ (by decide) (by decide)) (by omega) dX7_times_28 ?_
      refine x_iast G hxn hxk (hxl) (by omega) (by omega) dX7_times_29 ?_
      refine x_iload G 0 rfl dX7_times_30 ?_
      refine x_ldc G (z := 32768) (by decide) kc_X7_77 dX7_times_32 ?_
      refine x_idiv G (v / 32768) (x_nz (by decide) (by decide)) (x_div' hcb.1 ⟨by omega, by omega⟩ (by decide) (by decide)) (by omega) dX7_times_34 ?_
      refine x_istore_n G [(3, xI (v / 32768)), (5, xI v), (0, xR x), (1, xI m), (2, xI f), (4, xI k)] rfl (by decide) rfl dX7_times_35 ?_
      refine x_iinc G [(4, xI (k + 1)), (3, xI (v / 32768)), (5, xI v), (0, xR x), (1, xI m), (2, xI f)] 5 rfl (by decide) (by omega) rfl dX7_times_36 ?_
      refine x_goto G 5 (by decide) dX7_times_39 ?_
      refine x_sub [(0, xR x), (1, xI m), (2, xI f), (3, xI (v / 32768)), (4, xI (k + 1))] [3, 4, 5, 1, 0] rfl ?_
      exact ih5 _ (by omega) (k + 1) (v / 32768) (xst M1 x k.toNat (v % 32768)) rfl (by omega) (by omega) (fun q hq => (xst_row hq).trans (hfr q hq)) (by intro j hj; rw [xst_eq]; by_cases e : j = k.toNat; rw [if_pos ⟨rfl, e⟩]; omega; rw [if_neg (fun h => e h.2)]; exact hlo j (by omega)) (fun j hj => (xst_nq (by omega)).trans (hhi j (by omega))) (by rw [show (k + 1).toNat = k.toNat + 1 by omega]; exact vB_step (a := M x k.toNat) (v := v) (by rw [hv, hhi k.toNat (Nat.le_refl _)]) rfl rfl hval)
  refine x_sub [(0, xR x), (1, xI m), (2, xI f), (3, xI 0), (4, xI 0)] [2, 3, 4, 1, 0] rfl ?_
  exact loop5 _ 0 0 M rfl (by omega) (by omega) (fun _ _ => rfl) (fun j hj => by omega) (fun _ _ => rfl) (by show (0 : Int) + 0 * 32768 ^ 0 = 0 * f; omega)
theorem pow_1 (a : Int) {k : Int} (h : 0 ≤ k) (S : Int) : S * a ^ (k + 1).toNat = S * a ^ k.toNat * a := by
  rw [show (k + 1).toNat = k.toNat + 1 by omega, Int.pow_succ, Int.mul_assoc]
set_option maxRecDepth 100000 in
set_option maxHeartbeats 4000000 in
theorem kX7_powers (D : xD) (l : Launch) {n : Nat} {T : xT} {M : xM} (x : Nat) (a p b q : Int) (hxn : x < n) (hxk : (T x).1 = 9) (hxl : (T x).2.1 = 64) (ha : 1 ≤ a ∧ a ≤ 1024) (hb : 1 ≤ b ∧ b ≤ 1024) (hp : 0 ≤ p ∧ p ≤ 20) (hq : 0 ≤ q ∧ q ≤ 20) : xC D l uX7_powers 1 25 0 0 [xR x, xI a, xI p, xI b, xI q] n T M (xPV n T (fun M2 => (∀ q, q ≠ x → M2 q = M q) ∧ dg6 (M2 x) ∧ vB (M2 x) 64 = a ^ p.toNat * b ^ q.toNat)) := by
  refine x_met uX7_powers (by decide) (Nat.le_of_ble_eq_true rfl) ?_
  intro Γ G Rt _
  have G : xG Γ RX7 cX7_powers 7 1 25 0 0 := G
  have Rt : xRt Γ (xPV n T (fun M2 => (∀ q, q ≠ x → M2 q = M q) ∧ dg6 (M2 x) ∧ vB (M2 x) 64 = a ^ p.toNat * b ^ q.toNat)) none 0 0 := Rt
  show xX Γ 0 0 n T 0 [(0, xR x), (1, xI a), (2, xI p), (3, xI b), (4, xI q)] [] M
  refine x_iconst G (by decide) dX7_powers_0 ?_
  refine x_istore G [(5, xI 0), (0, xR x), (1, xI a), (2, xI p), (3, xI b), (4, xI q)] (by decide) rfl dX7_powers_1 ?_
  have loop3 : ∀ (d : Nat) (k : Int) (M0 : xM), (64 - k).toNat = d → (0 ≤ k ∧ k ≤ 64) → (∀ q, q ≠ x → M0 q = M q) → (∀ j, j < k.toNat → M0 x j = 0) → xX Γ 0 0 n T 3 [(0, xR x), (1, xI a), (2, xI p), (3, xI b), (4, xI q), (5, xI k)] [] M0 := by
    intro d
    induction d using Nat.strongRecOn with
    | ind d ih3 =>
    intro k M0 hd3 hk hf0 hz0
    refine x_iload G 5 rfl dX7_powers_3 ?_
    refine x_bipush G (by decide) dX7_powers_5 ?_
    refine x_icmp_ge G 21 (by decide) dX7_powers_7 (fun c7 => ?_) (fun c7 => ?_)
    · skip
      refine x_aload_n G 0 rfl rfl dX7_powers_21 ?_
      refine x_iconst G (by decide) dX7_powers_22 ?_
      refine x_iconst G (by decide) dX7_powers_23 ?_
      refine x_iast G hxn hxk (hxl) (by omega) (by omega) dX7_powers_24 ?_
      show xX Γ 0 0 n T 25 [(0, xR x), (1, xI a), (2, xI p), (3, xI b), (4, xI q), (5, xI k)] [] (xst M0 x 0 1)
      refine x_iconst G (by decide) dX7_powers_25 ?_
      refine x_istore G [(5, xI 1), (0, xR x), (1, xI a), (2, xI p), (3, xI b), (4, xI q)] (by decide) rfl dX7_powers_26 ?_
      refine x_iconst G (by decide) dX7_powers_28 ?_
      refine x_istore G [(6, xI 0), (5, xI 1), (0, xR x), (1, xI a), (2, xI p), (3, xI b), (4, xI q)] (by decide) rfl dX7_powers_29 ?_
      have loop31 : ∀ (d : Nat) (m : Int) (k : Int) (M1 : xM), (p - k).toNat = d → (0 ≤ k ∧ k ≤ p) → (1 ≤ m ∧ m ≤ k + 1) → (∀ q, q ≠ x → M1 q = M q) → (dg6 (M1 x)) → (∀ j, m.toNat ≤ j → j < 64 → M1 x j = 0) → (vB (M1 x) 64 = a ^ k.toNat) → xX Γ 0 0 n T 31 [(0, xR x), (1, xI a), (2, xI p), (3, xI b), (4, xI q), (5, xI m), (6, xI k)] [] M1 := by
        intro d
        induction d using Nat.strongRecOn with
        | ind d ih31 =>
        intro m k M1 hd31 hk hm hfr hd hz hval
        refine x_iload G 6 rfl dX7_powers_31 ?_
        refine x_iload_n G 2 rfl rfl dX7_powers_33 ?_
        refine x_icmp_ge G 52 (by decide) dX7_powers_34 (fun c34 => ?_) (fun c34 => ?_)
        · skip
          refine x_iconst G (by decide) dX7_powers_52 ?_
          refine x_istore G [(6, xI 0), (0, xR x), (1, xI a), (2, xI p), (3, xI b), (4, xI q), (5, xI m)] (by decide) rfl dX7_powers_53 ?_
          have loop55 : ∀ (d : Nat) (m : Int) (k : Int) (M1 : xM), (q - k).toNat = d → (0 ≤ k ∧ k ≤ q) → (1 ≤ m ∧ m ≤ p + k + 1) → (∀ q, q ≠ x → M1 q = M q) → (dg6 (M1 x)) → (∀ j, m.toNat ≤ j → j < 64 → M1 x j = 0) → (vB (M1 x) 64 = a ^ p.toNat * b ^ k.toNat) → xX Γ 0 0 n T 55 [(0, xR x), (1, xI a), (2, xI p), (3, xI b), (4, xI q), (5, xI m), (6, xI k)] [] M1 := by
            intro d
            induction d using Nat.strongRecOn with
            | ind d ih55 =>
            intro m k M1 hd55 hk hm hfr hd hz hval
            refine x_iload G 6 rfl dX7_powers_55 ?_
            refine x_iload G 4 rfl dX7_powers_57 ?_
            refine x_icmp_ge G 77 (by decide) dX7_powers_59 (fun c59 => ?_) (fun c59 => ?_)
            · skip
              exact x_vret G Rt dX7_powers_77 ⟨rfl, rfl, rfl, ⟨hfr, hd, by rw [hval, show k = q by omega]⟩⟩
            · skip
              refine x_aload_n G 0 rfl rfl dX7_powers_62 ?_
              refine x_iload G 5 rfl dX7_powers_63 ?_
              refine x_iload_n G 3 rfl rfl dX7_powers_65 ?_
              refine x_callSI G [] [xR x, xI m, xI b] hy_X7_times ht_X7_times ml_X7_73 rfl rfl (kX7_times _ _ x m b hxn hxk hxl (by omega) (by omega) hd hz) (by decide) (by decide) (Nat.le_of_ble_eq_true rfl) dX7_powers_66 (fun z66 M66 h66 => ?_)
              have hz66 := h66.1
              refine x_istore G [(5, xI z66), (0, xR x), (1, xI a), (2, xI p), (3, xI b), (4, xI q), (6, xI k)] (by decide) rfl dX7_powers_69 ?_
              refine x_iinc G [(6, xI (k + 1)), (5, xI z66), (0, xR x), (1, xI a), (2, xI p), (3, xI b), (4, xI q)] 6 rfl (by decide) (by omega) rfl dX7_powers_71 ?_
              refine x_goto G 55 (by decide) dX7_powers_74 ?_
              refine x_sub [(0, xR x), (1, xI a), (2, xI p), (3, xI b), (4, xI q), (5, xI z66), (6, xI (k + 1))] [2, 3, 4, 5, 6, 1, 0] rfl ?_
              exact ih55 _ (by omega) z66 (k + 1) M66 rfl (by omega) (by omega) (fun q hq => (h66.2.1 q hq).trans (hfr q hq)) (h66.2.2.1) (h66.2.2.2.1) (by rw [h66.2.2.2.2, hval, pow_1 b hk.1])
          refine x_sub [(0, xR x), (1, xI a), (2, xI p), (3, xI b), (4, xI q), (5, xI m), (6, xI 0)] [1, 2, 3, 4, 5, 6, 0] rfl ?_
          exact loop55 _ m 0 M1 rfl (by omega) (by omega) (hfr) (hd) (hz) (by rw [hval, show k = p by omega]; show _ = _ * b ^ 0; rw [Int.pow_zero, Int.mul_one])
        · skip
          refine x_aload_n G 0 rfl rfl dX7_powers_37 ?_
          refine x_iload G 5 rfl dX7_powers_38 ?_
          refine x_iload_n G 1 rfl rfl dX7_powers_40 ?_
          refine x_callSI G [] [xR x, xI m, xI a] hy_X7_times ht_X7_times ml_X7_73 rfl rfl (kX7_times _ _ x m a hxn hxk hxl (by omega) (by omega) hd hz) (by decide) (by decide) (Nat.le_of_ble_eq_true rfl) dX7_powers_41 (fun z41 M41 h41 => ?_)
          have hz41 := h41.1
          refine x_istore G [(5, xI z41), (0, xR x), (1, xI a), (2, xI p), (3, xI b), (4, xI q), (6, xI k)] (by decide) rfl dX7_powers_44 ?_
          refine x_iinc G [(6, xI (k + 1)), (5, xI z41), (0, xR x), (1, xI a), (2, xI p), (3, xI b), (4, xI q)] 6 rfl (by decide) (by omega) rfl dX7_powers_46 ?_
          refine x_goto G 31 (by decide) dX7_powers_49 ?_
          refine x_sub [(0, xR x), (1, xI a), (2, xI p), (3, xI b), (4, xI q), (5, xI z41), (6, xI (k + 1))] [2, 3, 4, 5, 6, 1, 0] rfl ?_
          exact ih31 _ (by omega) z41 (k + 1) M41 rfl (by omega) (by omega) (fun q hq => (h41.2.1 q hq).trans (hfr q hq)) (h41.2.2.1) (h41.2.2.2.1) (by rw [h41.2.2.2.2, hval, show (k + 1).toNat = k.toNat + 1 by omega, Int.pow_succ])
      refine x_sub [(0, xR x), (1, xI a), (2, xI p), (3, xI b), (4, xI q), (5, xI 1), (6, xI 0)] [2, 3, 4, 5, 6, 1, 0] rfl ?_
      exact loop31 _ 1 0 (xst M0 x 0 1) rfl (by omega) (by omega) (fun q hq => (xst_row hq).trans (hf0 q hq)) (fun j hj => by rw [xst_eq]; split; omega; rw [hz0 j (by omega)]; omega) (fun j h1 h2 => by rw [xst_nq (by omega)]; exact hz0 j (by omega)) (by rw [vB_hi (m := 1) (by decide) (fun j h1 h2 => by rw [xst_nq (by omega)]; exact hz0 j (by omega))]; show (0 : Int) + xst M0 x 0 1 x 0 * 32768 ^ 0 = a ^ 0; rw [xst_same, Int.pow_zero, Int.pow_zero]; rfl)
    · skip
      refine x_aload_n G 0 rfl rfl dX7_powers_10 ?_
      refine x_iload G 5 rfl dX7_powers_11 ?_
      refine x_iconst G (by decide) dX7_powers_13 ?_
      refine x_iast G hxn hxk (hxl) (by omega) (by omega) dX7_powers_14 ?_
      refine x_iinc G [(5, xI (k + 1)), (0, xR x), (1, xI a), (2, xI p), (3, xI b), (4, xI q)] 5 rfl (by decide) (by omega) rfl dX7_powers_15 ?_
      refine x_goto G 3 (by decide) dX7_powers_18 ?_
      refine x_sub [(0, xR x), (1, xI a), (2, xI p), (3, xI b), (4, xI q), (5, xI (k + 1))] [1, 2, 3, 4, 5, 0] rfl ?_
      exact ih3 _ (by omega) (k + 1) (xst M0 x k.toNat 0) rfl (by omega) (fun q hq => (xst_row hq).trans (hf0 q hq)) (by intro j hj; rw [xst_eq]; split; rfl; exact hz0 j (by omega))
  refine x_sub [(0, xR x), (1, xI a), (2, xI p), (3, xI b), (4, xI q), (5, xI 0)] [1, 2, 3, 4, 5, 0] rfl ?_
  exact loop3 _ 0 M rfl (by omega) (fun _ _ => rfl) (fun j hj => by omega)
set_option maxRecDepth 100000 in
set_option maxHeartbeats 4000000 in
theorem kX7_compared (D : xD) (l : Launch) {n : Nat} {T : xT} {M : xM}  (hY : LayOK n T) (h1 : dg6 (M 200)) (h2 : dg6 (M 201)) : xC D l uX7_compared 0 0 0 0 [xR 195] n T M (xPp n T M (xcmp (vB (M 200) 64) (vB (M 201) 64))) := by
  refine x_met uX7_compared (by decide) (Nat.le_of_ble_eq_true rfl) ?_
  intro Γ G Rt _
  have G : xG Γ RX7 cX7_compared 2 0 0 0 0 := G
  have Rt : xRt Γ (xPp n T M (xcmp (vB (M 200) 64) (vB (M 201) 64))) (some .int) 0 0 := Rt
  show xX Γ 0 0 n T 0 [(0, xR 195)] [] M
  refine x_bipush G (by decide) dX7_compared_0 ?_
  refine x_istore_n G [(1, xI 63), (0, xR 195)] rfl (by decide) rfl dX7_compared_2 ?_
  have loop3 : ∀ (d : Nat) (k : Int), (k + 1).toNat = d → (-1 ≤ k ∧ k ≤ 63) → (∀ j : Nat, k + 1 ≤ j → j < 64 → M 200 j = M 201 j) → xX Γ 0 0 n T 3 [(0, xR 195), (1, xI k)] [] M := by
    intro d
    induction d using Nat.strongRecOn with
    | ind d ih3 =>
    intro k hd3 hk he
    refine x_iload_n G 1 rfl rfl dX7_compared_3 ?_
    refine x_if_lt G 49 (by decide) dX7_compared_4 (fun c4 => ?_) (fun c4 => ?_)
    · skip
      refine x_iconst G (by decide) dX7_compared_49 ?_
      exact x_iret G Rt dX7_compared_50 ⟨rfl, rfl, congrArg (fun z => some (xI z)) ((xcmp_eq.mpr (vB_cg (fun j hj => he j (by omega) hj))).symm), rfl⟩
    · skip
      refine x_aload_n G 0 rfl rfl dX7_compared_7 ?_
      refine x_get G (xR 200) xf7_5 lk_X7_23 (ly_n hY 195 (by decide)) (ly_k hY 195 (by decide)) (Or.inr ⟨rfl, _, (ly_r hY 195 5 (by decide) (by decide)), rfl⟩) dX7_compared_8 ?_
      refine x_iload_n G 1 rfl rfl dX7_compared_11 ?_
      refine x_iald G (ly_n hY 200 (by decide)) (ly_k hY 200 (by decide)) (show _ = 64 from ly_l hY 200 (by decide)) (by omega) (by omega) dX7_compared_12 ?_
      refine x_aload_n G 0 rfl rfl dX7_compared_13 ?_
      refine x_get G (xR 201) xf7_6 lk_X7_26 (ly_n hY 195 (by decide)) (ly_k hY 195 (by decide)) (Or.inr ⟨rfl, _, (ly_r hY 195 6 (by decide) (by decide)), rfl⟩) dX7_compared_14 ?_
      refine x_iload_n G 1 rfl rfl dX7_compared_17 ?_
      refine x_iald G (ly_n hY 201 (by decide)) (ly_k hY 201 (by decide)) (show _ = 64 from ly_l hY 201 (by decide)) (by omega) (by omega) dX7_compared_18 ?_
      refine x_icmp_eq G 43 (by decide) dX7_compared_19 (fun c19 => ?_) (fun c19 => ?_)
      · skip
        refine x_iinc G [(1, xI (k + (-1))), (0, xR 195)] 1 rfl (by decide) (by omega) rfl dX7_compared_43 ?_
        refine x_goto G 3 (by decide) dX7_compared_46 ?_
        refine x_sub [(0, xR 195), (1, xI (k + (-1)))] [1, 0] rfl ?_
        exact ih3 _ (by omega) (k + (-1)) rfl (by omega) (by intro j a b; by_cases e : j = k.toNat; rw [e]; omega; exact he j (by omega) b)
      · skip
        refine x_aload_n G 0 rfl rfl dX7_compared_22 ?_
        refine x_get G (xR 200) xf7_5 lk_X7_23 (ly_n hY 195 (by decide)) (ly_k hY 195 (by decide)) (Or.inr ⟨rfl, _, (ly_r hY 195 5 (by decide) (by decide)), rfl⟩) dX7_compared_23 ?_
        refine x_iload_n G 1 rfl rfl dX7_compared_26 ?_
        refine x_iald G (ly_n hY 200 (by decide)) (ly_k hY 200 (by decide)) (show _ = 64 from ly_l hY 200 (by decide)) (by omega) (by omega) dX7_compared_27 ?_
        refine x_aload_n G 0 rfl rfl dX7_compared_28 ?_
        refine x_get G (xR 201) xf7_6 lk_X7_26 (ly_n hY 195 (by decide)) (ly_k hY 195 (by decide)) (Or.inr ⟨rfl, _, (ly_r hY 195 6 (by decide) (by decide)), rfl⟩) dX7_compared_29 ?_
        refine x_iload_n G 1 rfl rfl dX7_compared_32 ?_
        refine x_iald G (ly_n hY 201 (by decide)) (ly_k hY 201 (by decide)) (show _ = 64 from ly_l hY 201 (by decide)) (by omega) (by omega) dX7_compared_33 ?_
        refine x_icmp_ge G 41 (by decide) dX7_compared_34 (fun c34 => ?_) (fun c34 => ?_)
        · skip
          refine x_iconst G (by decide) dX7_compared_41 ?_
          exact x_iret G Rt dX7_compared_42 ⟨rfl, rfl, congrArg (fun z => some (xI z)) (by (have he2 : ∀ j, k.toNat + 1 ≤ j → j < 64 → M 200 j = M 201 j := fun j a b => he j (by omega) b); first | (have := vB_lt (k := k.toNat) (by omega) h1 h2 he2 (by omega); unfold xcmp; rw [if_neg (by omega), if_neg (by omega)]) | (have := vB_lt (k := k.toNat) (by omega) h2 h1 (fun j a b => (he2 j a b).symm) (by omega); unfold xcmp; rw [if_pos (by omega)])), rfl⟩
        · skip
          refine x_iconst G (by decide) dX7_compared_37 ?_
          refine x_goto G 42 (by decide) dX7_compared_38 ?_
          exact x_iret G Rt dX7_compared_42 ⟨rfl, rfl, congrArg (fun z => some (xI z)) (by (have he2 : ∀ j, k.toNat + 1 ≤ j → j < 64 → M 200 j = M 201 j := fun j a b => he j (by omega) b); first | (have := vB_lt (k := k.toNat) (by omega) h1 h2 he2 (by omega); unfold xcmp; rw [if_neg (by omega), if_neg (by omega)]) | (have := vB_lt (k := k.toNat) (by omega) h2 h1 (fun j a b => (he2 j a b).symm) (by omega); unfold xcmp; rw [if_pos (by omega)])), rfl⟩
  refine x_sub [(0, xR 195), (1, xI 63)] [1, 0] rfl ?_
  exact loop3 _ 63 rfl (by omega) (fun j a b => by omega)
set_option maxRecDepth 100000 in
set_option maxHeartbeats 4000000 in
theorem kX7_comparedKeys (D : xD) (l : Launch) {n : Nat} {T : xT} {M : xM} (l1 w1 l2 w2 : Int) (hY : LayOK n T) (h1 : 1 ≤ l1 ∧ l1 ≤ 1023) (h2 : 1 ≤ w1 ∧ w1 ≤ 20) (h3 : 1 ≤ l2 ∧ l2 ≤ 1023) (h4 : 1 ≤ w2 ∧ w2 ≤ 20) : xC D l uX7_comparedKeys 2 51 0 0 [xR 195, xI l1, xI w1, xI l2, xI w2] n T M (xPI n T (fun z M2 => z = kc l1 w1 l2 w2 ∧ xof [200, 201] M M2)) := by
  refine x_met uX7_comparedKeys (by decide) (Nat.le_of_ble_eq_true rfl) ?_
  intro Γ G Rt _
  have G : xG Γ RX7 cX7_comparedKeys 5 2 51 0 0 := G
  have Rt : xRt Γ (xPI n T (fun z M2 => z = kc l1 w1 l2 w2 ∧ xof [200, 201] M M2)) (some .int) 0 0 := Rt
  show xX Γ 0 0 n T 0 [(0, xR 195), (1, xI l1), (2, xI w1), (3, xI l2), (4, xI w2)] [] M
  refine x_aload_n G 0 rfl rfl dX7_comparedKeys_0 ?_
  refine x_get G (xR 200) xf7_5 lk_X7_23 (ly_n hY 195 (by decide)) (ly_k hY 195 (by decide)) (Or.inr ⟨rfl, _, (ly_r hY 195 5 (by decide) (by decide)), rfl⟩) dX7_comparedKeys_1 ?_
  refine x_iload_n G 1 rfl rfl dX7_comparedKeys_4 ?_
  refine x_iload G 4 rfl dX7_comparedKeys_5 ?_
  refine x_sipush G (by decide) dX7_comparedKeys_7 ?_
  refine x_iload_n G 2 rfl rfl dX7_comparedKeys_10 ?_
  refine x_callSV G [] [xR 200, xI l1, xI w2, xI 1024, xI w1] hy_X7_powers ht_X7_powers ml_X7_78 rfl rfl (kX7_powers _ _ 200 l1 w2 1024 w1 (ly_n hY 200 (by decide)) (ly_k hY 200 (by decide)) (show _ = 64 from ly_l hY 200 (by decide)) (by omega) (by omega) (by omega) (by omega)) (by decide) (by decide) (Nat.le_of_ble_eq_true rfl) dX7_comparedKeys_11 (fun M11 h11 => ?_)
  refine x_aload_n G 0 rfl rfl dX7_comparedKeys_14 ?_
  refine x_get G (xR 201) xf7_6 lk_X7_26 (ly_n hY 195 (by decide)) (ly_k hY 195 (by decide)) (Or.inr ⟨rfl, _, (ly_r hY 195 6 (by decide) (by decide)), rfl⟩) dX7_comparedKeys_15 ?_
  refine x_iload_n G 3 rfl rfl dX7_comparedKeys_18 ?_
  refine x_iload_n G 2 rfl rfl dX7_comparedKeys_19 ?_
  refine x_sipush G (by decide) dX7_comparedKeys_20 ?_
  refine x_iload G 4 rfl dX7_comparedKeys_23 ?_
  refine x_callSV G [] [xR 201, xI l2, xI w1, xI 1024, xI w2] hy_X7_powers ht_X7_powers ml_X7_78 rfl rfl (kX7_powers _ _ 201 l2 w1 1024 w2 (ly_n hY 201 (by decide)) (ly_k hY 201 (by decide)) (show _ = 64 from ly_l hY 201 (by decide)) (by omega) (by omega) (by omega) (by omega)) (by decide) (by decide) (Nat.le_of_ble_eq_true rfl) dX7_comparedKeys_25 (fun M25 h25 => ?_)
  refine x_aload_n G 0 rfl rfl dX7_comparedKeys_28 ?_
  refine x_callVp G [] [] rfl (by decide) (ly_n hY 195 (by decide)) (ly_k hY 195 (by decide)) hy_X7_compared hi_X7_compared hs_X7_compared ml_X7_82 rfl rfl (kX7_compared _ _ hY (by rw [h25.1 200 (by decide)]; exact h11.2.1) h25.2.1) (by decide) (by decide) (Nat.le_of_ble_eq_true rfl) dX7_comparedKeys_29 ?_
  exact x_iret G Rt dX7_comparedKeys_32 ⟨rfl, rfl, _, rfl, ⟨by rw [h25.2.2, h25.1 200 (by decide), h11.2.2]; rfl, fun k hk => by simp at hk; rw [h25.1 k (by omega), h11.1 k (by omega)]⟩⟩
set_option maxRecDepth 100000 in
set_option maxHeartbeats 4000000 in
theorem kX7_isAhead (D : xD) (l : Launch) {n : Nat} {T : xT} {M : xM} (V : xM) (i lo w j : Int) (hY : LayOK n T) (hN : mrel (M 196) V) (hv : VOK V) (hl : 1 ≤ lo ∧ lo ≤ 1023) (hw : 1 ≤ w ∧ w ≤ 20) (hj : isI V j) : xC D l uX7_isAhead 3 75 0 0 [xR 195, xI i, xI lo, xI w, xI j] n T M (xPI n T (fun z M2 => z = b2i (0 < kc lo w (V 7 j.toNat) (V 6 j.toNat) ∨ (kc lo w (V 7 j.toNat) (V 6 j.toNat) = 0 ∧ i < j)) ∧ xof [200, 201] M M2)) := by
  refine x_met uX7_isAhead (by decide) (Nat.le_of_ble_eq_true rfl) ?_
  intro Γ G Rt _
  have G : xG Γ RX7 cX7_isAhead 6 3 75 0 0 := G
  have Rt : xRt Γ (xPI n T (fun z M2 => z = b2i (0 < kc lo w (V 7 j.toNat) (V 6 j.toNat) ∨ (kc lo w (V 7 j.toNat) (V 6 j.toNat) = 0 ∧ i < j)) ∧ xof [200, 201] M M2)) (some .boolean) 0 0 := Rt
  show xX Γ 0 0 n T 0 [(0, xR 195), (1, xI i), (2, xI lo), (3, xI w), (4, xI j)] [] M
  have hc := ok_c hv
  have hjt := ok_i hv hj.1 hj.2
  refine x_aload_n G 0 rfl rfl dX7_isAhead_0 ?_
  refine x_iload_n G 2 rfl rfl dX7_isAhead_1 ?_
  refine x_iload_n G 3 rfl rfl dX7_isAhead_2 ?_
  refine x_aload_n G 0 rfl rfl dX7_isAhead_3 ?_
  refine x_iload G 4 rfl dX7_isAhead_4 ?_
  refine x_iconst G (by decide) dX7_isAhead_6 ?_
  refine x_callVp G [xI w, xI lo, xR 195] [xI j, xI 3] rfl (by decide) (ly_n hY 195 (by decide)) (ly_k hY 195 (by decide)) hy_X7_item hi_X7_item hs_X7_item ml_X7_58 rfl rfl (kX7_item_3 _ _ V j hY hN hv (by omega)) (by decide) (by decide) (Nat.le_of_ble_eq_true rfl) dX7_isAhead_7 ?_
  refine x_aload_n G 0 rfl rfl dX7_isAhead_10 ?_
  refine x_iload G 4 rfl dX7_isAhead_11 ?_
  refine x_iconst G (by decide) dX7_isAhead_13 ?_
  refine x_callVp G [xI (V 7 j.toNat), xI w, xI lo, xR 195] [xI j, xI 2] rfl (by decide) (ly_n hY 195 (by decide)) (ly_k hY 195 (by decide)) hy_X7_item hi_X7_item hs_X7_item ml_X7_58 rfl rfl (kX7_item_2 _ _ V j hY hN hv (by omega)) (by decide) (by decide) (Nat.le_of_ble_eq_true rfl) dX7_isAhead_14 ?_
  refine x_callVI G [] [xI lo, xI w, xI (V 7 j.toNat), xI (V 6 j.toNat)] rfl (by decide) (ly_n hY 195 (by decide)) (ly_k hY 195 (by decide)) hy_X7_comparedKeys hi_X7_comparedKeys hs_X7_comparedKeys ml_X7_86 rfl rfl (kX7_comparedKeys _ _ lo w (V 7 j.toNat) (V 6 j.toNat) hY (by omega) (by omega) (by omega) (by omega)) (by decide) (by decide) (Nat.le_of_ble_eq_true rfl) dX7_isAhead_17 (fun z17 M17 h17 => ?_)
  rw [h17.1]
  refine x_istore G [(5, xI (kc lo w (V 7 j.toNat) (V 6 j.toNat))), (0, xR 195), (1, xI i), (2, xI lo), (3, xI w), (4, xI j)] (by decide) rfl dX7_isAhead_20 ?_
  refine x_iload G 0 rfl dX7_isAhead_22 ?_
  refine x_if_gt G 38 (by decide) dX7_isAhead_24 (fun c24 => ?_) (fun c24 => ?_)
  · skip
    refine x_iconst G (by decide) dX7_isAhead_38 ?_
    refine x_goto G 43 (by decide) dX7_isAhead_39 ?_
    exact x_zret G (by omega) Rt dX7_isAhead_43 ⟨rfl, rfl, _, rfl, ⟨by first | exact (b2i_t (by omega)).symm | exact (b2i_f (by omega)).symm, h17.2⟩⟩
  · skip
    refine x_iload G 0 rfl dX7_isAhead_27 ?_
    refine x_if_ne G 42 (by decide) dX7_isAhead_29 (fun c29 => ?_) (fun c29 => ?_)
    · skip
      refine x_iconst G (by decide) dX7_isAhead_42 ?_
      exact x_zret G (by omega) Rt dX7_isAhead_43 ⟨rfl, rfl, _, rfl, ⟨by first | exact (b2i_t (by omega)).symm | exact (b2i_f (by omega)).symm, h17.2⟩⟩
    · skip
      refine x_iload_n G 2 rfl rfl dX7_isAhead_32 ?_
      refine x_iload G 5 rfl dX7_isAhead_33 ?_
      refine x_icmp_ge G 42 (by decide) dX7_isAhead_35 (fun c35 => ?_) (fun c35 => ?_)
      · skip
        refine x_iconst G (by decide) dX7_isAhead_42 ?_
        exact x_zret G (by omega) Rt dX7_isAhead_43 ⟨rfl, rfl, _, rfl, ⟨by first | exact (b2i_t (by omega)).symm | exact (b2i_f (by omega)).symm, h17.2⟩⟩
      · skip
        refine x_iconst G (by decide) dX7_isAhead_38 ?_
        refine x_goto G 43 (by decide) dX7_isAhead_39 ?_
        exact x_zret G (by omega) Rt dX7_isAhead_43 ⟨rfl, rfl, _, rfl, ⟨by first | exact (b2i_t (by omega)).symm | exact (b2i_f (by omega)).symm, h17.2⟩⟩
set_option maxRecDepth 100000 in
set_option maxHeartbeats 4000000 in
theorem kX7_areInOrder (D : xD) (l : Launch) {n : Nat} {T : xT} {M : xM} (V : xM) (i j : Int) (hY : LayOK n T) (hN : mrel (M 196) V) (hv : VOK V) (hi : isI V i) (hj : isI V j) : xC D l uX7_areInOrder 4 100 0 0 [xR 195, xI i, xI j] n T M (xPI n T (fun z M2 => z = b2i (ahd V i j) ∧ xof [200, 201] M M2)) := by
  refine x_met uX7_areInOrder (by decide) (Nat.le_of_ble_eq_true rfl) ?_
  intro Γ G Rt _
  have G : xG Γ RX7 cX7_areInOrder 3 4 100 0 0 := G
  have Rt : xRt Γ (xPI n T (fun z M2 => z = b2i (ahd V i j) ∧ xof [200, 201] M M2)) (some .boolean) 0 0 := Rt
  show xX Γ 0 0 n T 0 [(0, xR 195), (1, xI i), (2, xI j)] [] M
  have hc := ok_c hv
  have hit := ok_i hv hi.1 hi.2
  refine x_aload_n G 0 rfl rfl dX7_areInOrder_0 ?_
  refine x_iload_n G 1 rfl rfl dX7_areInOrder_1 ?_
  refine x_aload_n G 0 rfl rfl dX7_areInOrder_2 ?_
  refine x_iload_n G 1 rfl rfl dX7_areInOrder_3 ?_
  refine x_iconst G (by decide) dX7_areInOrder_4 ?_
  refine x_callVp G [xI i, xR 195] [xI i, xI 3] rfl (by decide) (ly_n hY 195 (by decide)) (ly_k hY 195 (by decide)) hy_X7_item hi_X7_item hs_X7_item ml_X7_58 rfl rfl (kX7_item_3 _ _ V i hY hN hv (by omega)) (by decide) (by decide) (Nat.le_of_ble_eq_true rfl) dX7_areInOrder_5 ?_
  refine x_aload_n G 0 rfl rfl dX7_areInOrder_8 ?_
  refine x_iload_n G 1 rfl rfl dX7_areInOrder_9 ?_
  refine x_iconst G (by decide) dX7_areInOrder_10 ?_
  refine x_callVp G [xI (V 7 i.toNat), xI i, xR 195] [xI i, xI 2] rfl (by decide) (ly_n hY 195 (by decide)) (ly_k hY 195 (by decide)) hy_X7_item hi_X7_item hs_X7_item ml_X7_58 rfl rfl (kX7_item_2 _ _ V i hY hN hv (by omega)) (by decide) (by decide) (Nat.le_of_ble_eq_true rfl) dX7_areInOrder_11 ?_
  refine x_iload_n G 2 rfl rfl dX7_areInOrder_14 ?_
  refine x_callVI G [] [xI i, xI (V 7 i.toNat), xI (V 6 i.toNat), xI j] rfl (by decide) (ly_n hY 195 (by decide)) (ly_k hY 195 (by decide)) hy_X7_isAhead hi_X7_isAhead hs_X7_isAhead ml_X7_90 rfl rfl (kX7_isAhead _ _ V i (V 7 i.toNat) (V 6 i.toNat) j hY hN hv (by omega) (by omega) (by omega)) (by decide) (by decide) (Nat.le_of_ble_eq_true rfl) dX7_areInOrder_15 (fun z15 M15 h15 => ?_)
  rw [h15.1]
  exact x_zret G b2i_01 Rt dX7_areInOrder_18 ⟨rfl, rfl, _, rfl, ⟨rfl, h15.2⟩⟩
