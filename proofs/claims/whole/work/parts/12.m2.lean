theorem xst_nq {M : xM} {k j a b : Nat} {z : Int} (h : a ≠ k ∨ b ≠ j) : xst M k j z a b = M a b := by rw [xst_eq, if_neg (by omega)]
theorem xst_same (M : xM) (k j : Nat) (z : Int) : xst M k j z k j = z := by rw [xst_eq, if_pos ⟨rfl, rfl⟩]
theorem xst_row {M : xM} {k j a : Nat} {z : Int} (h : a ≠ k) : xst M k j z a = M a := by unfold xst; rw [if_neg h]
abbrev nm5 (f : Nat → Int) : Prop := (0 ≤ f 0 ∧ f 0 < 1125899906842624) ∧ (0 ≤ f 1 ∧ f 1 < 1125899906842624) ∧ (0 ≤ f 2 ∧ f 2 < 1125899906842624) ∧ (0 ≤ f 3 ∧ f 3 < 1125899906842624) ∧ (0 ≤ f 4 ∧ f 4 < 1125899906842624)
def kv5 (f : Nat → Int) : Int := f 0 + 1125899906842624 * f 1 + 1267650600228229401496703205376 * f 2 + 1427247692705959881058285969449495136382746624 * f 3 + 1606938044258990275541962092341162602522202993782792835301376 * f 4
theorem kv5_nn {f : Nat → Int} (h : nm5 f) : 0 ≤ kv5 f := by unfold kv5; omega
theorem km5 {r f : Int} (h1 : 0 ≤ r) (h2 : r < 1125899906842624) (h3 : 1 ≤ f) (h4 : f ≤ 1024) : 0 ≤ r * f ∧ r * f ≤ 1152921504606845952 := by
  refine ⟨Int.mul_nonneg h1 (by omega), ?_⟩
  have := Int.mul_le_mul (show r ≤ 1125899906842623 by omega) h4 (by omega) (by omega)
  omega
theorem x_land50 {p : Int} (h0 : 0 ≤ p) (h1 : p < 9223372036854775808) : Int64.ofInt p &&& Int64.ofInt 1125899906842623 = Int64.ofInt (p % 1125899906842624) := by
  obtain ⟨k, rfl⟩ := Int.eq_ofNat_of_zero_le h0
  have e1 : Int64.ofInt (k : Int) = lN k := rfl
  have e2 : Int64.ofInt 1125899906842623 = lN (2 ^ 50 - 1) := rfl
  have e3 : ((k : Int) % 1125899906842624) = ((k % 1125899906842624 : Nat) : Int) := by omega
  rw [e1, e2, e3]
  have e4 : Int64.ofInt ((k % 1125899906842624 : Nat) : Int) = lN (k % 2 ^ 50) := rfl
  rw [e4]
  exact fb_maskL k 50
theorem x_lshr50 {p : Int} (h0 : 0 ≤ p) (h1 : p < 4611686018427387904) : Int64.ofInt p >>> ((Int32.ofInt 50).toInt64 &&& 63) = Int64.ofInt (p / 1125899906842624) := by
  obtain ⟨k, rfl⟩ := Int.eq_ofNat_of_zero_le h0
  have e3 : ((k : Int) / 1125899906842624) = ((k / 1125899906842624 : Nat) : Int) := by omega
  rw [e3]
  exact pf_shr (a := k) (d := 50) (by decide) (by omega)
theorem ipow_pos {f : Int} (h : 1 ≤ f) (a : Nat) : 1 ≤ f ^ a := by
  induction a with
  | zero => simp
  | succ a ih =>
    rw [Int.pow_succ]
    have := Int.mul_le_mul ih h (by omega) (by omega)
    omega
theorem ipow_mono {f : Int} (h : 1 ≤ f) {a b : Nat} (hab : a ≤ b) : f ^ a ≤ f ^ b := by
  obtain ⟨c, rfl⟩ := Nat.le.dest hab
  rw [Int.pow_add]
  have h1 := ipow_pos h a
  have h2 := ipow_pos h c
  have := Int.mul_le_mul (Int.le_refl (f ^ a)) h2 (by omega) (by omega)
  omega
theorem ipow_le {f g : Int} (h0 : 0 ≤ f) (h : f ≤ g) (a : Nat) : f ^ a ≤ g ^ a := by
  induction a with
  | zero => simp
  | succ a ih =>
    rw [Int.pow_succ, Int.pow_succ]
    exact Int.mul_le_mul ih h h0 (Int.pow_nonneg (by omega))
theorem mul5 {r0 r1 r2 r3 r4 f p0 p1 p2 p3 p4 n0 n1 n2 n3 n4 c0 c1 c2 c3 c4 : Int} (hp0 : p0 = r0 * f + 0) (hp1 : p1 = r1 * f + c0) (hp2 : p2 = r2 * f + c1) (hp3 : p3 = r3 * f + c2) (hp4 : p4 = r4 * f + c3)
    (hn0 : n0 = p0 % 1125899906842624) (hn1 : n1 = p1 % 1125899906842624) (hn2 : n2 = p2 % 1125899906842624) (hn3 : n3 = p3 % 1125899906842624) (hn4 : n4 = p4 % 1125899906842624)
    (hc0 : c0 = p0 / 1125899906842624) (hc1 : c1 = p1 / 1125899906842624) (hc2 : c2 = p2 / 1125899906842624) (hc3 : c3 = p3 / 1125899906842624) (hc4 : c4 = p4 / 1125899906842624)
    (b0 : 0 ≤ p0) (b1 : 0 ≤ p1) (b2 : 0 ≤ p2) (b3 : 0 ≤ p3) (b4 : 0 ≤ p4)
    (hlt : (r0 + 1125899906842624 * r1 + 1267650600228229401496703205376 * r2 + 1427247692705959881058285969449495136382746624 * r3 + 1606938044258990275541962092341162602522202993782792835301376 * r4) * f < 1809251394333065553493296640760748560207343510400633813116524750123642650624) :
    n0 + 1125899906842624 * n1 + 1267650600228229401496703205376 * n2 + 1427247692705959881058285969449495136382746624 * n3 + 1606938044258990275541962092341162602522202993782792835301376 * n4 = (r0 + 1125899906842624 * r1 + 1267650600228229401496703205376 * r2 + 1427247692705959881058285969449495136382746624 * r3 + 1606938044258990275541962092341162602522202993782792835301376 * r4) * f := by
  have e : (r0 + 1125899906842624 * r1 + 1267650600228229401496703205376 * r2 + 1427247692705959881058285969449495136382746624 * r3 + 1606938044258990275541962092341162602522202993782792835301376 * r4) * f = r0 * f + 1125899906842624 * (r1 * f) + 1267650600228229401496703205376 * (r2 * f) + 1427247692705959881058285969449495136382746624 * (r3 * f) + 1606938044258990275541962092341162602522202993782792835301376 * (r4 * f) := by
    simp only [Int.add_mul, Int.mul_assoc]
  rw [e] at hlt ⊢
  omega
theorem kup {x y f : Int} {k t : Int} {B : Int} {r : Int} (_ : 0 ≤ r) (hf : 1 ≤ f) (hkt : k < t) (hk : 0 ≤ k) (hy : 0 ≤ y) (h : x = y * f ^ k.toNat) (hB : y * f ^ t.toNat < B) : x * f < B := by
  have e : x * f = y * f ^ (k.toNat + 1) := by rw [h, Int.pow_succ, Int.mul_assoc]
  rw [e]
  have h1 : f ^ (k.toNat + 1) ≤ f ^ t.toNat := ipow_mono hf (by omega)
  have h2 := Int.mul_le_mul_of_nonneg_left h1 hy
  omega
theorem xcmp_cg {x y X Y : Int} (h1 : x < y ↔ X < Y) (h2 : x = y ↔ X = Y) : xcmp x y = xcmp X Y := by
  unfold xcmp
  by_cases a1 : x < y
  · have := h1.mp a1
    rw [if_neg (by omega), if_neg (by omega), if_neg (by omega), if_neg (by omega)]
  · have b1 : ¬ X < Y := fun h => a1 (h1.mpr h)
    by_cases a2 : x = y
    · have := h2.mp a2
      rw [if_neg (by omega), if_pos a2, if_neg (by omega), if_pos this]
    · have b2 : ¬ X = Y := fun h => a2 (h2.mpr h)
      rw [if_pos (by omega), if_pos (by omega)]
theorem xcmp_mul {x y c : Int} (hc : 1 ≤ c) : xcmp (x * c) (y * c) = xcmp x y := by
  refine (xcmp_cg ⟨fun h => ?_, fun h => ?_⟩ ⟨fun h => by rw [h], fun h => ?_⟩).symm
  · exact Int.mul_lt_mul_of_pos_right h (by omega)
  · exact Int.lt_of_mul_lt_mul_right h (by omega)
  · exact Int.eq_of_mul_eq_mul_right (by omega) h
def xof (X : List Nat) (M M2 : xM) : Prop := ∀ k, k ∉ X → M2 k = M k
/-- the sign of one key less another one -/
def kc (l1 w1 l2 w2 : Int) : Int := xcmp (l1 ^ w2.toNat * 1024 ^ w1.toNat) (l2 ^ w1.toNat * 1024 ^ w2.toNat)
theorem kb1 {l : Int} {p : Int} (h1 : 1 ≤ l) (h2 : l ≤ 1024) (h3 : p ≤ 24) : 1 * l ^ p.toNat < 1809251394333065553493296640760748560207343510400633813116524750123642650624 := by
  have e1 := ipow_le (show (0:Int) ≤ l by omega) h2 p.toNat
  have e2 := ipow_mono (show (1:Int) ≤ 1024 by decide) (show p.toNat ≤ 24 by omega)
  have e3 : (1024:Int) ^ 24 < 1809251394333065553493296640760748560207343510400633813116524750123642650624 := by decide
  omega
theorem kb2 {l : Int} {p q : Int} (h1 : 1 ≤ l) (h2 : l ≤ 1024) (h3 : p.toNat + q.toNat ≤ 24) : 1 * l ^ p.toNat * 1024 ^ q.toNat < 1809251394333065553493296640760748560207343510400633813116524750123642650624 := by
  have e1 := ipow_le (show (0:Int) ≤ l by omega) h2 p.toNat
  have e2 := ipow_mono (show (1:Int) ≤ 1024 by decide) h3
  have e3 : (1024:Int) ^ 24 < 1809251394333065553493296640760748560207343510400633813116524750123642650624 := by decide
  rw [Int.pow_add] at e2
  have e4 := Int.mul_le_mul_of_nonneg_right e1 (show (0:Int) ≤ 1024 ^ q.toNat from Int.pow_nonneg (by decide))
  rw [Int.one_mul]
  omega
theorem kb3 {l r : Int} {p : Int} (h1 : 1 ≤ l) (h2 : l ≤ 1024) (h3 : p ≤ 20) (h4 : 1 ≤ r) (h5 : r ≤ 1024) : 1 * l ^ p.toNat * r ^ (1 : Int).toNat < 1809251394333065553493296640760748560207343510400633813116524750123642650624 := by
  have e1 := kb2 (p := p) (q := 1) h1 h2 (by omega)
  have e2 : r ^ (1 : Int).toNat ≤ 1024 ^ (1 : Int).toNat := ipow_le (by omega) h5 _
  have e3 := Int.mul_le_mul_of_nonneg_left e2 (show (0 : Int) ≤ 1 * l ^ p.toNat by have := ipow_pos h1 p.toNat; omega)
  omega
theorem kc_main {l1 w1 l2 w2 c : Int} (h1 : c ≤ w1) (h2 : c ≤ w2) (h0 : 0 ≤ c) : xcmp (1 * l1 ^ w2.toNat * 1024 ^ (w1 - c).toNat) (1 * l2 ^ w1.toNat * 1024 ^ (w2 - c).toNat) = kc l1 w1 l2 w2 := by
  unfold kc
  have a1 : w1.toNat = (w1 - c).toNat + c.toNat := by omega
  have a2 : w2.toNat = (w2 - c).toNat + c.toNat := by omega
  have e1 : (1024 : Int) ^ w1.toNat = 1024 ^ (w1 - c).toNat * 1024 ^ c.toNat := by rw [← Int.pow_add, ← a1]
  have e2 : (1024 : Int) ^ w2.toNat = 1024 ^ (w2 - c).toNat * 1024 ^ c.toNat := by rw [← Int.pow_add, ← a2]
  rw [e1, e2, ← Int.mul_assoc, ← Int.mul_assoc, xcmp_mul (ipow_pos (by decide) _), Int.one_mul, Int.one_mul]
theorem ipow_lt {f g : Int} (h0 : 0 ≤ f) (h : f < g) {a : Nat} (ha : 1 ≤ a) : f ^ a < g ^ a := by
  obtain ⟨b, rfl⟩ := Nat.le.dest ha
  rw [Nat.add_comm, Int.pow_succ, Int.pow_succ]
  have e1 := ipow_le h0 (Int.le_of_lt h) b
  have e2 := Int.mul_le_mul_of_nonneg_right e1 h0
  have e3 := Int.mul_lt_mul_of_pos_left h (Int.lt_of_lt_of_le (by decide) (ipow_pos (show (1:Int) ≤ g by omega) b))
  omega
theorem kc_w {l1 l2 w : Int} (h1 : 1 ≤ l1) (h2 : 1 ≤ l2) (h3 : 1 ≤ w) : kc l1 w l2 w = xcmp l1 l2 := by
  unfold kc
  rw [xcmp_mul (ipow_pos (by decide) _)]
  have mono : ∀ {x y : Int}, 1 ≤ x → x < y → x ^ w.toNat < y ^ w.toNat := fun hx hy => ipow_lt (by omega) hy (by omega)
  refine xcmp_cg ⟨fun h => ?_, mono h1⟩ ⟨fun h => ?_, fun h => by rw [h]⟩
  · rcases Int.lt_trichotomy l1 l2 with g | g | g
    · exact g
    · subst g; omega
    · have := mono h2 g; omega
  · rcases Int.lt_trichotomy l1 l2 with g | g | g
    · have := mono h1 g; omega
    · exact g
    · have := mono h2 g; omega
theorem kc_step {l1 l2 w1 w2 : Int} (h2 : 1 ≤ l2) (h1 : l1 ≤ 1023) (h : l2 ≤ l1) (h3 : 1 ≤ w2) (h4 : w2 < w1) : l2 ^ w1.toNat * 1024 ^ w2.toNat < l1 ^ w2.toNat * 1024 ^ w1.toNat := by
  have a : w1.toNat = w2.toNat + (w1 - w2).toNat := by omega
  rw [a, Int.pow_add, Int.pow_add]
  have e1 := ipow_le (show (0:Int) ≤ l2 by omega) h w2.toNat
  have e2 := ipow_lt (show (0:Int) ≤ l2 by omega) (show l2 < 1024 by omega) (a := (w1 - w2).toNat) (by omega)
  have p1 := ipow_pos h2 w2.toNat
  have p2 := ipow_pos h2 (w1 - w2).toNat
  have p3 := ipow_pos (show (1:Int) ≤ 1024 by decide) w2.toNat
  have e3 : l2 ^ w2.toNat * l2 ^ (w1 - w2).toNat < l1 ^ w2.toNat * 1024 ^ (w1 - w2).toNat := by
    have q1 := Int.mul_le_mul_of_nonneg_right e1 (show (0:Int) ≤ l2 ^ (w1 - w2).toNat by omega)
    have q2 := Int.mul_lt_mul_of_pos_left e2 (show (0:Int) < l1 ^ w2.toNat by omega)
    omega
  have e4 := Int.mul_lt_mul_of_pos_right e3 (show (0:Int) < 1024 ^ w2.toNat by omega)
  have r1 : l1 ^ w2.toNat * (1024 ^ w2.toNat * 1024 ^ (w1 - w2).toNat) = l1 ^ w2.toNat * 1024 ^ (w1 - w2).toNat * 1024 ^ w2.toNat := by
    rw [Int.mul_assoc, Int.mul_comm (1024 ^ w2.toNat)]
  rw [r1]
  exact e4
theorem kc_gt {l1 l2 w1 w2 : Int} (h2 : 1 ≤ l2) (h1 : l1 ≤ 1023) (h : l2 ≤ l1) (h3 : 1 ≤ w2) (h4 : w2 < w1) : kc l1 w1 l2 w2 = xcmp w1 w2 := by
  have := kc_step h2 h1 h h3 h4
  unfold kc
  refine xcmp_cg ⟨fun g => ?_, fun g => ?_⟩ ⟨fun g => ?_, fun g => ?_⟩ <;> omega
theorem kc_lt {l1 l2 w1 w2 : Int} (h1 : 1 ≤ l1) (h2 : l2 ≤ 1023) (h : l1 ≤ l2) (h3 : 1 ≤ w1) (h4 : w1 < w2) : kc l1 w1 l2 w2 = xcmp w1 w2 := by
  have := kc_step h1 h2 h h3 h4
  unfold kc
  refine xcmp_cg ⟨fun g => ?_, fun g => ?_⟩ ⟨fun g => ?_, fun g => ?_⟩ <;> omega
theorem kc_l {l w1 w2 : Int} (h1 : 1 ≤ l) (h2 : l ≤ 1023) (h3 : 1 ≤ w1) (h4 : 1 ≤ w2) : kc l w1 l w2 = xcmp w1 w2 := by
  rcases Int.lt_trichotomy w1 w2 with g | g | g
  · exact kc_lt h1 h2 (Int.le_refl _) h3 g
  · subst g
    unfold kc
    exact xcmp_cg (by omega) (by omega)
  · exact kc_gt h1 h2 (Int.le_refl _) h4 g
theorem kpart {p q l : Int} {k : Nat} : xcmp (1 * p ^ k * 1024 ^ (1:Int).toNat) (1 * q ^ k * l ^ (1:Int).toNat) ≤ 0 ↔ p ^ k * 1024 ≤ q ^ k * l := by
  rw [xcmp_le]
  have e : (1:Int).toNat = 1 := rfl
  rw [e, Int.pow_one, Int.pow_one, Int.one_mul, Int.one_mul]

set_option maxRecDepth 100000 in
set_option maxHeartbeats 4000000 in
theorem kJ6_compare_7cf53 (D : xD) (l : Launch) {n : Nat} {T : xT} {M : xM} (x y : Int)  : xC D l uJ6_compare_7cf53 0 0 0 0 [xI x, xI y] n T M (xPp n T M (xcmp x y)) := by
  refine x_met uJ6_compare_7cf53 (by decide) (Nat.le_of_ble_eq_true rfl) ?_
  intro Γ G Rt _
  have G : xG Γ RJ6 cJ6_compare_7cf53 2 0 0 0 0 := G
  have Rt : xRt Γ (xPp n T M (xcmp x y)) (some .int) 0 0 := Rt
  show xX Γ 0 0 n T 0 [(0, xI x), (1, xI y)] [] M
  refine x_iload_n G 0 rfl rfl dJ6_compare_7cf53_0 ?_
  refine x_iload_n G 1 rfl rfl dJ6_compare_7cf53_1 ?_
  refine x_icmp_ge G 9 (by decide) dJ6_compare_7cf53_2 (fun c2 => ?_) (fun c2 => ?_)
  · skip
    refine x_iload_n G 0 rfl rfl dJ6_compare_7cf53_9 ?_
    refine x_iload_n G 1 rfl rfl dJ6_compare_7cf53_10 ?_
    refine x_icmp_ne G 18 (by decide) dJ6_compare_7cf53_11 (fun c11 => ?_) (fun c11 => ?_)
    · skip
      refine x_iconst G (by decide) dJ6_compare_7cf53_18 ?_
      exact x_iret G Rt dJ6_compare_7cf53_19 ⟨rfl, rfl, congrArg (fun z => some (xI z)) (by unfold xcmp; split <;> (try split) <;> omega), rfl⟩
    · skip
      refine x_iconst G (by decide) dJ6_compare_7cf53_14 ?_
      refine x_goto G 19 (by decide) dJ6_compare_7cf53_15 ?_
      exact x_iret G Rt dJ6_compare_7cf53_19 ⟨rfl, rfl, congrArg (fun z => some (xI z)) (by unfold xcmp; split <;> (try split) <;> omega), rfl⟩
  · skip
    refine x_iconst G (by decide) dJ6_compare_7cf53_5 ?_
    refine x_goto G 19 (by decide) dJ6_compare_7cf53_6 ?_
    exact x_iret G Rt dJ6_compare_7cf53_19 ⟨rfl, rfl, congrArg (fun z => some (xI z)) (by unfold xcmp; split <;> (try split) <;> omega), rfl⟩
set_option maxRecDepth 100000 in
set_option maxHeartbeats 4000000 in
theorem kJ13_compare_74951 (D : xD) (l : Launch) {n : Nat} {T : xT} {M : xM} (x y : Int)  : xC D l uJ13_compare_74951 0 0 0 0 [xL x, xL y] n T M (xPp n T M (xcmp x y)) := by
  refine x_met uJ13_compare_74951 (by decide) (Nat.le_of_ble_eq_true rfl) ?_
  intro Γ G Rt _
  have G : xG Γ RJ13 cJ13_compare_74951 4 0 0 0 0 := G
  have Rt : xRt Γ (xPp n T M (xcmp x y)) (some .int) 0 0 := Rt
  show xX Γ 0 0 n T 0 [(0, xL x), (2, xL y)] [] M
  refine x_lload_n G 0 rfl rfl dJ13_compare_74951_0 ?_
  refine x_lload_n G 1 rfl rfl dJ13_compare_74951_1 ?_
  refine x_lcmp G dJ13_compare_74951_2 ?_
  refine x_if_ge G 10 (by decide) dJ13_compare_74951_3 (fun c3 => ?_) (fun c3 => ?_)
  · skip
    have c3 := xcmp_ge.mp c3
    refine x_lload_n G 0 rfl rfl dJ13_compare_74951_10 ?_
    refine x_lload_n G 1 rfl rfl dJ13_compare_74951_11 ?_
    refine x_lcmp G dJ13_compare_74951_12 ?_
    refine x_if_ne G 20 (by decide) dJ13_compare_74951_13 (fun c13 => ?_) (fun c13 => ?_)
    · skip
      have c13 : ¬ _ = _ := fun h => c13 (xcmp_eq.mpr h)
      refine x_iconst G (by decide) dJ13_compare_74951_20 ?_
      exact x_iret G Rt dJ13_compare_74951_21 ⟨rfl, rfl, congrArg (fun z => some (xI z)) (by unfold xcmp; split <;> (try split) <;> omega), rfl⟩
    · skip
      have c13 := xcmp_eq.mp c13
      refine x_iconst G (by decide) dJ13_compare_74951_16 ?_
      refine x_goto G 21 (by decide) dJ13_compare_74951_17 ?_
      exact x_iret G Rt dJ13_compare_74951_21 ⟨rfl, rfl, congrArg (fun z => some (xI z)) (by unfold xcmp; split <;> (try split) <;> omega), rfl⟩
  · skip
    have c3 := xcmp_lt.mp c3
    refine x_iconst G (by decide) dJ13_compare_74951_6 ?_
    refine x_goto G 21 (by decide) dJ13_compare_74951_7 ?_
    exact x_iret G Rt dJ13_compare_74951_21 ⟨rfl, rfl, congrArg (fun z => some (xI z)) (by unfold xcmp; split <;> (try split) <;> omega), rfl⟩
set_option maxRecDepth 100000 in
set_option maxHeartbeats 4000000 in
theorem kX1_setToOne (D : xD) (l : Launch) {n : Nat} {T : xT} {M : xM} (x : Nat) (hxn : x < n) (hxk : (T x).1 = 10) (hxl : (T x).2.1 = 5) : xC D l uX1_setToOne 0 0 0 0 [xR x] n T M (xPV n T (fun M2 => (∀ k, k ≠ x → M2 k = M k) ∧ nm5 (M2 x) ∧ kv5 (M2 x) = 1)) := by
  refine x_met uX1_setToOne (by decide) (Nat.le_of_ble_eq_true rfl) ?_
  intro Γ G Rt _
  have G : xG Γ RX1 cX1_setToOne 2 0 0 0 0 := G
  have Rt : xRt Γ (xPV n T (fun M2 => (∀ k, k ≠ x → M2 k = M k) ∧ nm5 (M2 x) ∧ kv5 (M2 x) = 1)) none 0 0 := Rt
  show xX Γ 0 0 n T 0 [(0, xR x)] [] M
  refine x_iconst G (by decide) dX1_setToOne_0 ?_
  refine x_istore_n G [(1, xI 0), (0, xR x)] rfl (by decide) rfl dX1_setToOne_1 ?_
  refine x_iload_n G 0 rfl rfl dX1_setToOne_2 ?_
  refine x_aload_n G 1 rfl rfl dX1_setToOne_3 ?_
  refine x_alen G 2 hxn hxk (by decide) (fun _ => rfl) (by rw [hxl]; decide) dX1_setToOne_4 ?_
  rw [hxl]
  show xX Γ 0 0 n T 5 [(1, xI 0), (0, xR x)] [xI 5, xI 0] M
  refine x_icmp_ge G 26 (by decide) dX1_setToOne_5 (fun c5 => absurd c5 (by decide)) (fun _ => ?_)
  refine x_aload_n G 1 rfl rfl dX1_setToOne_8 ?_
  refine x_iload_n G 0 rfl rfl dX1_setToOne_9 ?_
  refine x_iload_n G 0 rfl rfl dX1_setToOne_10 ?_
  refine x_if_ne G 18 (by decide) dX1_setToOne_11 (fun c11 => absurd c11 (by decide)) (fun _ => ?_)
  refine x_lconst G dX1_setToOne_14 ?_
  show xX Γ 0 0 n T 15 [(1, xI 0), (0, xR x)] [xL 1, xI 0, xR x] M
  refine x_goto G 19 (by decide) dX1_setToOne_15 ?_
  refine x_last G hxn hxk (hxl) (by omega) (by omega) dX1_setToOne_19 ?_
  show xX Γ 0 0 n T 20 [(1, xI 0), (0, xR x)] [] (xst M x 0 1)
  refine x_iinc G [(1, xI 1), (0, xR x)] 0 rfl (by decide) (by omega) rfl dX1_setToOne_20 ?_
  refine x_goto G 2 (by decide) dX1_setToOne_23 ?_
  refine x_iload_n G 0 rfl rfl dX1_setToOne_2 ?_
  refine x_aload_n G 1 rfl rfl dX1_setToOne_3 ?_
  refine x_alen G 2 hxn hxk (by decide) (fun _ => rfl) (by rw [hxl]; decide) dX1_setToOne_4 ?_
  rw [hxl]
  show xX Γ 0 0 n T 5 [(1, xI 1), (0, xR x)] [xI 5, xI 1] (xst M x 0 1)
  refine x_icmp_ge G 26 (by decide) dX1_setToOne_5 (fun c5 => absurd c5 (by decide)) (fun _ => ?_)
  refine x_aload_n G 1 rfl rfl dX1_setToOne_8 ?_
  refine x_iload_n G 0 rfl rfl dX1_setToOne_9 ?_
  refine x_iload_n G 0 rfl rfl dX1_setToOne_10 ?_
  refine x_if_ne G 18 (by decide) dX1_setToOne_11 (fun _ => ?_) (fun c11 => absurd c11 (by decide))
  refine x_lconst G dX1_setToOne_18 ?_
  show xX Γ 0 0 n T 19 [(1, xI 1), (0, xR x)] [xL 0, xI 1, xR x] (xst M x 0 1)
  refine x_last G hxn hxk (hxl) (by omega) (by omega) dX1_setToOne_19 ?_
  show xX Γ 0 0 n T 20 [(1, xI 1), (0, xR x)] [] (xst (xst M x 0 1) x 1 0)
  refine x_iinc G [(1, xI 2), (0, xR x)] 0 rfl (by decide) (by omega) rfl dX1_setToOne_20 ?_
  refine x_goto G 2 (by decide) dX1_setToOne_23 ?_
  refine x_iload_n G 0 rfl rfl dX1_setToOne_2 ?_
  refine x_aload_n G 1 rfl rfl dX1_setToOne_3 ?_
  refine x_alen G 2 hxn hxk (by decide) (fun _ => rfl) (by rw [hxl]; decide) dX1_setToOne_4 ?_
  rw [hxl]
  show xX Γ 0 0 n T 5 [(1, xI 2), (0, xR x)] [xI 5, xI 2] (xst (xst M x 0 1) x 1 0)
  refine x_icmp_ge G 26 (by decide) dX1_setToOne_5 (fun c5 => absurd c5 (by decide)) (fun _ => ?_)
  refine x_aload_n G 1 rfl rfl dX1_setToOne_8 ?_
  refine x_iload_n G 0 rfl rfl dX1_setToOne_9 ?_
  refine x_iload_n G 0 rfl rfl dX1_setToOne_10 ?_
  refine x_if_ne G 18 (by decide) dX1_setToOne_11 (fun _ => ?_) (fun c11 => absurd c11 (by decide))
  refine x_lconst G dX1_setToOne_18 ?_
  show xX Γ 0 0 n T 19 [(1, xI 2), (0, xR x)] [xL 0, xI 2, xR x] (xst (xst M x 0 1) x 1 0)
  refine x_last G hxn hxk (hxl) (by omega) (by omega) dX1_setToOne_19 ?_
  show xX Γ 0 0 n T 20 [(1, xI 2), (0, xR x)] [] (xst (xst (xst M x 0 1) x 1 0) x 2 0)
  refine x_iinc G [(1, xI 3), (0, xR x)] 0 rfl (by decide) (by omega) rfl dX1_setToOne_20 ?_
  refine x_goto G 2 (by decide) dX1_setToOne_23 ?_
  refine x_iload_n G 0 rfl rfl dX1_setToOne_2 ?_
  refine x_aload_n G 1 rfl rfl dX1_setToOne_3 ?_
  refine x_alen G 2 hxn hxk (by decide) (fun _ => rfl) (by rw [hxl]; decide) dX1_setToOne_4 ?_
  rw [hxl]
  show xX Γ 0 0 n T 5 [(1, xI 3), (0, xR x)] [xI 5, xI 3] (xst (xst (xst M x 0 1) x 1 0) x 2 0)
  refine x_icmp_ge G 26 (by decide) dX1_setToOne_5 (fun c5 => absurd c5 (by decide)) (fun _ => ?_)
  refine x_aload_n G 1 rfl rfl dX1_setToOne_8 ?_
  refine x_iload_n G 0 rfl rfl dX1_setToOne_9 ?_
  refine x_iload_n G 0 rfl rfl dX1_setToOne_10 ?_
  refine x_if_ne G 18 (by decide) dX1_setToOne_11 (fun _ => ?_) (fun c11 => absurd c11 (by decide))
  refine x_lconst G dX1_setToOne_18 ?_
  show xX Γ 0 0 n T 19 [(1, xI 3), (0, xR x)] [xL 0, xI 3, xR x] (xst (xst (xst M x 0 1) x 1 0) x 2 0)
  refine x_last G hxn hxk (hxl) (by omega) (by omega) dX1_setToOne_19 ?_
  show xX Γ 0 0 n T 20 [(1, xI 3), (0, xR x)] [] (xst (xst (xst (xst M x 0 1) x 1 0) x 2 0) x 3 0)
  refine x_iinc G [(1, xI 4), (0, xR x)] 0 rfl (by decide) (by omega) rfl dX1_setToOne_20 ?_
  refine x_goto G 2 (by decide) dX1_setToOne_23 ?_
  refine x_iload_n G 0 rfl rfl dX1_setToOne_2 ?_
  refine x_aload_n G 1 rfl rfl dX1_setToOne_3 ?_
  refine x_alen G 2 hxn hxk (by decide) (fun _ => rfl) (by rw [hxl]; decide) dX1_setToOne_4 ?_
  rw [hxl]
  show xX Γ 0 0 n T 5 [(1, xI 4), (0, xR x)] [xI 5, xI 4] (xst (xst (xst (xst M x 0 1) x 1 0) x 2 0) x 3 0)
  refine x_icmp_ge G 26 (by decide) dX1_setToOne_5 (fun c5 => absurd c5 (by decide)) (fun _ => ?_)
  refine x_aload_n G 1 rfl rfl dX1_setToOne_8 ?_
  refine x_iload_n G 0 rfl rfl dX1_setToOne_9 ?_
  refine x_iload_n G 0 rfl rfl dX1_setToOne_10 ?_
  refine x_if_ne G 18 (by decide) dX1_setToOne_11 (fun _ => ?_) (fun c11 => absurd c11 (by decide))
  refine x_lconst G dX1_setToOne_18 ?_
  show xX Γ 0 0 n T 19 [(1, xI 4), (0, xR x)] [xL 0, xI 4, xR x] (xst (xst (xst (xst M x 0 1) x 1 0) x 2 0) x 3 0)
  refine x_last G hxn hxk (hxl) (by omega) (by omega) dX1_setToOne_19 ?_
  show xX Γ 0 0 n T 20 [(1, xI 4), (0, xR x)] [] (xst (xst (xst (xst (xst M x 0 1) x 1 0) x 2 0) x 3 0) x 4 0)
  refine x_iinc G [(1, xI 5), (0, xR x)] 0 rfl (by decide) (by omega) rfl dX1_setToOne_20 ?_
  refine x_goto G 2 (by decide) dX1_setToOne_23 ?_
  refine x_iload_n G 0 rfl rfl dX1_setToOne_2 ?_
  refine x_aload_n G 1 rfl rfl dX1_setToOne_3 ?_
  refine x_alen G 2 hxn hxk (by decide) (fun _ => rfl) (by rw [hxl]; decide) dX1_setToOne_4 ?_
  rw [hxl]
  show xX Γ 0 0 n T 5 [(1, xI 5), (0, xR x)] [xI 5, xI 5] (xst (xst (xst (xst (xst M x 0 1) x 1 0) x 2 0) x 3 0) x 4 0)
  refine x_icmp_ge G 26 (by decide) dX1_setToOne_5 (fun _ => ?_) (fun c5 => absurd c5 (by decide))
  exact x_vret G Rt dX1_setToOne_26 ⟨rfl, rfl, rfl, by refine ⟨fun k hk => by simp [xst, hk], ?_, ?_⟩ <;> simp [nm5, xst_eq, kv5]⟩
set_option maxRecDepth 100000 in
set_option maxHeartbeats 4000000 in
theorem kX1_multiply (D : xD) (l : Launch) {n : Nat} {T : xT} {M : xM} (x : Nat) (f t : Int) (hxn : x < n) (hxk : (T x).1 = 10) (hxl : (T x).2.1 = 5) (hf : 1 ≤ f ∧ f ≤ 1024) (ht : 0 ≤ t ∧ t < 1000) (hnm : nm5 (M x)) (hv : kv5 (M x) * f ^ t.toNat < 1809251394333065553493296640760748560207343510400633813116524750123642650624) : xC D l uX1_multiply 0 0 0 0 [xR x, xI f, xI t] n T M (xPV n T (fun M2 => (∀ k, k ≠ x → M2 k = M k) ∧ nm5 (M2 x) ∧ kv5 (M2 x) = kv5 (M x) * f ^ t.toNat)) := by
  refine x_met uX1_multiply (by decide) (Nat.le_of_ble_eq_true rfl) ?_
  intro Γ G Rt _
  have G : xG Γ RX1 cX1_multiply 9 0 0 0 0 := G
  have Rt : xRt Γ (xPV n T (fun M2 => (∀ k, k ≠ x → M2 k = M k) ∧ nm5 (M2 x) ∧ kv5 (M2 x) = kv5 (M x) * f ^ t.toNat)) none 0 0 := Rt
  show xX Γ 0 0 n T 0 [(0, xR x), (1, xI f), (2, xI t)] [] M
  refine x_iconst G (by decide) dX1_multiply_0 ?_
  refine x_istore_n G [(3, xI 0), (0, xR x), (1, xI f), (2, xI t)] rfl (by decide) rfl dX1_multiply_1 ?_
  have loop2 : ∀ (d : Nat) (k : Int) (M1 : xM), (t - k).toNat = d → (0 ≤ k ∧ k ≤ t) → (∀ q, q ≠ x → M1 q = M q) → (nm5 (M1 x)) → (kv5 (M1 x) = kv5 (M x) * f ^ k.toNat) → xX Γ 0 0 n T 2 [(0, xR x), (1, xI f), (2, xI t), (3, xI k)] [] M1 := by
    intro d
    induction d using Nat.strongRecOn with
    | ind d ih2 =>
    intro k M1 hd2 hk hfr hnm2 hkv
    have hup : k < t → kv5 (M1 x) * f < 1809251394333065553493296640760748560207343510400633813116524750123642650624 := fun hkt => kup hnm.1.1 hf.1 hkt hk.1 (kv5_nn hnm) hkv hv
    have hnm := hnm2
    refine x_iload_n G 3 rfl rfl dX1_multiply_2 ?_
    refine x_iload_n G 2 rfl rfl dX1_multiply_3 ?_
    refine x_icmp_ge G 61 (by decide) dX1_multiply_4 (fun c4 => ?_) (fun c4 => ?_)
    · skip
      exact x_vret G Rt dX1_multiply_61 ⟨rfl, rfl, rfl, by have hkt : k = t := (by omega); subst hkt; exact ⟨hfr, hnm, hkv⟩⟩
    · skip
      refine x_lconst G dX1_multiply_7 ?_
      show xX Γ 0 0 n T 8 [(0, xR x), (1, xI f), (2, xI t), (3, xI k)] [xL 0] M1
      refine x_lstore G [(4, xL 0), (0, xR x), (1, xI f), (2, xI t), (3, xI k)] (by decide) rfl dX1_multiply_8 ?_
      refine x_iconst G (by decide) dX1_multiply_10 ?_
      refine x_istore G [(6, xI 0), (4, xL 0), (0, xR x), (1, xI f), (2, xI t), (3, xI k)] (by decide) rfl dX1_multiply_11 ?_
      refine x_iload G 0 rfl dX1_multiply_13 ?_
      refine x_aload_n G 2 rfl rfl dX1_multiply_15 ?_
      refine x_alen G 2 hxn hxk (by decide) (fun _ => rfl) (by rw [hxl]; decide) dX1_multiply_16 ?_
      rw [hxl]
      show xX Γ 0 0 n T 17 [(6, xI 0), (4, xL 0), (0, xR x), (1, xI f), (2, xI t), (3, xI k)] [xI 5, xI 0] M1
      refine x_icmp_ge G 55 (by decide) dX1_multiply_17 (fun c17 => absurd c17 (by decide)) (fun _ => ?_)
      refine x_aload_n G 2 rfl rfl dX1_multiply_20 ?_
      refine x_iload G 0 rfl dX1_multiply_21 ?_
      refine x_lald G hxn hxk (hxl) (by omega) (by omega) dX1_multiply_23 ?_
      show xX Γ 0 0 n T 24 [(6, xI 0), (4, xL 0), (0, xR x), (1, xI f), (2, xI t), (3, xI k)] [xL (M1 x 0)] M1
      refine x_iload_n G 3 rfl rfl dX1_multiply_24 ?_
      refine x_i2l G dX1_multiply_25 ?_
      have hm0 := km5 (hnm.1.1) (hnm.1.2) hf.1 hf.2
      refine x_lmul G (by omega) dX1_multiply_26 ?_
      refine x_lload G 1 rfl dX1_multiply_27 ?_
      refine x_ladd G (by omega) dX1_multiply_29 ?_
      obtain ⟨p0, hp0⟩ : ∃ p9 : Int, p9 = (((M1 x 0) * f) + 0) := ⟨_, rfl⟩; rw [← hp0]
      have hb0 : 0 ≤ p0 ∧ p0 < 1152921504606850048 := by omega
      refine x_lstore G [(7, xL p0), (6, xI 0), (4, xL 0), (0, xR x), (1, xI f), (2, xI t), (3, xI k)] (by decide) rfl dX1_multiply_30 ?_
      refine x_aload_n G 3 rfl rfl dX1_multiply_32 ?_
      refine x_iload G 1 rfl dX1_multiply_33 ?_
      refine x_lload G 0 rfl dX1_multiply_35 ?_
      refine x_ldc2 G (z := 1125899906842623) (by decide) kc_X1_41 dX1_multiply_37 ?_
      refine x_land G (p0 % 1125899906842624) (x_land50 (by omega) (by omega)) (by omega) dX1_multiply_40 ?_
      obtain ⟨n0, hn0⟩ : ∃ p9 : Int, p9 = (p0 % 1125899906842624) := ⟨_, rfl⟩; rw [← hn0]
      refine x_last G hxn hxk (hxl) (by omega) (by omega) dX1_multiply_41 ?_
      show xX Γ 0 0 n T 42 [(7, xL p0), (6, xI 0), (4, xL 0), (0, xR x), (1, xI f), (2, xI t), (3, xI k)] [] (xst M1 x 0 n0)
      refine x_lload G 0 rfl dX1_multiply_42 ?_
      refine x_bipush G (by decide) dX1_multiply_44 ?_
      refine x_lshr G (p0 / 1125899906842624) (x_lshr50 (by omega) (by omega)) (by omega) dX1_multiply_46 ?_
      obtain ⟨c0, hc0⟩ : ∃ p9 : Int, p9 = (p0 / 1125899906842624) := ⟨_, rfl⟩; rw [← hc0]
      have hc0b : 0 ≤ c0 ∧ c0 < 1025 := by omega
      refine x_lstore G [(4, xL c0), (7, xL p0), (6, xI 0), (0, xR x), (1, xI f), (2, xI t), (3, xI k)] (by decide) rfl dX1_multiply_47 ?_
      refine x_iinc G [(6, xI 1), (4, xL c0), (7, xL p0), (0, xR x), (1, xI f), (2, xI t), (3, xI k)] 2 rfl (by decide) (by omega) rfl dX1_multiply_49 ?_
      refine x_goto G 13 (by decide) dX1_multiply_52 ?_
      refine x_iload G 0 rfl dX1_multiply_13 ?_
      refine x_aload_n G 3 rfl rfl dX1_multiply_15 ?_
      refine x_alen G 2 hxn hxk (by decide) (fun _ => rfl) (by rw [hxl]; decide) dX1_multiply_16 ?_
      rw [hxl]
      show xX Γ 0 0 n T 17 [(6, xI 1), (4, xL c0), (7, xL p0), (0, xR x), (1, xI f), (2, xI t), (3, xI k)] [xI 5, xI 1] (xst M1 x 0 n0)
      refine x_icmp_ge G 55 (by decide) dX1_multiply_17 (fun c17 => absurd c17 (by decide)) (fun _ => ?_)
      refine x_aload_n G 3 rfl rfl dX1_multiply_20 ?_
      refine x_iload G 0 rfl dX1_multiply_21 ?_
      refine x_lald G hxn hxk (hxl) (by omega) (by omega) dX1_multiply_23 ?_
      show xX Γ 0 0 n T 24 [(6, xI 1), (4, xL c0), (7, xL p0), (0, xR x), (1, xI f), (2, xI t), (3, xI k)] [xL ((xst M1 x 0 n0) x 1)] (xst M1 x 0 n0)
      rw [show (xst M1 x 0 n0) x 1 = (M1 x 1) from (xst_nq (by omega))]
      refine x_iload_n G 4 rfl rfl dX1_multiply_24 ?_
      refine x_i2l G dX1_multiply_25 ?_
      have hm1 := km5 (hnm.2.1.1) (hnm.2.1.2) hf.1 hf.2
      refine x_lmul G (by omega) dX1_multiply_26 ?_
      refine x_lload G 1 rfl dX1_multiply_27 ?_
      refine x_ladd G (by omega) dX1_multiply_29 ?_
      obtain ⟨p1, hp1⟩ : ∃ p9 : Int, p9 = (((M1 x 1) * f) + c0) := ⟨_, rfl⟩; rw [← hp1]
      have hb1 : 0 ≤ p1 ∧ p1 < 1152921504606850048 := by omega
      refine x_lstore G [(7, xL p1), (6, xI 1), (4, xL c0), (0, xR x), (1, xI f), (2, xI t), (3, xI k)] (by decide) rfl dX1_multiply_30 ?_
      refine x_aload_n G 3 rfl rfl dX1_multiply_32 ?_
      refine x_iload G 1 rfl dX1_multiply_33 ?_
      refine x_lload G 0 rfl dX1_multiply_35 ?_
      refine x_ldc2 G (z := 1125899906842623) (by decide) kc_X1_41 dX1_multiply_37 ?_
      refine x_land G (p1 % 1125899906842624) (x_land50 (by omega) (by omega)) (by omega) dX1_multiply_40 ?_
      obtain ⟨n1, hn1⟩ : ∃ p9 : Int, p9 = (p1 % 1125899906842624) := ⟨_, rfl⟩; rw [← hn1]
      refine x_last G hxn hxk (hxl) (by omega) (by omega) dX1_multiply_41 ?_
      show xX Γ 0 0 n T 42 [(7, xL p1), (6, xI 1), (4, xL c0), (0, xR x), (1, xI f), (2, xI t), (3, xI k)] [] (xst (xst M1 x 0 n0) x 1 n1)
      refine x_lload G 0 rfl dX1_multiply_42 ?_
      refine x_bipush G (by decide) dX1_multiply_44 ?_
      refine x_lshr G (p1 / 1125899906842624) (x_lshr50 (by omega) (by omega)) (by omega) dX1_multiply_46 ?_
      obtain ⟨c1, hc1⟩ : ∃ p9 : Int, p9 = (p1 / 1125899906842624) := ⟨_, rfl⟩; rw [← hc1]
      have hc1b : 0 ≤ c1 ∧ c1 < 1025 := by omega
      refine x_lstore G [(4, xL c1), (7, xL p1), (6, xI 1), (0, xR x), (1, xI f), (2, xI t), (3, xI k)] (by decide) rfl dX1_multiply_47 ?_
      refine x_iinc G [(6, xI 2), (4, xL c1), (7, xL p1), (0, xR x), (1, xI f), (2, xI t), (3, xI k)] 2 rfl (by decide) (by omega) rfl dX1_multiply_49 ?_
      refine x_goto G 13 (by decide) dX1_multiply_52 ?_
      refine x_iload G 0 rfl dX1_multiply_13 ?_
      refine x_aload_n G 3 rfl rfl dX1_multiply_15 ?_
      refine x_alen G 2 hxn hxk (by decide) (fun _ => rfl) (by rw [hxl]; decide) dX1_multiply_16 ?_
      rw [hxl]
      show xX Γ 0 0 n T 17 [(6, xI 2), (4, xL c1), (7, xL p1), (0, xR x), (1, xI f), (2, xI t), (3, xI k)] [xI 5, xI 2] (xst (xst M1 x 0 n0) x 1 n1)
      refine x_icmp_ge G 55 (by decide) dX1_multiply_17 (fun c17 => absurd c17 (by decide)) (fun _ => ?_)
      refine x_aload_n G 3 rfl rfl dX1_multiply_20 ?_
      refine x_iload G 0 rfl dX1_multiply_21 ?_
      refine x_lald G hxn hxk (hxl) (by omega) (by omega) dX1_multiply_23 ?_
      show xX Γ 0 0 n T 24 [(6, xI 2), (4, xL c1), (7, xL p1), (0, xR x), (1, xI f), (2, xI t), (3, xI k)] [xL ((xst (xst M1 x 0 n0) x 1 n1) x 2)] (xst (xst M1 x 0 n0) x 1 n1)
      rw [show (xst (xst M1 x 0 n0) x 1 n1) x 2 = (M1 x 2) from ((xst_nq (by omega)).trans (xst_nq (by omega)))]
      refine x_iload_n G 4 rfl rfl dX1_multiply_24 ?_
      refine x_i2l G dX1_multiply_25 ?_
      have hm2 := km5 (hnm.2.2.1.1) (hnm.2.2.1.2) hf.1 hf.2
      refine x_lmul G (by omega) dX1_multiply_26 ?_
      refine x_lload G 1 rfl dX1_multiply_27 ?_
      refine x_ladd G (by omega) dX1_multiply_29 ?_
      obtain ⟨p2, hp2⟩ : ∃ p9 : Int, p9 = (((M1 x 2) * f) + c1) := ⟨_, rfl⟩; rw [← hp2]
      have hb2 : 0 ≤ p2 ∧ p2 < 1152921504606850048 := by omega
      refine x_lstore G [(7, xL p2), (6, xI 2), (4, xL c1), (0, xR x), (1, xI f), (2, xI t), (3, xI k)] (by decide) rfl dX1_multiply_30 ?_
      refine x_aload_n G 3 rfl rfl dX1_multiply_32 ?_
      refine x_iload G 1 rfl dX1_multiply_33 ?_
      refine x_lload G 0 rfl dX1_multiply_35 ?_
      refine x_ldc2 G (z := 1125899906842623) (by decide) kc_X1_41 dX1_multiply_37 ?_
      refine x_land G (p2 % 1125899906842624) (x_land50 (by omega) (by omega)) (by omega) dX1_multiply_40 ?_
      obtain ⟨n2, hn2⟩ : ∃ p9 : Int, p9 = (p2 % 1125899906842624) := ⟨_, rfl⟩; rw [← hn2]
      refine x_last G hxn hxk (hxl) (by omega) (by omega) dX1_multiply_41 ?_
      show xX Γ 0 0 n T 42 [(7, xL p2), (6, xI 2), (4, xL c1), (0, xR x), (1, xI f), (2, xI t), (3, xI k)] [] (xst (xst (xst M1 x 0 n0) x 1 n1) x 2 n2)
      refine x_lload G 0 rfl dX1_multiply_42 ?_
      refine x_bipush G (by decide) dX1_multiply_44 ?_
      refine x_lshr G (p2 / 1125899906842624) (x_lshr50 (by omega) (by omega)) (by omega) dX1_multiply_46 ?_
      obtain ⟨c2, hc2⟩ : ∃ p9 : Int, p9 = (p2 / 1125899906842624) := ⟨_, rfl⟩; rw [← hc2]
      have hc2b : 0 ≤ c2 ∧ c2 < 1025 := by omega
      refine x_lstore G [(4, xL c2), (7, xL p2), (6, xI 2), (0, xR x), (1, xI f), (2, xI t), (3, xI k)] (by decide) rfl dX1_multiply_47 ?_
      refine x_iinc G [(6, xI 3), (4, xL c2), (7, xL p2), (0, xR x), (1, xI f), (2, xI t), (3, xI k)] 2 rfl (by decide) (by omega) rfl dX1_multiply_49 ?_
      refine x_goto G 13 (by decide) dX1_multiply_52 ?_
      refine x_iload G 0 rfl dX1_multiply_13 ?_
      refine x_aload_n G 3 rfl rfl dX1_multiply_15 ?_
      refine x_alen G 2 hxn hxk (by decide) (fun _ => rfl) (by rw [hxl]; decide) dX1_multiply_16 ?_
      rw [hxl]
      show xX Γ 0 0 n T 17 [(6, xI 3), (4, xL c2), (7, xL p2), (0, xR x), (1, xI f), (2, xI t), (3, xI k)] [xI 5, xI 3] (xst (xst (xst M1 x 0 n0) x 1 n1) x 2 n2)
      refine x_icmp_ge G 55 (by decide) dX1_multiply_17 (fun c17 => absurd c17 (by decide)) (fun _ => ?_)
      refine x_aload_n G 3 rfl rfl dX1_multiply_20 ?_
      refine x_iload G 0 rfl dX1_multiply_21 ?_
      refine x_lald G hxn hxk (hxl) (by omega) (by omega) dX1_multiply_23 ?_
      show xX Γ 0 0 n T 24 [(6, xI 3), (4, xL c2), (7, xL p2), (0, xR x), (1, xI f), (2, xI t), (3, xI k)] [xL ((xst (xst (xst M1 x 0 n0) x 1 n1) x 2 n2) x 3)] (xst (xst (xst M1 x 0 n0) x 1 n1) x 2 n2)
      rw [show (xst (xst (xst M1 x 0 n0) x 1 n1) x 2 n2) x 3 = (M1 x 3) from ((xst_nq (by omega)).trans ((xst_nq (by omega)).trans (xst_nq (by omega))))]
      refine x_iload_n G 4 rfl rfl dX1_multiply_24 ?_
      refine x_i2l G dX1_multiply_25 ?_
      have hm3 := km5 (hnm.2.2.2.1.1) (hnm.2.2.2.1.2) hf.1 hf.2
      refine x_lmul G (by omega) dX1_multiply_26 ?_
      refine x_lload G 1 rfl dX1_multiply_27 ?_
      refine x_ladd G (by omega) dX1_multiply_29 ?_
      obtain ⟨p3, hp3⟩ : ∃ p9 : Int, p9 = (((M1 x 3) * f) + c2) := ⟨_, rfl⟩; rw [← hp3]
      have hb3 : 0 ≤ p3 ∧ p3 < 1152921504606850048 := by omega
      refine x_lstore G [(7, xL p3), (6, xI 3), (4, xL c2), (0, xR x), (1, xI f), (2, xI t), (3, xI k)] (by decide) rfl dX1_multiply_30 ?_
      refine x_aload_n G 3 rfl rfl dX1_multiply_32 ?_
      refine x_iload G 1 rfl dX1_multiply_33 ?_
      refine x_lload G 0 rfl dX1_multiply_35 ?_
      refine x_ldc2 G (z := 1125899906842623) (by decide) kc_X1_41 dX1_multiply_37 ?_
      refine x_land G (p3 % 1125899906842624) (x_land50 (by omega) (by omega)) (by omega) dX1_multiply_40 ?_
      obtain ⟨n3, hn3⟩ : ∃ p9 : Int, p9 = (p3 % 1125899906842624) := ⟨_, rfl⟩; rw [← hn3]
      refine x_last G hxn hxk (hxl) (by omega) (by omega) dX1_multiply_41 ?_
      show xX Γ 0 0 n T 42 [(7, xL p3), (6, xI 3), (4, xL c2), (0, xR x), (1, xI f), (2, xI t), (3, xI k)] [] (xst (xst (xst (xst M1 x 0 n0) x 1 n1) x 2 n2) x 3 n3)
      refine x_lload G 0 rfl dX1_multiply_42 ?_
      refine x_bipush G (by decide) dX1_multiply_44 ?_
      refine x_lshr G (p3 / 1125899906842624) (x_lshr50 (by omega) (by omega)) (by omega) dX1_multiply_46 ?_
      obtain ⟨c3, hc3⟩ : ∃ p9 : Int, p9 = (p3 / 1125899906842624) := ⟨_, rfl⟩; rw [← hc3]
      have hc3b : 0 ≤ c3 ∧ c3 < 1025 := by omega
      refine x_lstore G [(4, xL c3), (7, xL p3), (6, xI 3), (0, xR x), (1, xI f), (2, xI t), (3, xI k)] (by decide) rfl dX1_multiply_47 ?_
      refine x_iinc G [(6, xI 4), (4, xL c3), (7, xL p3), (0, xR x), (1, xI f), (2, xI t), (3, xI k)] 2 rfl (by decide) (by omega) rfl dX1_multiply_49 ?_
      refine x_goto G 13 (by decide) dX1_multiply_52 ?_
      refine x_iload G 0 rfl dX1_multiply_13 ?_
      refine x_aload_n G 3 rfl rfl dX1_multiply_15 ?_
      refine x_alen G 2 hxn hxk (by decide) (fun _ => rfl) (by rw [hxl]; decide) dX1_multiply_16 ?_
      rw [hxl]
      show xX Γ 0 0 n T 17 [(6, xI 4), (4, xL c3), (7, xL p3), (0, xR x), (1, xI f), (2, xI t), (3, xI k)] [xI 5, xI 4] (xst (xst (xst (xst M1 x 0 n0) x 1 n1) x 2 n2) x 3 n3)
      refine x_icmp_ge G 55 (by decide) dX1_multiply_17 (fun c17 => absurd c17 (by decide)) (fun _ => ?_)
      refine x_aload_n G 3 rfl rfl dX1_multiply_20 ?_
      refine x_iload G 0 rfl dX1_multiply_21 ?_
      refine x_lald G hxn hxk (hxl) (by omega) (by omega) dX1_multiply_23 ?_
      show xX Γ 0 0 n T 24 [(6, xI 4), (4, xL c3), (7, xL p3), (0, xR x), (1, xI f), (2, xI t), (3, xI k)] [xL ((xst (xst (xst (xst M1 x 0 n0) x 1 n1) x 2 n2) x 3 n3) x 4)] (xst (xst (xst (xst M1 x 0 n0) x 1 n1) x 2 n2) x 3 n3)
      rw [show (xst (xst (xst (xst M1 x 0 n0) x 1 n1) x 2 n2) x 3 n3) x 4 = (M1 x 4) from ((xst_nq (by omega)).trans ((xst_nq (by omega)).trans ((xst_nq (by omega)).trans (xst_nq (by omega)))))]
      refine x_iload_n G 4 rfl rfl dX1_multiply_24 ?_
      refine x_i2l G dX1_multiply_25 ?_
      have hm4 := km5 (hnm.2.2.2.2.1) (hnm.2.2.2.2.2) hf.1 hf.2
      refine x_lmul G (by omega) dX1_multiply_26 ?_
      refine x_lload G 1 rfl dX1_multiply_27 ?_
      refine x_ladd G (by omega) dX1_multiply_29 ?_
      obtain ⟨p4, hp4⟩ : ∃ p9 : Int, p9 = (((M1 x 4) * f) + c3) := ⟨_, rfl⟩; rw [← hp4]
      have hb4 : 0 ≤ p4 ∧ p4 < 1152921504606850048 := by omega
      refine x_lstore G [(7, xL p4), (6, xI 4), (4, xL c3), (0, xR x), (1, xI f), (2, xI t), (3, xI k)] (by decide) rfl dX1_multiply_30 ?_
      refine x_aload_n G 3 rfl rfl dX1_multiply_32 ?_
      refine x_iload G 1 rfl dX1_multiply_33 ?_
      refine x_lload G 0 rfl dX1_multiply_35 ?_
      refine x_ldc2 G (z := 1125899906842623) (by decide) kc_X1_41 dX1_multiply_37 ?_
      refine x_land G (p4 % 1125899906842624) (x_land50 (by omega) (by omega)) (by omega) dX1_multiply_40 ?_
      obtain ⟨n4, hn4⟩ : ∃ p9 : Int, p9 = (p4 % 1125899906842624) := ⟨_, rfl⟩; rw [← hn4]
      refine x_last G hxn hxk (hxl) (by omega) (by omega) dX1_multiply_41 ?_
      show xX Γ 0 0 n T 42 [(7, xL p4), (6, xI 4), (4, xL c3), (0, xR x), (1, xI f), (2, xI t), (3, xI k)] [] (xst (xst (xst (xst (xst M1 x 0 n0) x 1 n1) x 2 n2) x 3 n3) x 4 n4)
      refine x_lload G 0 rfl dX1_multiply_42 ?_
      refine x_bipush G (by decide) dX1_multiply_44 ?_
      refine x_lshr G (p4 / 1125899906842624) (x_lshr50 (by omega) (by omega)) (by omega) dX1_multiply_46 ?_
      obtain ⟨c4, hc4⟩ : ∃ p9 : Int, p9 = (p4 / 1125899906842624) := ⟨_, rfl⟩; rw [← hc4]
      have hc4b : 0 ≤ c4 ∧ c4 < 1025 := by omega
      refine x_lstore G [(4, xL c4), (7, xL p4), (6, xI 4), (0, xR x), (1, xI f), (2, xI t), (3, xI k)] (by decide) rfl dX1_multiply_47 ?_
      refine x_iinc G [(6, xI 5), (4, xL c4), (7, xL p4), (0, xR x), (1, xI f), (2, xI t), (3, xI k)] 2 rfl (by decide) (by omega) rfl dX1_multiply_49 ?_
      refine x_goto G 13 (by decide) dX1_multiply_52 ?_
      refine x_iload G 0 rfl dX1_multiply_13 ?_
      refine x_aload_n G 3 rfl rfl dX1_multiply_15 ?_
      refine x_alen G 2 hxn hxk (by decide) (fun _ => rfl) (by rw [hxl]; decide) dX1_multiply_16 ?_
      rw [hxl]
      show xX Γ 0 0 n T 17 [(6, xI 5), (4, xL c4), (7, xL p4), (0, xR x), (1, xI f), (2, xI t), (3, xI k)] [xI 5, xI 5] (xst (xst (xst (xst (xst M1 x 0 n0) x 1 n1) x 2 n2) x 3 n3) x 4 n4)
      refine x_icmp_ge G 55 (by decide) dX1_multiply_17 (fun _ => ?_) (fun c17 => absurd c17 (by decide))
      refine x_iinc G [(3, xI (k + 1)), (6, xI 5), (4, xL c4), (7, xL p4), (0, xR x), (1, xI f), (2, xI t)] 6 rfl (by decide) (by omega) rfl dX1_multiply_55 ?_
      refine x_goto G 2 (by decide) dX1_multiply_58 ?_
      refine x_sub [(0, xR x), (1, xI f), (2, xI t), (3, xI (k + 1))] [4, 5, 6, 0] rfl ?_
      exact ih2 _ (by omega) (k + 1) (xst (xst (xst (xst (xst M1 x 0 n0) x 1 n1) x 2 n2) x 3 n3) x 4 n4) rfl (by omega) (by intro q hq; rw [← hfr q hq]; simp [xst, hq]) (by (have e0 : (xst (xst (xst (xst (xst M1 x 0 n0) x 1 n1) x 2 n2) x 3 n3) x 4 n4) x 0 = n0 := (by simp [xst_eq]); have e1 : (xst (xst (xst (xst (xst M1 x 0 n0) x 1 n1) x 2 n2) x 3 n3) x 4 n4) x 1 = n1 := (by simp [xst_eq]); have e2 : (xst (xst (xst (xst (xst M1 x 0 n0) x 1 n1) x 2 n2) x 3 n3) x 4 n4) x 2 = n2 := (by simp [xst_eq]); have e3 : (xst (xst (xst (xst (xst M1 x 0 n0) x 1 n1) x 2 n2) x 3 n3) x 4 n4) x 3 = n3 := (by simp [xst_eq]); have e4 : (xst (xst (xst (xst (xst M1 x 0 n0) x 1 n1) x 2 n2) x 3 n3) x 4 n4) x 4 = n4 := (by simp [xst_eq]); unfold nm5; rw [e0, e1, e2, e3, e4]; omega)) (by
        have hk1 : (k + 1).toNat = k.toNat + 1 := by omega
        have e0 : (xst (xst (xst (xst (xst M1 x 0 n0) x 1 n1) x 2 n2) x 3 n3) x 4 n4) x 0 = n0 := (by simp [xst_eq])
        have e1 : (xst (xst (xst (xst (xst M1 x 0 n0) x 1 n1) x 2 n2) x 3 n3) x 4 n4) x 1 = n1 := (by simp [xst_eq])
        have e2 : (xst (xst (xst (xst (xst M1 x 0 n0) x 1 n1) x 2 n2) x 3 n3) x 4 n4) x 2 = n2 := (by simp [xst_eq])
        have e3 : (xst (xst (xst (xst (xst M1 x 0 n0) x 1 n1) x 2 n2) x 3 n3) x 4 n4) x 3 = n3 := (by simp [xst_eq])
        have e4 : (xst (xst (xst (xst (xst M1 x 0 n0) x 1 n1) x 2 n2) x 3 n3) x 4 n4) x 4 = n4 := (by simp [xst_eq])
        rw [hk1, Int.pow_succ, ← Int.mul_assoc, ← hkv]
        unfold kv5
        rw [e0, e1, e2, e3, e4]
        exact mul5 hp0 hp1 hp2 hp3 hp4 hn0 hn1 hn2 hn3 hn4 hc0 hc1 hc2 hc3 hc4 hb0.1 hb1.1 hb2.1 hb3.1 hb4.1 (hup (by omega)))
  refine x_sub [(0, xR x), (1, xI f), (2, xI t), (3, xI 0)] [1, 2, 3, 0] rfl ?_
  exact loop2 _ 0 M rfl (by omega) (by intro q _; rfl) (hnm) (by simp)
set_option maxRecDepth 100000 in
set_option maxHeartbeats 4000000 in
theorem kX1_compareRows (D : xD) (l : Launch) {n : Nat} {T : xT} {M : xM} (a : Nat) (hS : StL n T a) (hl : nm5 (M (a + 2))) (hr : nm5 (M (a + 3))) : xC D l uX1_compareRows 1 23 0 0 [xR (a + 1)] n T M (xPp n T M (xcmp (kv5 (M (a + 2))) (kv5 (M (a + 3))))) := by
  refine x_met uX1_compareRows (by decide) (Nat.le_of_ble_eq_true rfl) ?_
  intro Γ G Rt _
  have G : xG Γ RX1 cX1_compareRows 2 1 23 0 0 := G
  have Rt : xRt Γ (xPp n T M (xcmp (kv5 (M (a + 2))) (kv5 (M (a + 3))))) (some .int) 0 0 := Rt
  show xX Γ 0 0 n T 0 [(0, xR (a + 1))] [] M
  refine x_iconst G (by decide) dX1_compareRows_0 ?_
  refine x_istore_n G [(1, xI 4), (0, xR (a + 1))] rfl (by decide) rfl dX1_compareRows_1 ?_
  refine x_iload_n G 0 rfl rfl dX1_compareRows_2 ?_
  refine x_if_lt G 44 (by decide) dX1_compareRows_3 (fun c3 => absurd c3 (by decide)) (fun _ => ?_)
  refine x_aload_n G 1 rfl rfl dX1_compareRows_6 ?_
  refine x_get G (xR (a + 2)) xf1_0 lk_X1_11 (st_n hS 1 (by decide)) (st_k hS 1 (by decide)) (Or.inr ⟨rfl, _, (st_r hS 1 0 (by decide) (by decide)), rfl⟩) dX1_compareRows_7 ?_
  refine x_iload_n G 0 rfl rfl dX1_compareRows_10 ?_
  refine x_lald G (st_n hS 2 (by decide)) (st_k hS 2 (by decide)) (show _ = 5 from st_l hS 2 (by decide)) (by omega) (by omega) dX1_compareRows_11 ?_
  show xX Γ 0 0 n T 12 [(1, xI 4), (0, xR (a + 1))] [xL (M (a + 2) 4)] M
  refine x_aload_n G 1 rfl rfl dX1_compareRows_12 ?_
  refine x_get G (xR (a + 3)) xf1_1 lk_X1_15 (st_n hS 1 (by decide)) (st_k hS 1 (by decide)) (Or.inr ⟨rfl, _, (st_r hS 1 1 (by decide) (by decide)), rfl⟩) dX1_compareRows_13 ?_
  refine x_iload_n G 0 rfl rfl dX1_compareRows_16 ?_
  refine x_lald G (st_n hS 3 (by decide)) (st_k hS 3 (by decide)) (show _ = 5 from st_l hS 3 (by decide)) (by omega) (by omega) dX1_compareRows_17 ?_
  show xX Γ 0 0 n T 18 [(1, xI 4), (0, xR (a + 1))] [xL (M (a + 3) 4), xL (M (a + 2) 4)] M
  refine x_lcmp G dX1_compareRows_18 ?_
  refine x_if_eq G 38 (by decide) dX1_compareRows_19 (fun c19 => ?_) (fun c19 => ?_)
  · skip
    have c19 := xcmp_eq.mp c19
    refine x_iinc G [(1, xI 3), (0, xR (a + 1))] 0 rfl (by decide) (by omega) rfl dX1_compareRows_38 ?_
    refine x_goto G 2 (by decide) dX1_compareRows_41 ?_
    refine x_iload_n G 0 rfl rfl dX1_compareRows_2 ?_
    refine x_if_lt G 44 (by decide) dX1_compareRows_3 (fun c3 => absurd c3 (by decide)) (fun _ => ?_)
    refine x_aload_n G 1 rfl rfl dX1_compareRows_6 ?_
    refine x_get G (xR (a + 2)) xf1_0 lk_X1_11 (st_n hS 1 (by decide)) (st_k hS 1 (by decide)) (Or.inr ⟨rfl, _, (st_r hS 1 0 (by decide) (by decide)), rfl⟩) dX1_compareRows_7 ?_
    refine x_iload_n G 0 rfl rfl dX1_compareRows_10 ?_
    refine x_lald G (st_n hS 2 (by decide)) (st_k hS 2 (by decide)) (show _ = 5 from st_l hS 2 (by decide)) (by omega) (by omega) dX1_compareRows_11 ?_
    show xX Γ 0 0 n T 12 [(1, xI 3), (0, xR (a + 1))] [xL (M (a + 2) 3)] M
    refine x_aload_n G 1 rfl rfl dX1_compareRows_12 ?_
    refine x_get G (xR (a + 3)) xf1_1 lk_X1_15 (st_n hS 1 (by decide)) (st_k hS 1 (by decide)) (Or.inr ⟨rfl, _, (st_r hS 1 1 (by decide) (by decide)), rfl⟩) dX1_compareRows_13 ?_
    refine x_iload_n G 0 rfl rfl dX1_compareRows_16 ?_
    refine x_lald G (st_n hS 3 (by decide)) (st_k hS 3 (by decide)) (show _ = 5 from st_l hS 3 (by decide)) (by omega) (by omega) dX1_compareRows_17 ?_
    show xX Γ 0 0 n T 18 [(1, xI 3), (0, xR (a + 1))] [xL (M (a + 3) 3), xL (M (a + 2) 3)] M
    refine x_lcmp G dX1_compareRows_18 ?_
    refine x_if_eq G 38 (by decide) dX1_compareRows_19 (fun c19 => ?_) (fun c19 => ?_)
    · skip
      have c19 := xcmp_eq.mp c19
      refine x_iinc G [(1, xI 2), (0, xR (a + 1))] 0 rfl (by decide) (by omega) rfl dX1_compareRows_38 ?_
      refine x_goto G 2 (by decide) dX1_compareRows_41 ?_
      refine x_iload_n G 0 rfl rfl dX1_compareRows_2 ?_
      refine x_if_lt G 44 (by decide) dX1_compareRows_3 (fun c3 => absurd c3 (by decide)) (fun _ => ?_)
      refine x_aload_n G 1 rfl rfl dX1_compareRows_6 ?_
      refine x_get G (xR (a + 2)) xf1_0 lk_X1_11 (st_n hS 1 (by decide)) (st_k hS 1 (by decide)) (Or.inr ⟨rfl, _, (st_r hS 1 0 (by decide) (by decide)), rfl⟩) dX1_compareRows_7 ?_
      refine x_iload_n G 0 rfl rfl dX1_compareRows_10 ?_
      refine x_lald G (st_n hS 2 (by decide)) (st_k hS 2 (by decide)) (show _ = 5 from st_l hS 2 (by decide)) (by omega) (by omega) dX1_compareRows_11 ?_
      show xX Γ 0 0 n T 12 [(1, xI 2), (0, xR (a + 1))] [xL (M (a + 2) 2)] M
      refine x_aload_n G 1 rfl rfl dX1_compareRows_12 ?_
      refine x_get G (xR (a + 3)) xf1_1 lk_X1_15 (st_n hS 1 (by decide)) (st_k hS 1 (by decide)) (Or.inr ⟨rfl, _, (st_r hS 1 1 (by decide) (by decide)), rfl⟩) dX1_compareRows_13 ?_
      refine x_iload_n G 0 rfl rfl dX1_compareRows_16 ?_
      refine x_lald G (st_n hS 3 (by decide)) (st_k hS 3 (by decide)) (show _ = 5 from st_l hS 3 (by decide)) (by omega) (by omega) dX1_compareRows_17 ?_
      show xX Γ 0 0 n T 18 [(1, xI 2), (0, xR (a + 1))] [xL (M (a + 3) 2), xL (M (a + 2) 2)] M
      refine x_lcmp G dX1_compareRows_18 ?_
      refine x_if_eq G 38 (by decide) dX1_compareRows_19 (fun c19 => ?_) (fun c19 => ?_)
      · skip
        have c19 := xcmp_eq.mp c19
        refine x_iinc G [(1, xI 1), (0, xR (a + 1))] 0 rfl (by decide) (by omega) rfl dX1_compareRows_38 ?_
        refine x_goto G 2 (by decide) dX1_compareRows_41 ?_
        refine x_iload_n G 0 rfl rfl dX1_compareRows_2 ?_
        refine x_if_lt G 44 (by decide) dX1_compareRows_3 (fun c3 => absurd c3 (by decide)) (fun _ => ?_)
        refine x_aload_n G 1 rfl rfl dX1_compareRows_6 ?_
        refine x_get G (xR (a + 2)) xf1_0 lk_X1_11 (st_n hS 1 (by decide)) (st_k hS 1 (by decide)) (Or.inr ⟨rfl, _, (st_r hS 1 0 (by decide) (by decide)), rfl⟩) dX1_compareRows_7 ?_
        refine x_iload_n G 0 rfl rfl dX1_compareRows_10 ?_
        refine x_lald G (st_n hS 2 (by decide)) (st_k hS 2 (by decide)) (show _ = 5 from st_l hS 2 (by decide)) (by omega) (by omega) dX1_compareRows_11 ?_
        show xX Γ 0 0 n T 12 [(1, xI 1), (0, xR (a + 1))] [xL (M (a + 2) 1)] M
        refine x_aload_n G 1 rfl rfl dX1_compareRows_12 ?_
        refine x_get G (xR (a + 3)) xf1_1 lk_X1_15 (st_n hS 1 (by decide)) (st_k hS 1 (by decide)) (Or.inr ⟨rfl, _, (st_r hS 1 1 (by decide) (by decide)), rfl⟩) dX1_compareRows_13 ?_
        refine x_iload_n G 0 rfl rfl dX1_compareRows_16 ?_
        refine x_lald G (st_n hS 3 (by decide)) (st_k hS 3 (by decide)) (show _ = 5 from st_l hS 3 (by decide)) (by omega) (by omega) dX1_compareRows_17 ?_
        show xX Γ 0 0 n T 18 [(1, xI 1), (0, xR (a + 1))] [xL (M (a + 3) 1), xL (M (a + 2) 1)] M
        refine x_lcmp G dX1_compareRows_18 ?_
        refine x_if_eq G 38 (by decide) dX1_compareRows_19 (fun c19 => ?_) (fun c19 => ?_)
        · skip
          have c19 := xcmp_eq.mp c19
          refine x_iinc G [(1, xI 0), (0, xR (a + 1))] 0 rfl (by decide) (by omega) rfl dX1_compareRows_38 ?_
          refine x_goto G 2 (by decide) dX1_compareRows_41 ?_
          refine x_iload_n G 0 rfl rfl dX1_compareRows_2 ?_
          refine x_if_lt G 44 (by decide) dX1_compareRows_3 (fun c3 => absurd c3 (by decide)) (fun _ => ?_)
          refine x_aload_n G 1 rfl rfl dX1_compareRows_6 ?_
          refine x_get G (xR (a + 2)) xf1_0 lk_X1_11 (st_n hS 1 (by decide)) (st_k hS 1 (by decide)) (Or.inr ⟨rfl, _, (st_r hS 1 0 (by decide) (by decide)), rfl⟩) dX1_compareRows_7 ?_
          refine x_iload_n G 0 rfl rfl dX1_compareRows_10 ?_
          refine x_lald G (st_n hS 2 (by decide)) (st_k hS 2 (by decide)) (show _ = 5 from st_l hS 2 (by decide)) (by omega) (by omega) dX1_compareRows_11 ?_
          show xX Γ 0 0 n T 12 [(1, xI 0), (0, xR (a + 1))] [xL (M (a + 2) 0)] M
          refine x_aload_n G 1 rfl rfl dX1_compareRows_12 ?_
          refine x_get G (xR (a + 3)) xf1_1 lk_X1_15 (st_n hS 1 (by decide)) (st_k hS 1 (by decide)) (Or.inr ⟨rfl, _, (st_r hS 1 1 (by decide) (by decide)), rfl⟩) dX1_compareRows_13 ?_
          refine x_iload_n G 0 rfl rfl dX1_compareRows_16 ?_
          refine x_lald G (st_n hS 3 (by decide)) (st_k hS 3 (by decide)) (show _ = 5 from st_l hS 3 (by decide)) (by omega) (by omega) dX1_compareRows_17 ?_
          show xX Γ 0 0 n T 18 [(1, xI 0), (0, xR (a + 1))] [xL (M (a + 3) 0), xL (M (a + 2) 0)] M
          refine x_lcmp G dX1_compareRows_18 ?_
          refine x_if_eq G 38 (by decide) dX1_compareRows_19 (fun c19 => ?_) (fun c19 => ?_)
          · skip
            have c19 := xcmp_eq.mp c19
            refine x_iinc G [(1, xI (-1)), (0, xR (a + 1))] 0 rfl (by decide) (by omega) rfl dX1_compareRows_38 ?_
            refine x_goto G 2 (by decide) dX1_compareRows_41 ?_
            refine x_iload_n G 0 rfl rfl dX1_compareRows_2 ?_
            refine x_if_lt G 44 (by decide) dX1_compareRows_3 (fun _ => ?_) (fun c3 => absurd c3 (by decide))
            refine x_iconst G (by decide) dX1_compareRows_44 ?_
            exact x_iret G Rt dX1_compareRows_45 ⟨rfl, rfl, congrArg (fun z => some (xI z)) (by first | exact xcmp_cg (by unfold kv5; omega) (by unfold kv5; omega) | (unfold kv5 xcmp; split <;> (try split) <;> omega)), rfl⟩
          · skip
            have c19 : ¬ _ = _ := fun h => c19 (xcmp_eq.mpr h)
            refine x_aload_n G 1 rfl rfl dX1_compareRows_22 ?_
            refine x_get G (xR (a + 2)) xf1_0 lk_X1_11 (st_n hS 1 (by decide)) (st_k hS 1 (by decide)) (Or.inr ⟨rfl, _, (st_r hS 1 0 (by decide) (by decide)), rfl⟩) dX1_compareRows_23 ?_
            refine x_iload_n G 0 rfl rfl dX1_compareRows_26 ?_
            refine x_lald G (st_n hS 2 (by decide)) (st_k hS 2 (by decide)) (show _ = 5 from st_l hS 2 (by decide)) (by omega) (by omega) dX1_compareRows_27 ?_
            show xX Γ 0 0 n T 28 [(1, xI 0), (0, xR (a + 1))] [xL (M (a + 2) 0)] M
            refine x_aload_n G 1 rfl rfl dX1_compareRows_28 ?_
            refine x_get G (xR (a + 3)) xf1_1 lk_X1_15 (st_n hS 1 (by decide)) (st_k hS 1 (by decide)) (Or.inr ⟨rfl, _, (st_r hS 1 1 (by decide) (by decide)), rfl⟩) dX1_compareRows_29 ?_
            refine x_iload_n G 0 rfl rfl dX1_compareRows_32 ?_
            refine x_lald G (st_n hS 3 (by decide)) (st_k hS 3 (by decide)) (show _ = 5 from st_l hS 3 (by decide)) (by omega) (by omega) dX1_compareRows_33 ?_
            show xX Γ 0 0 n T 34 [(1, xI 0), (0, xR (a + 1))] [xL (M (a + 3) 0), xL (M (a + 2) 0)] M
            refine x_callSp G [] [xL (M (a + 2) 0), xL (M (a + 3) 0)] hy_J13_compare_74951 ht_J13_compare_74951 ml_X1_43 rfl rfl (kJ13_compare_74951 _ _ (M (a + 2) 0) (M (a + 3) 0)) (by decide) (by decide) (Nat.le_of_ble_eq_true rfl) dX1_compareRows_34 ?_
            exact x_iret G Rt dX1_compareRows_37 ⟨rfl, rfl, congrArg (fun z => some (xI z)) (by first | exact xcmp_cg (by unfold kv5; omega) (by unfold kv5; omega) | (unfold kv5 xcmp; split <;> (try split) <;> omega)), rfl⟩
        · skip
          have c19 : ¬ _ = _ := fun h => c19 (xcmp_eq.mpr h)
          refine x_aload_n G 1 rfl rfl dX1_compareRows_22 ?_
          refine x_get G (xR (a + 2)) xf1_0 lk_X1_11 (st_n hS 1 (by decide)) (st_k hS 1 (by decide)) (Or.inr ⟨rfl, _, (st_r hS 1 0 (by decide) (by decide)), rfl⟩) dX1_compareRows_23 ?_
          refine x_iload_n G 0 rfl rfl dX1_compareRows_26 ?_
          refine x_lald G (st_n hS 2 (by decide)) (st_k hS 2 (by decide)) (show _ = 5 from st_l hS 2 (by decide)) (by omega) (by omega) dX1_compareRows_27 ?_
          show xX Γ 0 0 n T 28 [(1, xI 1), (0, xR (a + 1))] [xL (M (a + 2) 1)] M
          refine x_aload_n G 1 rfl rfl dX1_compareRows_28 ?_
          refine x_get G (xR (a + 3)) xf1_1 lk_X1_15 (st_n hS 1 (by decide)) (st_k hS 1 (by decide)) (Or.inr ⟨rfl, _, (st_r hS 1 1 (by decide) (by decide)), rfl⟩) dX1_compareRows_29 ?_
          refine x_iload_n G 0 rfl rfl dX1_compareRows_32 ?_
          refine x_lald G (st_n hS 3 (by decide)) (st_k hS 3 (by decide)) (show _ = 5 from st_l hS 3 (by decide)) (by omega) (by omega) dX1_compareRows_33 ?_
          show xX Γ 0 0 n T 34 [(1, xI 1), (0, xR (a + 1))] [xL (M (a + 3) 1), xL (M (a + 2) 1)] M
          refine x_callSp G [] [xL (M (a + 2) 1), xL (M (a + 3) 1)] hy_J13_compare_74951 ht_J13_compare_74951 ml_X1_43 rfl rfl (kJ13_compare_74951 _ _ (M (a + 2) 1) (M (a + 3) 1)) (by decide) (by decide) (Nat.le_of_ble_eq_true rfl) dX1_compareRows_34 ?_
          exact x_iret G Rt dX1_compareRows_37 ⟨rfl, rfl, congrArg (fun z => some (xI z)) (by first | exact xcmp_cg (by unfold kv5; omega) (by unfold kv5; omega) | (unfold kv5 xcmp; split <;> (try split) <;> omega)), rfl⟩
      · skip
        have c19 : ¬ _ = _ := fun h => c19 (xcmp_eq.mpr h)
        refine x_aload_n G 1 rfl rfl dX1_compareRows_22 ?_
        refine x_get G (xR (a + 2)) xf1_0 lk_X1_11 (st_n hS 1 (by decide)) (st_k hS 1 (by decide)) (Or.inr ⟨rfl, _, (st_r hS 1 0 (by decide) (by decide)), rfl⟩) dX1_compareRows_23 ?_
        refine x_iload_n G 0 rfl rfl dX1_compareRows_26 ?_
        refine x_lald G (st_n hS 2 (by decide)) (st_k hS 2 (by decide)) (show _ = 5 from st_l hS 2 (by decide)) (by omega) (by omega) dX1_compareRows_27 ?_
        show xX Γ 0 0 n T 28 [(1, xI 2), (0, xR (a + 1))] [xL (M (a + 2) 2)] M
        refine x_aload_n G 1 rfl rfl dX1_compareRows_28 ?_
        refine x_get G (xR (a + 3)) xf1_1 lk_X1_15 (st_n hS 1 (by decide)) (st_k hS 1 (by decide)) (Or.inr ⟨rfl, _, (st_r hS 1 1 (by decide) (by decide)), rfl⟩) dX1_compareRows_29 ?_
        refine x_iload_n G 0 rfl rfl dX1_compareRows_32 ?_
        refine x_lald G (st_n hS 3 (by decide)) (st_k hS 3 (by decide)) (show _ = 5 from st_l hS 3 (by decide)) (by omega) (by omega) dX1_compareRows_33 ?_
        show xX Γ 0 0 n T 34 [(1, xI 2), (0, xR (a + 1))] [xL (M (a + 3) 2), xL (M (a + 2) 2)] M
        refine x_callSp G [] [xL (M (a + 2) 2), xL (M (a + 3) 2)] hy_J13_compare_74951 ht_J13_compare_74951 ml_X1_43 rfl rfl (kJ13_compare_74951 _ _ (M (a + 2) 2) (M (a + 3) 2)) (by decide) (by decide) (Nat.le_of_ble_eq_true rfl) dX1_compareRows_34 ?_
        exact x_iret G Rt dX1_compareRows_37 ⟨rfl, rfl, congrArg (fun z => some (xI z)) (by first | exact xcmp_cg (by unfold kv5; omega) (by unfold kv5; omega) | (unfold kv5 xcmp; split <;> (try split) <;> omega)), rfl⟩
    · skip
      have c19 : ¬ _ = _ := fun h => c19 (xcmp_eq.mpr h)
      refine x_aload_n G 1 rfl rfl dX1_compareRows_22 ?_
      refine x_get G (xR (a + 2)) xf1_0 lk_X1_11 (st_n hS 1 (by decide)) (st_k hS 1 (by decide)) (Or.inr ⟨rfl, _, (st_r hS 1 0 (by decide) (by decide)), rfl⟩) dX1_compareRows_23 ?_
      refine x_iload_n G 0 rfl rfl dX1_compareRows_26 ?_
      refine x_lald G (st_n hS 2 (by decide)) (st_k hS 2 (by decide)) (show _ = 5 from st_l hS 2 (by decide)) (by omega) (by omega) dX1_compareRows_27 ?_
      show xX Γ 0 0 n T 28 [(1, xI 3), (0, xR (a + 1))] [xL (M (a + 2) 3)] M
      refine x_aload_n G 1 rfl rfl dX1_compareRows_28 ?_
      refine x_get G (xR (a + 3)) xf1_1 lk_X1_15 (st_n hS 1 (by decide)) (st_k hS 1 (by decide)) (Or.inr ⟨rfl, _, (st_r hS 1 1 (by decide) (by decide)), rfl⟩) dX1_compareRows_29 ?_
      refine x_iload_n G 0 rfl rfl dX1_compareRows_32 ?_
      refine x_lald G (st_n hS 3 (by decide)) (st_k hS 3 (by decide)) (show _ = 5 from st_l hS 3 (by decide)) (by omega) (by omega) dX1_compareRows_33 ?_
      show xX Γ 0 0 n T 34 [(1, xI 3), (0, xR (a + 1))] [xL (M (a + 3) 3), xL (M (a + 2) 3)] M
      refine x_callSp G [] [xL (M (a + 2) 3), xL (M (a + 3) 3)] hy_J13_compare_74951 ht_J13_compare_74951 ml_X1_43 rfl rfl (kJ13_compare_74951 _ _ (M (a + 2) 3) (M (a + 3) 3)) (by decide) (by decide) (Nat.le_of_ble_eq_true rfl) dX1_compareRows_34 ?_
      exact x_iret G Rt dX1_compareRows_37 ⟨rfl, rfl, congrArg (fun z => some (xI z)) (by first | exact xcmp_cg (by unfold kv5; omega) (by unfold kv5; omega) | (unfold kv5 xcmp; split <;> (try split) <;> omega)), rfl⟩
  · skip
    have c19 : ¬ _ = _ := fun h => c19 (xcmp_eq.mpr h)
    refine x_aload_n G 1 rfl rfl dX1_compareRows_22 ?_
    refine x_get G (xR (a + 2)) xf1_0 lk_X1_11 (st_n hS 1 (by decide)) (st_k hS 1 (by decide)) (Or.inr ⟨rfl, _, (st_r hS 1 0 (by decide) (by decide)), rfl⟩) dX1_compareRows_23 ?_
    refine x_iload_n G 0 rfl rfl dX1_compareRows_26 ?_
    refine x_lald G (st_n hS 2 (by decide)) (st_k hS 2 (by decide)) (show _ = 5 from st_l hS 2 (by decide)) (by omega) (by omega) dX1_compareRows_27 ?_
    show xX Γ 0 0 n T 28 [(1, xI 4), (0, xR (a + 1))] [xL (M (a + 2) 4)] M
    refine x_aload_n G 1 rfl rfl dX1_compareRows_28 ?_
    refine x_get G (xR (a + 3)) xf1_1 lk_X1_15 (st_n hS 1 (by decide)) (st_k hS 1 (by decide)) (Or.inr ⟨rfl, _, (st_r hS 1 1 (by decide) (by decide)), rfl⟩) dX1_compareRows_29 ?_
    refine x_iload_n G 0 rfl rfl dX1_compareRows_32 ?_
    refine x_lald G (st_n hS 3 (by decide)) (st_k hS 3 (by decide)) (show _ = 5 from st_l hS 3 (by decide)) (by omega) (by omega) dX1_compareRows_33 ?_
    show xX Γ 0 0 n T 34 [(1, xI 4), (0, xR (a + 1))] [xL (M (a + 3) 4), xL (M (a + 2) 4)] M
    refine x_callSp G [] [xL (M (a + 2) 4), xL (M (a + 3) 4)] hy_J13_compare_74951 ht_J13_compare_74951 ml_X1_43 rfl rfl (kJ13_compare_74951 _ _ (M (a + 2) 4) (M (a + 3) 4)) (by decide) (by decide) (Nat.le_of_ble_eq_true rfl) dX1_compareRows_34 ?_
    exact x_iret G Rt dX1_compareRows_37 ⟨rfl, rfl, congrArg (fun z => some (xI z)) (by first | exact xcmp_cg (by unfold kv5; omega) (by unfold kv5; omega) | (unfold kv5 xcmp; split <;> (try split) <;> omega)), rfl⟩
set_option maxRecDepth 100000 in
set_option maxHeartbeats 4000000 in
theorem kX1_compare (D : xD) (l : Launch) {n : Nat} {T : xT} {M : xM} (a : Nat) (l1 w1 l2 w2 : Int) (hS : StL n T a) (h1 : 1 ≤ l1 ∧ l1 ≤ 1023) (h2 : 1 ≤ w1 ∧ w1 ≤ 20) (h3 : 1 ≤ l2 ∧ l2 ≤ 1023) (h4 : 1 ≤ w2 ∧ w2 ≤ 20) : xC D l uX1_compare 2 44 0 0 [xR (a + 1), xI l1, xI w1, xI l2, xI w2] n T M (xPI n T (fun z M2 => z = kc l1 w1 l2 w2 ∧ xof [a + 2, a + 3] M M2)) := by
  refine x_met uX1_compare (by decide) (Nat.le_of_ble_eq_true rfl) ?_
  intro Γ G Rt _
  have G : xG Γ RX1 cX1_compare 6 2 44 0 0 := G
  have Rt : xRt Γ (xPI n T (fun z M2 => z = kc l1 w1 l2 w2 ∧ xof [a + 2, a + 3] M M2)) (some .int) 0 0 := Rt
  show xX Γ 0 0 n T 0 [(0, xR (a + 1)), (1, xI l1), (2, xI w1), (3, xI l2), (4, xI w2)] [] M
  refine x_iload_n G 2 rfl rfl dX1_compare_0 ?_
  refine x_iload G 4 rfl dX1_compare_1 ?_
  refine x_icmp_ne G 12 (by decide) dX1_compare_3 (fun c3 => ?_) (fun c3 => ?_)
  · skip
    refine x_iload_n G 1 rfl rfl dX1_compare_12 ?_
    refine x_iload_n G 3 rfl rfl dX1_compare_13 ?_
    refine x_icmp_eq G 41 (by decide) dX1_compare_14 (fun c14 => ?_) (fun c14 => ?_)
    · skip
      refine x_iload_n G 2 rfl rfl dX1_compare_41 ?_
      refine x_iload G 4 rfl dX1_compare_42 ?_
      refine x_callSp G [] [xI w1, xI w2] hy_J6_compare_7cf53 ht_J6_compare_7cf53 ml_X1_18 rfl rfl (kJ6_compare_7cf53 _ _ w1 w2) (by decide) (by decide) (Nat.le_of_ble_eq_true rfl) dX1_compare_44 ?_
      exact x_iret G Rt dX1_compare_47 ⟨rfl, rfl, _, rfl, ⟨by (first | (have hl : l1 = l2 := (by omega); subst hl; exact (kc_l h1.1 h1.2 h2.1 h4.1).symm) | exact (kc_gt h3.1 h1.2 (by omega) h4.1 (by omega)).symm | exact (kc_lt h1.1 h3.2 (by omega) h2.1 (by omega)).symm), fun k _ => rfl⟩⟩
    · skip
      refine x_iload_n G 1 rfl rfl dX1_compare_17 ?_
      refine x_iload_n G 3 rfl rfl dX1_compare_18 ?_
      refine x_icmp_le G 26 (by decide) dX1_compare_19 (fun c19 => ?_) (fun c19 => ?_)
      · skip
        refine x_iconst G (by decide) dX1_compare_26 ?_
        refine x_iload_n G 2 rfl rfl dX1_compare_27 ?_
        refine x_iload G 4 rfl dX1_compare_28 ?_
        refine x_icmp_le G 37 (by decide) dX1_compare_30 (fun c30 => ?_) (fun c30 => ?_)
        · skip
          refine x_iconst G (by decide) dX1_compare_37 ?_
          refine x_icmp_ne G 48 (by decide) dX1_compare_38 (fun c38 => absurd c38 (by decide)) (fun _ => ?_)
          refine x_iload_n G 2 rfl rfl dX1_compare_41 ?_
          refine x_iload G 4 rfl dX1_compare_42 ?_
          refine x_callSp G [] [xI w1, xI w2] hy_J6_compare_7cf53 ht_J6_compare_7cf53 ml_X1_18 rfl rfl (kJ6_compare_7cf53 _ _ w1 w2) (by decide) (by decide) (Nat.le_of_ble_eq_true rfl) dX1_compare_44 ?_
          exact x_iret G Rt dX1_compare_47 ⟨rfl, rfl, _, rfl, ⟨by (first | (have hl : l1 = l2 := (by omega); subst hl; exact (kc_l h1.1 h1.2 h2.1 h4.1).symm) | exact (kc_gt h3.1 h1.2 (by omega) h4.1 (by omega)).symm | exact (kc_lt h1.1 h3.2 (by omega) h2.1 (by omega)).symm), fun k _ => rfl⟩⟩
        · skip
          refine x_iconst G (by decide) dX1_compare_33 ?_
          refine x_goto G 38 (by decide) dX1_compare_34 ?_
          refine x_icmp_ne G 48 (by decide) dX1_compare_38 (fun _ => ?_) (fun c38 => absurd c38 (by decide))
          refine x_iload_n G 2 rfl rfl dX1_compare_48 ?_
          refine x_iload G 4 rfl dX1_compare_49 ?_
          refine x_min G ml_X1_24 stat_min ini_Math code_min (by decide) (by decide) (Nat.le_of_ble_eq_true rfl) dX1_compare_51 ?_
          obtain ⟨c, hc⟩ : ∃ p9 : Int, p9 = (if w2 < w1 then w2 else w1) := ⟨_, rfl⟩; rw [← hc]
          have hcb : c ≤ w1 ∧ c ≤ w2 ∧ (c = w1 ∨ c = w2) := by (split at hc <;> omega)
          refine x_istore G [(5, xI c), (0, xR (a + 1)), (1, xI l1), (2, xI w1), (3, xI l2), (4, xI w2)] (by decide) rfl dX1_compare_54 ?_
          refine x_aload_n G 1 rfl rfl dX1_compare_56 ?_
          refine x_get G (xR (a + 2)) xf1_0 lk_X1_11 (st_n hS 1 (by decide)) (st_k hS 1 (by decide)) (Or.inr ⟨rfl, _, (st_r hS 1 0 (by decide) (by decide)), rfl⟩) dX1_compare_57 ?_
          refine x_callSV G [] [xR (a + 2)] hy_X1_setToOne ht_X1_setToOne ml_X1_29 rfl rfl (kX1_setToOne _ _ (a + 2) (st_n hS 2 (by decide)) (st_k hS 2 (by decide)) (show _ = 5 from st_l hS 2 (by decide))) (by decide) (by decide) (Nat.le_of_ble_eq_true rfl) dX1_compare_60 (fun M60 h60 => ?_)
          refine x_aload_n G 1 rfl rfl dX1_compare_63 ?_
          refine x_get G (xR (a + 2)) xf1_0 lk_X1_11 (st_n hS 1 (by decide)) (st_k hS 1 (by decide)) (Or.inr ⟨rfl, _, (st_r hS 1 0 (by decide) (by decide)), rfl⟩) dX1_compare_64 ?_
          refine x_iload_n G 2 rfl rfl dX1_compare_67 ?_
          refine x_iload G 5 rfl dX1_compare_68 ?_
          refine x_callSV G [] [xR (a + 2), xI l1, xI w2] hy_X1_multiply ht_X1_multiply ml_X1_33 rfl rfl (kX1_multiply _ _ (a + 2) l1 w2 (st_n hS 2 (by decide)) (st_k hS 2 (by decide)) (show _ = 5 from st_l hS 2 (by decide)) (by omega) (by omega) h60.2.1 (by rw [h60.2.2]; exact kb1 h1.1 (by omega) (by omega))) (by decide) (by decide) (Nat.le_of_ble_eq_true rfl) dX1_compare_70 (fun M70 h70 => ?_)
          refine x_aload_n G 1 rfl rfl dX1_compare_73 ?_
          refine x_get G (xR (a + 2)) xf1_0 lk_X1_11 (st_n hS 1 (by decide)) (st_k hS 1 (by decide)) (Or.inr ⟨rfl, _, (st_r hS 1 0 (by decide) (by decide)), rfl⟩) dX1_compare_74 ?_
          refine x_sipush G (by decide) dX1_compare_77 ?_
          refine x_iload_n G 3 rfl rfl dX1_compare_80 ?_
          refine x_iload G 0 rfl dX1_compare_81 ?_
          refine x_isub G (by omega) dX1_compare_83 ?_
          refine x_callSV G [] [xR (a + 2), xI 1024, xI (w1 - c)] hy_X1_multiply ht_X1_multiply ml_X1_33 rfl rfl (kX1_multiply _ _ (a + 2) 1024 (w1 - c) (st_n hS 2 (by decide)) (st_k hS 2 (by decide)) (show _ = 5 from st_l hS 2 (by decide)) (by omega) (by omega) h70.2.1 (by rw [h70.2.2, h60.2.2]; exact kb2 h1.1 (by omega) (by omega))) (by decide) (by decide) (Nat.le_of_ble_eq_true rfl) dX1_compare_84 (fun M84 h84 => ?_)
          refine x_aload_n G 1 rfl rfl dX1_compare_87 ?_
          refine x_get G (xR (a + 3)) xf1_1 lk_X1_15 (st_n hS 1 (by decide)) (st_k hS 1 (by decide)) (Or.inr ⟨rfl, _, (st_r hS 1 1 (by decide) (by decide)), rfl⟩) dX1_compare_88 ?_
          refine x_callSV G [] [xR (a + 3)] hy_X1_setToOne ht_X1_setToOne ml_X1_29 rfl rfl (kX1_setToOne _ _ (a + 3) (st_n hS 3 (by decide)) (st_k hS 3 (by decide)) (show _ = 5 from st_l hS 3 (by decide))) (by decide) (by decide) (Nat.le_of_ble_eq_true rfl) dX1_compare_91 (fun M91 h91 => ?_)
          refine x_aload_n G 1 rfl rfl dX1_compare_94 ?_
          refine x_get G (xR (a + 3)) xf1_1 lk_X1_15 (st_n hS 1 (by decide)) (st_k hS 1 (by decide)) (Or.inr ⟨rfl, _, (st_r hS 1 1 (by decide) (by decide)), rfl⟩) dX1_compare_95 ?_
          refine x_iload_n G 4 rfl rfl dX1_compare_98 ?_
          refine x_iload_n G 3 rfl rfl dX1_compare_99 ?_
          refine x_callSV G [] [xR (a + 3), xI l2, xI w1] hy_X1_multiply ht_X1_multiply ml_X1_33 rfl rfl (kX1_multiply _ _ (a + 3) l2 w1 (st_n hS 3 (by decide)) (st_k hS 3 (by decide)) (show _ = 5 from st_l hS 3 (by decide)) (by omega) (by omega) h91.2.1 (by rw [h91.2.2]; exact kb1 h3.1 (by omega) (by omega))) (by decide) (by decide) (Nat.le_of_ble_eq_true rfl) dX1_compare_100 (fun M100 h100 => ?_)
          refine x_aload_n G 1 rfl rfl dX1_compare_103 ?_
          refine x_get G (xR (a + 3)) xf1_1 lk_X1_15 (st_n hS 1 (by decide)) (st_k hS 1 (by decide)) (Or.inr ⟨rfl, _, (st_r hS 1 1 (by decide) (by decide)), rfl⟩) dX1_compare_104 ?_
          refine x_sipush G (by decide) dX1_compare_107 ?_
          refine x_iload G 5 rfl dX1_compare_110 ?_
          refine x_iload G 0 rfl dX1_compare_112 ?_
          refine x_isub G (by omega) dX1_compare_114 ?_
          refine x_callSV G [] [xR (a + 3), xI 1024, xI (w2 - c)] hy_X1_multiply ht_X1_multiply ml_X1_33 rfl rfl (kX1_multiply _ _ (a + 3) 1024 (w2 - c) (st_n hS 3 (by decide)) (st_k hS 3 (by decide)) (show _ = 5 from st_l hS 3 (by decide)) (by omega) (by omega) h100.2.1 (by rw [h100.2.2, h91.2.2]; exact kb2 h3.1 (by omega) (by omega))) (by decide) (by decide) (Nat.le_of_ble_eq_true rfl) dX1_compare_115 (fun M115 h115 => ?_)
          refine x_aload_n G 1 rfl rfl dX1_compare_118 ?_
          refine x_callVp G [] [] rfl (by decide) (st_n hS 1 (by decide)) (st_k hS 1 (by decide)) hy_X1_compareRows hi_X1_compareRows hs_X1_compareRows ml_X1_37 rfl rfl (kX1_compareRows _ _ a hS (by rw [h115.1 _ (by omega), h100.1 _ (by omega), h91.1 _ (by omega)]; exact h84.2.1) h115.2.1) (by decide) (by decide) (Nat.le_of_ble_eq_true rfl) dX1_compare_119 ?_
          exact x_iret G Rt dX1_compare_122 ⟨rfl, rfl, _, rfl, ⟨by
      rw [h115.2.2, h100.2.2, h91.2.2, h115.1 _ (by omega), h100.1 _ (by omega), h91.1 _ (by omega), h84.2.2, h70.2.2, h60.2.2]
      exact kc_main hcb.1 hcb.2.1 (by omega), fun k hk => by
      have hk2 : k ≠ a + 2 ∧ k ≠ a + 3 := (by simp at hk; omega)
      rw [h115.1 _ hk2.2, h100.1 _ hk2.2, h91.1 _ hk2.2, h84.1 _ hk2.1, h70.1 _ hk2.1, h60.1 _ hk2.1]⟩⟩
      · skip
        refine x_iconst G (by decide) dX1_compare_22 ?_
        refine x_goto G 27 (by decide) dX1_compare_23 ?_
        refine x_iload_n G 2 rfl rfl dX1_compare_27 ?_
        refine x_iload G 4 rfl dX1_compare_28 ?_
        refine x_icmp_le G 37 (by decide) dX1_compare_30 (fun c30 => ?_) (fun c30 => ?_)
        · skip
          refine x_iconst G (by decide) dX1_compare_37 ?_
          refine x_icmp_ne G 48 (by decide) dX1_compare_38 (fun _ => ?_) (fun c38 => absurd c38 (by decide))
          refine x_iload_n G 2 rfl rfl dX1_compare_48 ?_
          refine x_iload G 4 rfl dX1_compare_49 ?_
          refine x_min G ml_X1_24 stat_min ini_Math code_min (by decide) (by decide) (Nat.le_of_ble_eq_true rfl) dX1_compare_51 ?_
          obtain ⟨c, hc⟩ : ∃ p9 : Int, p9 = (if w2 < w1 then w2 else w1) := ⟨_, rfl⟩; rw [← hc]
          have hcb : c ≤ w1 ∧ c ≤ w2 ∧ (c = w1 ∨ c = w2) := by (split at hc <;> omega)
          refine x_istore G [(5, xI c), (0, xR (a + 1)), (1, xI l1), (2, xI w1), (3, xI l2), (4, xI w2)] (by decide) rfl dX1_compare_54 ?_
          refine x_aload_n G 1 rfl rfl dX1_compare_56 ?_
          refine x_get G (xR (a + 2)) xf1_0 lk_X1_11 (st_n hS 1 (by decide)) (st_k hS 1 (by decide)) (Or.inr ⟨rfl, _, (st_r hS 1 0 (by decide) (by decide)), rfl⟩) dX1_compare_57 ?_
          refine x_callSV G [] [xR (a + 2)] hy_X1_setToOne ht_X1_setToOne ml_X1_29 rfl rfl (kX1_setToOne _ _ (a + 2) (st_n hS 2 (by decide)) (st_k hS 2 (by decide)) (show _ = 5 from st_l hS 2 (by decide))) (by decide) (by decide) (Nat.le_of_ble_eq_true rfl) dX1_compare_60 (fun M60 h60 => ?_)
          refine x_aload_n G 1 rfl rfl dX1_compare_63 ?_
          refine x_get G (xR (a + 2)) xf1_0 lk_X1_11 (st_n hS 1 (by decide)) (st_k hS 1 (by decide)) (Or.inr ⟨rfl, _, (st_r hS 1 0 (by decide) (by decide)), rfl⟩) dX1_compare_64 ?_
          refine x_iload_n G 2 rfl rfl dX1_compare_67 ?_
          refine x_iload G 5 rfl dX1_compare_68 ?_
          refine x_callSV G [] [xR (a + 2), xI l1, xI w2] hy_X1_multiply ht_X1_multiply ml_X1_33 rfl rfl (kX1_multiply _ _ (a + 2) l1 w2 (st_n hS 2 (by decide)) (st_k hS 2 (by decide)) (show _ = 5 from st_l hS 2 (by decide)) (by omega) (by omega) h60.2.1 (by rw [h60.2.2]; exact kb1 h1.1 (by omega) (by omega))) (by decide) (by decide) (Nat.le_of_ble_eq_true rfl) dX1_compare_70 (fun M70 h70 => ?_)
          refine x_aload_n G 1 rfl rfl dX1_compare_73 ?_
          refine x_get G (xR (a + 2)) xf1_0 lk_X1_11 (st_n hS 1 (by decide)) (st_k hS 1 (by decide)) (Or.inr ⟨rfl, _, (st_r hS 1 0 (by decide) (by decide)), rfl⟩) dX1_compare_74 ?_
          refine x_sipush G (by decide) dX1_compare_77 ?_
          refine x_iload_n G 3 rfl rfl dX1_compare_80 ?_
          refine x_iload G 0 rfl dX1_compare_81 ?_
          refine x_isub G (by omega) dX1_compare_83 ?_
          refine x_callSV G [] [xR (a + 2), xI 1024, xI (w1 - c)] hy_X1_multiply ht_X1_multiply ml_X1_33 rfl rfl (kX1_multiply _ _ (a + 2) 1024 (w1 - c) (st_n hS 2 (by decide)) (st_k hS 2 (by decide)) (show _ = 5 from st_l hS 2 (by decide)) (by omega) (by omega) h70.2.1 (by rw [h70.2.2, h60.2.2]; exact kb2 h1.1 (by omega) (by omega))) (by decide) (by decide) (Nat.le_of_ble_eq_true rfl) dX1_compare_84 (fun M84 h84 => ?_)
          refine x_aload_n G 1 rfl rfl dX1_compare_87 ?_
          refine x_get G (xR (a + 3)) xf1_1 lk_X1_15 (st_n hS 1 (by decide)) (st_k hS 1 (by decide)) (Or.inr ⟨rfl, _, (st_r hS 1 1 (by decide) (by decide)), rfl⟩) dX1_compare_88 ?_
          refine x_callSV G [] [xR (a + 3)] hy_X1_setToOne ht_X1_setToOne ml_X1_29 rfl rfl (kX1_setToOne _ _ (a + 3) (st_n hS 3 (by decide)) (st_k hS 3 (by decide)) (show _ = 5 from st_l hS 3 (by decide))) (by decide) (by decide) (Nat.le_of_ble_eq_true rfl) dX1_compare_91 (fun M91 h91 => ?_)
          refine x_aload_n G 1 rfl rfl dX1_compare_94 ?_
          refine x_get G (xR (a + 3)) xf1_1 lk_X1_15 (st_n hS 1 (by decide)) (st_k hS 1 (by decide)) (Or.inr ⟨rfl, _, (st_r hS 1 1 (by decide) (by decide)), rfl⟩) dX1_compare_95 ?_
          refine x_iload_n G 4 rfl rfl dX1_compare_98 ?_
          refine x_iload_n G 3 rfl rfl dX1_compare_99 ?_
          refine x_callSV G [] [xR (a + 3), xI l2, xI w1] hy_X1_multiply ht_X1_multiply ml_X1_33 rfl rfl (kX1_multiply _ _ (a + 3) l2 w1 (st_n hS 3 (by decide)) (st_k hS 3 (by decide)) (show _ = 5 from st_l hS 3 (by decide)) (by omega) (by omega) h91.2.1 (by rw [h91.2.2]; exact kb1 h3.1 (by omega) (by omega))) (by decide) (by decide) (Nat.le_of_ble_eq_true rfl) dX1_compare_100 (fun M100 h100 => ?_)
          refine x_aload_n G 1 rfl rfl dX1_compare_103 ?_
          refine x_get G (xR (a + 3)) xf1_1 lk_X1_15 (st_n hS 1 (by decide)) (st_k hS 1 (by decide)) (Or.inr ⟨rfl, _, (st_r hS 1 1 (by decide) (by decide)), rfl⟩) dX1_compare_104 ?_
          refine x_sipush G (by decide) dX1_compare_107 ?_
          refine x_iload G 5 rfl dX1_compare_110 ?_
          refine x_iload G 0 rfl dX1_compare_112 ?_
          refine x_isub G (by omega) dX1_compare_114 ?_
          refine x_callSV G [] [xR (a + 3), xI 1024, xI (w2 - c)] hy_X1_multiply ht_X1_multiply ml_X1_33 rfl rfl (kX1_multiply _ _ (a + 3) 1024 (w2 - c) (st_n hS 3 (by decide)) (st_k hS 3 (by decide)) (show _ = 5 from st_l hS 3 (by decide)) (by omega) (by omega) h100.2.1 (by rw [h100.2.2, h91.2.2]; exact kb2 h3.1 (by omega) (by omega))) (by decide) (by decide) (Nat.le_of_ble_eq_true rfl) dX1_compare_115 (fun M115 h115 => ?_)
          refine x_aload_n G 1 rfl rfl dX1_compare_118 ?_
          refine x_callVp G [] [] rfl (by decide) (st_n hS 1 (by decide)) (st_k hS 1 (by decide)) hy_X1_compareRows hi_X1_compareRows hs_X1_compareRows ml_X1_37 rfl rfl (kX1_compareRows _ _ a hS (by rw [h115.1 _ (by omega), h100.1 _ (by omega), h91.1 _ (by omega)]; exact h84.2.1) h115.2.1) (by decide) (by decide) (Nat.le_of_ble_eq_true rfl) dX1_compare_119 ?_
          exact x_iret G Rt dX1_compare_122 ⟨rfl, rfl, _, rfl, ⟨by
      rw [h115.2.2, h100.2.2, h91.2.2, h115.1 _ (by omega), h100.1 _ (by omega), h91.1 _ (by omega), h84.2.2, h70.2.2, h60.2.2]
      exact kc_main hcb.1 hcb.2.1 (by omega), fun k hk => by
      have hk2 : k ≠ a + 2 ∧ k ≠ a + 3 := (by simp at hk; omega)
      rw [h115.1 _ hk2.2, h100.1 _ hk2.2, h91.1 _ hk2.2, h84.1 _ hk2.1, h70.1 _ hk2.1, h60.1 _ hk2.1]⟩⟩
        · skip
          refine x_iconst G (by decide) dX1_compare_33 ?_
          refine x_goto G 38 (by decide) dX1_compare_34 ?_
          refine x_icmp_ne G 48 (by decide) dX1_compare_38 (fun c38 => absurd c38 (by decide)) (fun _ => ?_)
          refine x_iload_n G 2 rfl rfl dX1_compare_41 ?_
          refine x_iload G 4 rfl dX1_compare_42 ?_
          refine x_callSp G [] [xI w1, xI w2] hy_J6_compare_7cf53 ht_J6_compare_7cf53 ml_X1_18 rfl rfl (kJ6_compare_7cf53 _ _ w1 w2) (by decide) (by decide) (Nat.le_of_ble_eq_true rfl) dX1_compare_44 ?_
          exact x_iret G Rt dX1_compare_47 ⟨rfl, rfl, _, rfl, ⟨by (first | (have hl : l1 = l2 := (by omega); subst hl; exact (kc_l h1.1 h1.2 h2.1 h4.1).symm) | exact (kc_gt h3.1 h1.2 (by omega) h4.1 (by omega)).symm | exact (kc_lt h1.1 h3.2 (by omega) h2.1 (by omega)).symm), fun k _ => rfl⟩⟩
  · skip
    refine x_iload_n G 1 rfl rfl dX1_compare_6 ?_
    refine x_iload_n G 3 rfl rfl dX1_compare_7 ?_
    refine x_callSp G [] [xI l1, xI l2] hy_J6_compare_7cf53 ht_J6_compare_7cf53 ml_X1_18 rfl rfl (kJ6_compare_7cf53 _ _ l1 l2) (by decide) (by decide) (Nat.le_of_ble_eq_true rfl) dX1_compare_8 ?_
    exact x_iret G Rt dX1_compare_11 ⟨rfl, rfl, _, rfl, ⟨by rw [c3]; exact (kc_w h1.1 h3.1 (by omega)).symm, fun k _ => rfl⟩⟩
set_option maxRecDepth 100000 in
set_option maxHeartbeats 4000000 in
theorem kX1_isPart (D : xD) (l : Launch) {n : Nat} {T : xT} {M : xM} (a : Nat) (p q lo w : Int) (hS : StL n T a) (h1 : 1 ≤ p ∧ p ≤ 1024) (h2 : 1 ≤ q ∧ q ≤ 1024) (h3 : 1 ≤ lo ∧ lo ≤ 1023) (h4 : 1 ≤ w ∧ w ≤ 20) : xC D l uX1_isPart 2 44 0 0 [xR (a + 1), xI p, xI q, xI lo, xI w] n T M (xPI n T (fun z M2 => z = b2i (p ^ w.toNat * 1024 ≤ q ^ w.toNat * lo) ∧ xof [a + 2, a + 3] M M2)) := by
  refine x_met uX1_isPart (by decide) (Nat.le_of_ble_eq_true rfl) ?_
  intro Γ G Rt _
  have G : xG Γ RX1 cX1_isPart 5 2 44 0 0 := G
  have Rt : xRt Γ (xPI n T (fun z M2 => z = b2i (p ^ w.toNat * 1024 ≤ q ^ w.toNat * lo) ∧ xof [a + 2, a + 3] M M2)) (some .boolean) 0 0 := Rt
  show xX Γ 0 0 n T 0 [(0, xR (a + 1)), (1, xI p), (2, xI q), (3, xI lo), (4, xI w)] [] M
  have hw4 := h4
  refine x_aload_n G 0 rfl rfl dX1_isPart_0 ?_
  refine x_get G (xR (a + 2)) xf1_0 lk_X1_11 (st_n hS 1 (by decide)) (st_k hS 1 (by decide)) (Or.inr ⟨rfl, _, (st_r hS 1 0 (by decide) (by decide)), rfl⟩) dX1_isPart_1 ?_
  refine x_callSV G [] [xR (a + 2)] hy_X1_setToOne ht_X1_setToOne ml_X1_29 rfl rfl (kX1_setToOne _ _ (a + 2) (st_n hS 2 (by decide)) (st_k hS 2 (by decide)) (show _ = 5 from st_l hS 2 (by decide))) (by decide) (by decide) (Nat.le_of_ble_eq_true rfl) dX1_isPart_4 (fun M4 h4 => ?_)
  have h4_ := h4
  have h4 : 1 ≤ w ∧ w ≤ 20 := hw4
  refine x_aload_n G 0 rfl rfl dX1_isPart_7 ?_
  refine x_get G (xR (a + 2)) xf1_0 lk_X1_11 (st_n hS 1 (by decide)) (st_k hS 1 (by decide)) (Or.inr ⟨rfl, _, (st_r hS 1 0 (by decide) (by decide)), rfl⟩) dX1_isPart_8 ?_
  refine x_iload_n G 1 rfl rfl dX1_isPart_11 ?_
  refine x_iload G 4 rfl dX1_isPart_12 ?_
  refine x_callSV G [] [xR (a + 2), xI p, xI w] hy_X1_multiply ht_X1_multiply ml_X1_33 rfl rfl (kX1_multiply _ _ (a + 2) p w (st_n hS 2 (by decide)) (st_k hS 2 (by decide)) (show _ = 5 from st_l hS 2 (by decide)) (by omega) (by omega) h4_.2.1 (by rw [h4_.2.2]; exact kb1 h1.1 (by omega) (by omega))) (by decide) (by decide) (Nat.le_of_ble_eq_true rfl) dX1_isPart_14 (fun M14 h14 => ?_)
  refine x_aload_n G 0 rfl rfl dX1_isPart_17 ?_
  refine x_get G (xR (a + 2)) xf1_0 lk_X1_11 (st_n hS 1 (by decide)) (st_k hS 1 (by decide)) (Or.inr ⟨rfl, _, (st_r hS 1 0 (by decide) (by decide)), rfl⟩) dX1_isPart_18 ?_
  refine x_sipush G (by decide) dX1_isPart_21 ?_
  refine x_iconst G (by decide) dX1_isPart_24 ?_
  refine x_callSV G [] [xR (a + 2), xI 1024, xI 1] hy_X1_multiply ht_X1_multiply ml_X1_33 rfl rfl (kX1_multiply _ _ (a + 2) 1024 1 (st_n hS 2 (by decide)) (st_k hS 2 (by decide)) (show _ = 5 from st_l hS 2 (by decide)) (by omega) (by omega) h14.2.1 (by rw [h14.2.2, h4_.2.2]; exact kb2 h1.1 (by omega) (by omega))) (by decide) (by decide) (Nat.le_of_ble_eq_true rfl) dX1_isPart_25 (fun M25 h25 => ?_)
  refine x_aload_n G 0 rfl rfl dX1_isPart_28 ?_
  refine x_get G (xR (a + 3)) xf1_1 lk_X1_15 (st_n hS 1 (by decide)) (st_k hS 1 (by decide)) (Or.inr ⟨rfl, _, (st_r hS 1 1 (by decide) (by decide)), rfl⟩) dX1_isPart_29 ?_
  refine x_callSV G [] [xR (a + 3)] hy_X1_setToOne ht_X1_setToOne ml_X1_29 rfl rfl (kX1_setToOne _ _ (a + 3) (st_n hS 3 (by decide)) (st_k hS 3 (by decide)) (show _ = 5 from st_l hS 3 (by decide))) (by decide) (by decide) (Nat.le_of_ble_eq_true rfl) dX1_isPart_32 (fun M32 h32 => ?_)
  refine x_aload_n G 0 rfl rfl dX1_isPart_35 ?_
  refine x_get G (xR (a + 3)) xf1_1 lk_X1_15 (st_n hS 1 (by decide)) (st_k hS 1 (by decide)) (Or.inr ⟨rfl, _, (st_r hS 1 1 (by decide) (by decide)), rfl⟩) dX1_isPart_36 ?_
  refine x_iload_n G 2 rfl rfl dX1_isPart_39 ?_
  refine x_iload G 4 rfl dX1_isPart_40 ?_
  refine x_callSV G [] [xR (a + 3), xI q, xI w] hy_X1_multiply ht_X1_multiply ml_X1_33 rfl rfl (kX1_multiply _ _ (a + 3) q w (st_n hS 3 (by decide)) (st_k hS 3 (by decide)) (show _ = 5 from st_l hS 3 (by decide)) (by omega) (by omega) h32.2.1 (by rw [h32.2.2]; exact kb1 h2.1 (by omega) (by omega))) (by decide) (by decide) (Nat.le_of_ble_eq_true rfl) dX1_isPart_42 (fun M42 h42 => ?_)
  refine x_aload_n G 0 rfl rfl dX1_isPart_45 ?_
  refine x_get G (xR (a + 3)) xf1_1 lk_X1_15 (st_n hS 1 (by decide)) (st_k hS 1 (by decide)) (Or.inr ⟨rfl, _, (st_r hS 1 1 (by decide) (by decide)), rfl⟩) dX1_isPart_46 ?_
  refine x_iload_n G 3 rfl rfl dX1_isPart_49 ?_
  refine x_iconst G (by decide) dX1_isPart_50 ?_
  refine x_callSV G [] [xR (a + 3), xI lo, xI 1] hy_X1_multiply ht_X1_multiply ml_X1_33 rfl rfl (kX1_multiply _ _ (a + 3) lo 1 (st_n hS 3 (by decide)) (st_k hS 3 (by decide)) (show _ = 5 from st_l hS 3 (by decide)) (by omega) (by omega) h42.2.1 (by rw [h42.2.2, h32.2.2]; exact kb3 h2.1 (by omega) (by omega) h3.1 (by omega))) (by decide) (by decide) (Nat.le_of_ble_eq_true rfl) dX1_isPart_51 (fun M51 h51 => ?_)
  refine x_aload_n G 0 rfl rfl dX1_isPart_54 ?_
  refine x_callVp G [] [] rfl (by decide) (st_n hS 1 (by decide)) (st_k hS 1 (by decide)) hy_X1_compareRows hi_X1_compareRows hs_X1_compareRows ml_X1_37 rfl rfl (kX1_compareRows _ _ a hS (by rw [h51.1 _ (by omega), h42.1 _ (by omega), h32.1 _ (by omega)]; exact h25.2.1) h51.2.1) (by decide) (by decide) (Nat.le_of_ble_eq_true rfl) dX1_isPart_55 ?_
  rw [h51.2.2, h42.2.2, h32.2.2, h51.1 _ (by omega), h42.1 _ (by omega), h32.1 _ (by omega), h25.2.2, h14.2.2, h4_.2.2]
  skip
  refine x_if_gt G 65 (by decide) dX1_isPart_58 (fun c58 => ?_) (fun c58 => ?_)
  · skip
    have c58 := xcmp_gt.mp c58
    refine x_iconst G (by decide) dX1_isPart_65 ?_
    exact x_zret G (by omega) Rt dX1_isPart_66 ⟨rfl, rfl, _, rfl, ⟨by (first | exact (b2i_t (kpart.mp (by omega))).symm | exact (b2i_f (fun h9 => by have := kpart.mpr h9; omega)).symm), fun k hk => by
      have hk2 : k ≠ a + 2 ∧ k ≠ a + 3 := (by simp at hk; omega)
      rw [h51.1 _ hk2.2, h42.1 _ hk2.2, h32.1 _ hk2.2, h25.1 _ hk2.1, h14.1 _ hk2.1, h4_.1 _ hk2.1]⟩⟩
  · skip
    have c58 := xcmp_le.mp c58
    refine x_iconst G (by decide) dX1_isPart_61 ?_
    refine x_goto G 66 (by decide) dX1_isPart_62 ?_
    exact x_zret G (by omega) Rt dX1_isPart_66 ⟨rfl, rfl, _, rfl, ⟨by (first | exact (b2i_t (kpart.mp (by omega))).symm | exact (b2i_f (fun h9 => by have := kpart.mpr h9; omega)).symm), fun k hk => by
      have hk2 : k ≠ a + 2 ∧ k ≠ a + 3 := (by simp at hk; omega)
      rw [h51.1 _ hk2.2, h42.1 _ hk2.2, h32.1 _ hk2.2, h25.1 _ hk2.1, h14.1 _ hk2.1, h4_.1 _ hk2.1]⟩⟩
