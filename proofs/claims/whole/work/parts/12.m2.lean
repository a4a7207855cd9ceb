abbrev nm5 (f : Nat → Int) : Prop := (0 ≤ f 0 ∧ f 0 < 1125899906842624) ∧ (0 ≤ f 1 ∧ f 1 < 1125899906842624) ∧ (0 ≤ f 2 ∧ f 2 < 1125899906842624) ∧ (0 ≤ f 3 ∧ f 3 < 1125899906842624) ∧ (0 ≤ f 4 ∧ f 4 < 1125899906842624)
def kv5 (f : Nat → Int) : Int := f 0 + 1125899906842624 * f 1 + 1267650600228229401496703205376 * f 2 + 1427247692705959881058285969449495136382746624 * f 3 + 1606938044258990275541962092341162602522202993782792835301376 * f 4
theorem km5 {r f : Int} (h1 : 0 ≤ r) (h2 : r < 1125899906842624) (h3 : 1 ≤ f) (h4 : f ≤ 1024) : 0 ≤ r * f ∧ r * f ≤ 1152921504606845952 := by
  refine ⟨Int.mul_nonneg h1 (by omega), ?_⟩
  have := Int.mul_le_mul (show r ≤ 1125899906842623 by omega) h4 (by omega) (by omega)
  omega
theorem x_land50 {p : Int} (h0 : 0 ≤ p) (h1 : p < 9223372036854775808) : Int64.ofInt p &&& Int64.ofInt 1125899906842623 = Int64.ofInt (p % 1125899906842624) := by
  obtain ⟨k, rfl⟩ := Int.eq_ofNat_of_zero_le h0
  have e1 : Int64.ofInt (k : Int) = lN k := rfl
  have e2 : Int64.ofInt 1125899906842623 = lN (2 ^ 50 - 1) := rfl
  have e3 : ((k : Int) % 1125899906842624) = ((k % 1125899906842624 : Nat) : Int) := by omega
  rw [e1, e2, e3]
  have e4 : Int64.ofInt ((k % 1125899906842624 : Nat) : Int) = lN (k % 2 ^ 50) := rfl
  rw [e4]
  exact fb_maskL k 50
theorem x_lshr50 {p : Int} (h0 : 0 ≤ p) (h1 : p < 4611686018427387904) : Int64.ofInt p >>> ((Int32.ofInt 50).toInt64 &&& 63) = Int64.ofInt (p / 1125899906842624) := by
  obtain ⟨k, rfl⟩ := Int.eq_ofNat_of_zero_le h0
  have e3 : ((k : Int) / 1125899906842624) = ((k / 1125899906842624 : Nat) : Int) := by omega
  rw [e3]
  exact pf_shr (a := k) (d := 50) (by decide) (by omega)

set_option maxRecDepth 100000 in
set_option maxHeartbeats 4000000 in
theorem kX1_setToOne (D : xD) (l : Launch) {n : Nat} {T : xT} {M : xM} (x : Nat) (hxn : x < n) (hxk : (T x).1 = 10) (hxl : (T x).2.1 = 5) : xC D l uX1_setToOne 0 0 0 0 [xR x] n T M (xPV n T (fun M2 => (∀ k, k ≠ x → M2 k = M k) ∧ nm5 (M2 x) ∧ kv5 (M2 x) = 1)) := by
  refine x_met uX1_setToOne (by decide) (Nat.le_of_ble_eq_true rfl) ?_
  intro Γ G Rt _
  have G : xG Γ RX1 cX1_setToOne 2 0 0 0 0 := G
  have Rt : xRt Γ (xPV n T (fun M2 => (∀ k, k ≠ x → M2 k = M k) ∧ nm5 (M2 x) ∧ kv5 (M2 x) = 1)) none 0 0 := Rt
  show xX Γ 0 0 n T 0 [(0, xR x)] [] M
  refine x_iconst G (by decide) dX1_setToOne_0 ?_
  refine x_istore_n G [(1, xI 0), (0, xR x)] rfl (by decide) rfl dX1_setToOne_1 ?_
  refine x_iload_n G 0 rfl rfl dX1_setToOne_2 ?_
  refine x_aload_n G 1 rfl rfl dX1_setToOne_3 ?_
  refine x_alen G 2 hxn hxk (by decide) (fun _ => rfl) (by rw [hxl]; decide) dX1_setToOne_4 ?_
  rw [hxl]
  show xX Γ 0 0 n T 5 [(1, xI 0), (0, xR x)] [xI 5, xI 0] M
  refine x_icmp_ge G 26 (by decide) dX1_setToOne_5 (fun c5 => absurd c5 (by decide)) (fun _ => ?_)
  refine x_aload_n G 1 rfl rfl dX1_setToOne_8 ?_
  refine x_iload_n G 0 rfl rfl dX1_setToOne_9 ?_
  refine x_iload_n G 0 rfl rfl dX1_setToOne_10 ?_
  refine x_if_ne G 18 (by decide) dX1_setToOne_11 (fun c11 => absurd c11 (by decide)) (fun _ => ?_)
  refine x_lconst G dX1_setToOne_14 ?_
  show xX Γ 0 0 n T 15 [(1, xI 0), (0, xR x)] [xL 1, xI 0, xR x] M
  refine x_goto G 19 (by decide) dX1_setToOne_15 ?_
  refine x_last G hxn hxk (hxl) (by omega) (by omega) dX1_setToOne_19 ?_
  show xX Γ 0 0 n T 20 [(1, xI 0), (0, xR x)] [] (xst M x 0 1)
  refine x_iinc G [(1, xI 1), (0, xR x)] 0 rfl (by decide) (by omega) rfl dX1_setToOne_20 ?_
  refine x_goto G 2 (by decide) dX1_setToOne_23 ?_
  refine x_iload_n G 0 rfl rfl dX1_setToOne_2 ?_
  refine x_aload_n G 1 rfl rfl dX1_setToOne_3 ?_
  refine x_alen G 2 hxn hxk (by decide) (fun _ => rfl) (by rw [hxl]; decide) dX1_setToOne_4 ?_
  rw [hxl]
  show xX Γ 0 0 n T 5 [(1, xI 1), (0, xR x)] [xI 5, xI 1] (xst M x 0 1)
  refine x_icmp_ge G 26 (by decide) dX1_setToOne_5 (fun c5 => absurd c5 (by decide)) (fun _ => ?_)
  refine x_aload_n G 1 rfl rfl dX1_setToOne_8 ?_
  refine x_iload_n G 0 rfl rfl dX1_setToOne_9 ?_
  refine x_iload_n G 0 rfl rfl dX1_setToOne_10 ?_
  refine x_if_ne G 18 (by decide) dX1_setToOne_11 (fun _ => ?_) (fun c11 => absurd c11 (by decide))
  refine x_lconst G dX1_setToOne_18 ?_
  show xX Γ 0 0 n T 19 [(1, xI 1), (0, xR x)] [xL 0, xI 1, xR x] (xst M x 0 1)
  refine x_last G hxn hxk (hxl) (by omega) (by omega) dX1_setToOne_19 ?_
  show xX Γ 0 0 n T 20 [(1, xI 1), (0, xR x)] [] (xst (xst M x 0 1) x 1 0)
  refine x_iinc G [(1, xI 2), (0, xR x)] 0 rfl (by decide) (by omega) rfl dX1_setToOne_20 ?_
  refine x_goto G 2 (by decide) dX1_setToOne_23 ?_
  refine x_iload_n G 0 rfl rfl dX1_setToOne_2 ?_
  refine x_aload_n G 1 rfl rfl dX1_setToOne_3 ?_
  refine x_alen G 2 hxn hxk (by decide) (fun _ => rfl) (by rw [hxl]; decide) dX1_setToOne_4 ?_
  rw [hxl]
  show xX Γ 0 0 n T 5 [(1, xI 2), (0, xR x)] [xI 5, xI 2] (xst (xst M x 0 1) x 1 0)
  refine x_icmp_ge G 26 (by decide) dX1_setToOne_5 (fun c5 => absurd c5 (by decide)) (fun _ => ?_)
  refine x_aload_n G 1 rfl rfl dX1_setToOne_8 ?_
  refine x_iload_n G 0 rfl rfl dX1_setToOne_9 ?_
  refine x_iload_n G 0 rfl rfl dX1_setToOne_10 ?_
  refine x_if_ne G 18 (by decide) dX1_setToOne_11 (fun _ => ?_) (fun c11 => absurd c11 (by decide))
  refine x_lconst G dX1_setToOne_18 ?_
  show xX Γ 0 0 n T 19 [(1, xI 2), (0, xR x)] [xL 0, xI 2, xR x] (xst (xst M x 0 1) x 1 0)
  refine x_last G hxn hxk (hxl) (by omega) (by omega) dX1_setToOne_19 ?_
  show xX Γ 0 0 n T 20 [(1, xI 2), (0, xR x)] [] (xst (xst (xst M x 0 1) x 1 0) x 2 0)
  refine x_iinc G [(1, xI 3), (0, xR x)] 0 rfl (by decide) (by omega) rfl dX1_setToOne_20 ?_
  refine x_goto G 2 (by decide) dX1_setToOne_23 ?_
  refine x_iload_n G 0 rfl rfl dX1_setToOne_2 ?_
  refine x_aload_n G 1 rfl rfl dX1_setToOne_3 ?_
  refine x_alen G 2 hxn hxk (by decide) (fun _ => rfl) (by rw [hxl]; decide) dX1_setToOne_4 ?_
  rw [hxl]
  show xX Γ 0 0 n T 5 [(1, xI 3), (0, xR x)] [xI 5, xI 3] (xst (xst (xst M x 0 1) x 1 0) x 2 0)
  refine x_icmp_ge G 26 (by decide) dX1_setToOne_5 (fun c5 => absurd c5 (by decide)) (fun _ => ?_)
  refine x_aload_n G 1 rfl rfl dX1_setToOne_8 ?_
  refine x_iload_n G 0 rfl rfl dX1_setToOne_9 ?_
  refine x_iload_n G 0 rfl rfl dX1_setToOne_10 ?_
  refine x_if_ne G 18 (by decide) dX1_setToOne_11 (fun _ => ?_) (fun c11 => absurd c11 (by decide))
  refine x_lconst G dX1_setToOne_18 ?_
  show xX Γ 0 0 n T 19 [(1, xI 3), (0, xR x)] [xL 0, xI 3, xR x] (xst (xst (xst M x 0 1) x 1 0) x 2 0)
  refine x_last G hxn hxk (hxl) (by omega) (by omega) dX1_setToOne_19 ?_
  show xX Γ 0 0 n T 20 [(1, xI 3), (0, xR x)] [] (xst (xst (xst (xst M x 0 1) x 1 0) x 2 0) x 3 0)
  refine x_iinc G [(1, xI 4), (0, xR x)] 0 rfl (by decide) (by omega) rfl dX1_setToOne_20 ?_
  refine x_goto G 2 (by decide) dX1_setToOne_23 ?_
  refine x_iload_n G 0 rfl rfl dX1_setToOne_2 ?_
  refine x_aload_n G 1 rfl rfl dX1_setToOne_3 ?_
  refine x_alen G 2 hxn hxk (by decide) (fun _ => rfl) (by rw [hxl]; decide) dX1_setToOne_4 ?_
  rw [hxl]
  show xX Γ 0 0 n T 5 [(1, xI 4), (0, xR x)] [xI 5, xI 4] (xst (xst (xst (xst M x 0 1) x 1 0) x 2 0) x 3 0)
  refine x_icmp_ge G 26 (by decide) dX1_setToOne_5 (fun c5 => absurd c5 (by decide)) (fun _ => ?_)
  refine x_aload_n G 1 rfl rfl dX1_setToOne_8 ?_
  refine x_iload_n G 0 rfl rfl dX1_setToOne_9 ?_
  refine x_iload_n G 0 rfl rfl dX1_setToOne_10 ?_
  refine x_if_ne G 18 (by decide) dX1_setToOne_11 (fun _ => ?_) (fun c11 => absurd c11 (by decide))
  refine x_lconst G dX1_setToOne_18 ?_
  show xX Γ 0 0 n T 19 [(1, xI 4), (0, xR x)] [xL 0, xI 4, xR x] (xst (xst (xst (xst M x 0 1) x 1 0) x 2 0) x 3 0)
  refine x_last G hxn hxk (hxl) (by omega) (by omega) dX1_setToOne_19 ?_
  show xX Γ 0 0 n T 20 [(1, xI 4), (0, xR x)] [] (xst (xst (xst (xst (xst M x 0 1) x 1 0) x 2 0) x 3 0) x 4 0)
  refine x_iinc G [(1, xI 5), (0, xR x)] 0 rfl (by decide) (by omega) rfl dX1_setToOne_20 ?_
  refine x_goto G 2 (by decide) dX1_setToOne_23 ?_
  refine x_iload_n G 0 rfl rfl dX1_setToOne_2 ?_
  refine x_aload_n G 1 rfl rfl dX1_setToOne_3 ?_
  refine x_alen G 2 hxn hxk (by decide) (fun _ => rfl) (by rw [hxl]; decide) dX1_setToOne_4 ?_
  rw [hxl]
  show xX Γ 0 0 n T 5 [(1, xI 5), (0, xR x)] [xI 5, xI 5] (xst (xst (xst (xst (xst M x 0 1) x 1 0) x 2 0) x 3 0) x 4 0)
  refine x_icmp_ge G 26 (by decide) dX1_setToOne_5 (fun _ => ?_) (fun c5 => absurd c5 (by decide))
  exact x_vret G Rt dX1_setToOne_26 ⟨rfl, rfl, rfl, by refine ⟨fun k hk => by simp [xst, hk], ?_, ?_⟩ <;> simp [nm5, xst_eq, kv5]⟩
set_option maxRecDepth 100000 in
set_option maxHeartbeats 4000000 in
theorem kX1_multiply (D : xD) (l : Launch) {n : Nat} {T : xT} {M : xM} (x : Nat) (f t : Int) (hxn : x < n) (hxk : (T x).1 = 10) (hxl : (T x).2.1 = 5) (hf : 1 ≤ f ∧ f ≤ 1024) (ht : 0 ≤ t ∧ t < 1000) (hnm : nm5 (M x)) (hv : kv5 (M x) * f ^ t.toNat < 1809251394333065553493296640760748560207343510400633813116524750123642650624) : xC D l uX1_multiply 0 0 0 0 [xR x, xI f, xI t] n T M (xPV n T (fun M2 => (∀ k, k ≠ x → M2 k = M k) ∧ nm5 (M2 x) ∧ kv5 (M2 x) = kv5 (M x) * f ^ t.toNat)) := by
  refine x_met uX1_multiply (by decide) (Nat.le_of_ble_eq_true rfl) ?_
  intro Γ G Rt _
  have G : xG Γ RX1 cX1_multiply 9 0 0 0 0 := G
  have Rt : xRt Γ (xPV n T (fun M2 => (∀ k, k ≠ x → M2 k = M k) ∧ nm5 (M2 x) ∧ kv5 (M2 x) = kv5 (M x) * f ^ t.toNat)) none 0 0 := Rt
  show xX Γ 0 0 n T 0 [(0, xR x), (1, xI f), (2, xI t)] [] M
  refine x_iconst G (by decide) dX1_multiply_0 ?_
  refine x_istore_n G [(3, xI 0), (0, xR x), (1, xI f), (2, xI t)] rfl (by decide) rfl dX1_multiply_1 ?_
  have loop2 : ∀ (d : Nat) (k : Int) (M1 : xM), (t - k).toNat = d → (0 ≤ k ∧ k ≤ t) → (∀ q, q ≠ x → M1 q = M q) → (nm5 (M1 x)) → (kv5 (M1 x) = kv5 (M x) * f ^ k.toNat) → xX Γ 0 0 n T 2 [(0, xR x), (1, xI f), (2, xI t), (3, xI k)] [] M1 := by
    intro d
    induction d using Nat.strongRecOn with
    | ind d ih2 =>
    intro k M1 hd2 hk hfr hnm hkv
    have hup : kv5 (M1 x) * f ≤ kv5 (M x) * f ^ t.toNat ∨ k = t := by sorry
    refine x_iload_n G 3 rfl rfl dX1_multiply_2 ?_
    refine x_iload_n G 2 rfl rfl dX1_multiply_3 ?_
    refine x_icmp_ge G 61 (by decide) dX1_multiply_4 (fun c4 => ?_) (fun c4 => ?_)
    · skip
      exact x_vret G Rt dX1_multiply_61 ⟨rfl, rfl, rfl, by have hkt : k = t := (by omega); subst hkt; exact ⟨hfr, hnm, hkv⟩⟩
    · skip
      refine x_lconst G dX1_multiply_7 ?_
      show xX Γ 0 0 n T 8 [(0, xR x), (1, xI f), (2, xI t), (3, xI k)] [xL 0] M1
      refine x_lstore G [(4, xL 0), (0, xR x), (1, xI f), (2, xI t), (3, xI k)] (by decide) rfl dX1_multiply_8 ?_
      refine x_iconst G (by decide) dX1_multiply_10 ?_
      refine x_istore G [(6, xI 0), (4, xL 0), (0, xR x), (1, xI f), (2, xI t), (3, xI k)] (by decide) rfl dX1_multiply_11 ?_
      refine x_iload G 0 rfl dX1_multiply_13 ?_
      refine x_aload_n G 2 rfl rfl dX1_multiply_15 ?_
      refine x_alen G 2 hxn hxk (by decide) (fun _ => rfl) (by rw [hxl]; decide) dX1_multiply_16 ?_
      rw [hxl]
      show xX Γ 0 0 n T 17 [(6, xI 0), (4, xL 0), (0, xR x), (1, xI f), (2, xI t), (3, xI k)] [xI 5, xI 0] M1
      refine x_icmp_ge G 55 (by decide) dX1_multiply_17 (fun c17 => absurd c17 (by decide)) (fun _ => ?_)
      refine x_aload_n G 2 rfl rfl dX1_multiply_20 ?_
      refine x_iload G 0 rfl dX1_multiply_21 ?_
      refine x_lald G hxn hxk (hxl) (by omega) (by omega) dX1_multiply_23 ?_
      show xX Γ 0 0 n T 24 [(6, xI 0), (4, xL 0), (0, xR x), (1, xI f), (2, xI t), (3, xI k)] [xL (M1 x 0)] M1
      refine x_iload_n G 3 rfl rfl dX1_multiply_24 ?_
      refine x_i2l G dX1_multiply_25 ?_
      have hm0 := km5 (hnm.1.1) (hnm.1.2) hf.1 hf.2
      refine x_lmul G (by omega) dX1_multiply_26 ?_
      refine x_lload G 1 rfl dX1_multiply_27 ?_
      refine x_ladd G (by omega) dX1_multiply_29 ?_
      obtain ⟨p0, hp0⟩ : ∃ p9 : Int, p9 = (((M1 x 0) * f) + 0) := ⟨_, rfl⟩; rw [← hp0]
      have hb0 : 0 ≤ p0 ∧ p0 < 1152921504606850048 := by omega
      refine x_lstore G [(7, xL p0), (6, xI 0), (4, xL 0), (0, xR x), (1, xI f), (2, xI t), (3, xI k)] (by decide) rfl dX1_multiply_30 ?_
      refine x_aload_n G 3 rfl rfl dX1_multiply_32 ?_
      refine x_iload G 1 rfl dX1_multiply_33 ?_
      refine x_lload G 0 rfl dX1_multiply_35 ?_
      refine x_ldc2 G (z := 1125899906842623) (by decide) kc_X1_41 dX1_multiply_37 ?_
      refine x_land G (p0 % 1125899906842624) (x_land50 (by omega) (by omega)) (by omega) dX1_multiply_40 ?_
      obtain ⟨n0, hn0⟩ : ∃ p9 : Int, p9 = (p0 % 1125899906842624) := ⟨_, rfl⟩; rw [← hn0]
      refine x_last G hxn hxk (hxl) (by omega) (by omega) dX1_multiply_41 ?_
      show xX Γ 0 0 n T 42 [(7, xL p0), (6, xI 0), (4, xL 0), (0, xR x), (1, xI f), (2, xI t), (3, xI k)] [] (xst M1 x 0 n0)
      refine x_lload G 0 rfl dX1_multiply_42 ?_
      refine x_bipush G (by decide) dX1_multiply_44 ?_
      refine x_lshr G (p0 / 1125899906842624) (x_lshr50 (by omega) (by omega)) (by omega) dX1_multiply_46 ?_
      obtain ⟨c0, hc0⟩ : ∃ p9 : Int, p9 = (p0 / 1125899906842624) := ⟨_, rfl⟩; rw [← hc0]
      have hc0b : 0 ≤ c0 ∧ c0 < 1025 := by omega
      refine x_lstore G [(4, xL c0), (7, xL p0), (6, xI 0), (0, xR x), (1, xI f), (2, xI t), (3, xI k)] (by decide) rfl dX1_multiply_47 ?_
      refine x_iinc G [(6, xI 1), (4, xL c0), (7, xL p0), (0, xR x), (1, xI f), (2, xI t), (3, xI k)] 2 rfl (by decide) (by omega) rfl dX1_multiply_49 ?_
      refine x_goto G 13 (by decide) dX1_multiply_52 ?_
      refine x_iload G 0 rfl dX1_multiply_13 ?_
      refine x_aload_n G 3 rfl rfl dX1_multiply_15 ?_
      refine x_alen G 2 hxn hxk (by decide) (fun _ => rfl) (by rw [hxl]; decide) dX1_multiply_16 ?_
      rw [hxl]
      show xX Γ 0 0 n T 17 [(6, xI 1), (4, xL c0), (7, xL p0), (0, xR x), (1, xI f), (2, xI t), (3, xI k)] [xI 5, xI 1] (xst M1 x 0 n0)
      refine x_icmp_ge G 55 (by decide) dX1_multiply_17 (fun c17 => absurd c17 (by decide)) (fun _ => ?_)
      refine x_aload_n G 3 rfl rfl dX1_multiply_20 ?_
      refine x_iload G 0 rfl dX1_multiply_21 ?_
      refine x_lald G hxn hxk (hxl) (by omega) (by omega) dX1_multiply_23 ?_
      show xX Γ 0 0 n T 24 [(6, xI 1), (4, xL c0), (7, xL p0), (0, xR x), (1, xI f), (2, xI t), (3, xI k)] [xL ((xst M1 x 0 n0) x 1)] (xst M1 x 0 n0)
      rw [show (xst M1 x 0 n0) x 1 = (M1 x 1) from by simp [xst_eq]]
      refine x_iload_n G 4 rfl rfl dX1_multiply_24 ?_
      refine x_i2l G dX1_multiply_25 ?_
      have hm1 := km5 (hnm.2.1.1) (hnm.2.1.2) hf.1 hf.2
      refine x_lmul G (by omega) dX1_multiply_26 ?_
      refine x_lload G 1 rfl dX1_multiply_27 ?_
      refine x_ladd G (by omega) dX1_multiply_29 ?_
      obtain ⟨p1, hp1⟩ : ∃ p9 : Int, p9 = (((M1 x 1) * f) + c0) := ⟨_, rfl⟩; rw [← hp1]
      have hb1 : 0 ≤ p1 ∧ p1 < 1152921504606850048 := by omega
      refine x_lstore G [(7, xL p1), (6, xI 1), (4, xL c0), (0, xR x), (1, xI f), (2, xI t), (3, xI k)] (by decide) rfl dX1_multiply_30 ?_
      refine x_aload_n G 3 rfl rfl dX1_multiply_32 ?_
      refine x_iload G 1 rfl dX1_multiply_33 ?_
      refine x_lload G 0 rfl dX1_multiply_35 ?_
      refine x_ldc2 G (z := 1125899906842623) (by decide) kc_X1_41 dX1_multiply_37 ?_
      refine x_land G (p1 % 1125899906842624) (x_land50 (by omega) (by omega)) (by omega) dX1_multiply_40 ?_
      obtain ⟨n1, hn1⟩ : ∃ p9 : Int, p9 = (p1 % 1125899906842624) := ⟨_, rfl⟩; rw [← hn1]
      refine x_last G hxn hxk (hxl) (by omega) (by omega) dX1_multiply_41 ?_
      show xX Γ 0 0 n T 42 [(7, xL p1), (6, xI 1), (4, xL c0), (0, xR x), (1, xI f), (2, xI t), (3, xI k)] [] (xst (xst M1 x 0 n0) x 1 n1)
      refine x_lload G 0 rfl dX1_multiply_42 ?_
      refine x_bipush G (by decide) dX1_multiply_44 ?_
      refine x_lshr G (p1 / 1125899906842624) (x_lshr50 (by omega) (by omega)) (by omega) dX1_multiply_46 ?_
      obtain ⟨c1, hc1⟩ : ∃ p9 : Int, p9 = (p1 / 1125899906842624) := ⟨_, rfl⟩; rw [← hc1]
      have hc1b : 0 ≤ c1 ∧ c1 < 1025 := by omega
      refine x_lstore G [(4, xL c1), (7, xL p1), (6, xI 1), (0, xR x), (1, xI f), (2, xI t), (3, xI k)] (by decide) rfl dX1_multiply_47 ?_
      refine x_iinc G [(6, xI 2), (4, xL c1), (7, xL p1), (0, xR x), (1, xI f), (2, xI t), (3, xI k)] 2 rfl (by decide) (by omega) rfl dX1_multiply_49 ?_
      refine x_goto G 13 (by decide) dX1_multiply_52 ?_
      refine x_iload G 0 rfl dX1_multiply_13 ?_
      refine x_aload_n G 3 rfl rfl dX1_multiply_15 ?_
      refine x_alen G 2 hxn hxk (by decide) (fun _ => rfl) (by rw [hxl]; decide) dX1_multiply_16 ?_
      rw [hxl]
      show xX Γ 0 0 n T 17 [(6, xI 2), (4, xL c1), (7, xL p1), (0, xR x), (1, xI f), (2, xI t), (3, xI k)] [xI 5, xI 2] (xst (xst M1 x 0 n0) x 1 n1)
      refine x_icmp_ge G 55 (by decide) dX1_multiply_17 (fun c17 => absurd c17 (by decide)) (fun _ => ?_)
      refine x_aload_n G 3 rfl rfl dX1_multiply_20 ?_
      refine x_iload G 0 rfl dX1_multiply_21 ?_
      refine x_lald G hxn hxk (hxl) (by omega) (by omega) dX1_multiply_23 ?_
      show xX Γ 0 0 n T 24 [(6, xI 2), (4, xL c1), (7, xL p1), (0, xR x), (1, xI f), (2, xI t), (3, xI k)] [xL ((xst (xst M1 x 0 n0) x 1 n1) x 2)] (xst (xst M1 x 0 n0) x 1 n1)
      rw [show (xst (xst M1 x 0 n0) x 1 n1) x 2 = (M1 x 2) from by simp [xst_eq]]
      refine x_iload_n G 4 rfl rfl dX1_multiply_24 ?_
      refine x_i2l G dX1_multiply_25 ?_
      have hm2 := km5 (hnm.2.2.1.1) (hnm.2.2.1.2) hf.1 hf.2
      refine x_lmul G (by omega) dX1_multiply_26 ?_
      refine x_lload G 1 rfl dX1_multiply_27 ?_
      refine x_ladd G (by omega) dX1_multiply_29 ?_
      obtain ⟨p2, hp2⟩ : ∃ p9 : Int, p9 = (((M1 x 2) * f) + c1) := ⟨_, rfl⟩; rw [← hp2]
      have hb2 : 0 ≤ p2 ∧ p2 < 1152921504606850048 := by omega
      refine x_lstore G [(7, xL p2), (6, xI 2), (4, xL c1), (0, xR x), (1, xI f), (2, xI t), (3, xI k)] (by decide) rfl dX1_multiply_30 ?_
      refine x_aload_n G 3 rfl rfl dX1_multiply_32 ?_
      refine x_iload G 1 rfl dX1_multiply_33 ?_
      refine x_lload G 0 rfl dX1_multiply_35 ?_
      refine x_ldc2 G (z := 1125899906842623) (by decide) kc_X1_41 dX1_multiply_37 ?_
      refine x_land G (p2 % 1125899906842624) (x_land50 (by omega) (by omega)) (by omega) dX1_multiply_40 ?_
      obtain ⟨n2, hn2⟩ : ∃ p9 : Int, p9 = (p2 % 1125899906842624) := ⟨_, rfl⟩; rw [← hn2]
      refine x_last G hxn hxk (hxl) (by omega) (by omega) dX1_multiply_41 ?_
      show xX Γ 0 0 n T 42 [(7, xL p2), (6, xI 2), (4, xL c1), (0, xR x), (1, xI f), (2, xI t), (3, xI k)] [] (xst (xst (xst M1 x 0 n0) x 1 n1) x 2 n2)
      refine x_lload G 0 rfl dX1_multiply_42 ?_
      refine x_bipush G (by decide) dX1_multiply_44 ?_
      refine x_lshr G (p2 / 1125899906842624) (x_lshr50 (by omega) (by omega)) (by omega) dX1_multiply_46 ?_
      obtain ⟨c2, hc2⟩ : ∃ p9 : Int, p9 = (p2 / 1125899906842624) := ⟨_, rfl⟩; rw [← hc2]
      have hc2b : 0 ≤ c2 ∧ c2 < 1025 := by omega
      refine x_lstore G [(4, xL c2), (7, xL p2), (6, xI 2), (0, xR x), (1, xI f), (2, xI t), (3, xI k)] (by decide) rfl dX1_multiply_47 ?_
      refine x_iinc G [(6, xI 3), (4, xL c2), (7, xL p2), (0, xR x), (1, xI f), (2, xI t), (3, xI k)] 2 rfl (by decide) (by omega) rfl dX1_multiply_49 ?_
      refine x_goto G 13 (by decide) dX1_multiply_52 ?_
      refine x_iload G 0 rfl dX1_multiply_13 ?_
      refine x_aload_n G 3 rfl rfl dX1_multiply_15 ?_
      refine x_alen G 2 hxn hxk (by decide) (fun _ => rfl) (by rw [hxl]; decide) dX1_multiply_16 ?_
      rw [hxl]
      show xX Γ 0 0 n T 17 [(6, xI 3), (4, xL c2), (7, xL p2), (0, xR x), (1, xI f), (2, xI t), (3, xI k)] [xI 5, xI 3] (xst (xst (xst M1 x 0 n0) x 1 n1) x 2 n2)
      refine x_icmp_ge G 55 (by decide) dX1_multiply_17 (fun c17 => absurd c17 (by decide)) (fun _ => ?_)
      refine x_aload_n G 3 rfl rfl dX1_multiply_20 ?_
      refine x_iload G 0 rfl dX1_multiply_21 ?_
      refine x_lald G hxn hxk (hxl) (by omega) (by omega) dX1_multiply_23 ?_
      show xX Γ 0 0 n T 24 [(6, xI 3), (4, xL c2), (7, xL p2), (0, xR x), (1, xI f), (2, xI t), (3, xI k)] [xL ((xst (xst (xst M1 x 0 n0) x 1 n1) x 2 n2) x 3)] (xst (xst (xst M1 x 0 n0) x 1 n1) x 2 n2)
      rw [show (xst (xst (xst M1 x 0 n0) x 1 n1) x 2 n2) x 3 = (M1 x 3) from by simp [xst_eq]]
      refine x_iload_n G 4 rfl rfl dX1_multiply_24 ?_
      refine x_i2l G dX1_multiply_25 ?_
      have hm3 := km5 (hnm.2.2.2.1.1) (hnm.2.2.2.1.2) hf.1 hf.2
      refine x_lmul G (by omega) dX1_multiply_26 ?_
      refine x_lload G 1 rfl dX1_multiply_27 ?_
      refine x_ladd G (by omega) dX1_multiply_29 ?_
      obtain ⟨p3, hp3⟩ : ∃ p9 : Int, p9 = (((M1 x 3) * f) + c2) := ⟨_, rfl⟩; rw [← hp3]
      have hb3 : 0 ≤ p3 ∧ p3 < 1152921504606850048 := by omega
      refine x_lstore G [(7, xL p3), (6, xI 3), (4, xL c2), (0, xR x), (1, xI f), (2, xI t), (3, xI k)] (by decide) rfl dX1_multiply_30 ?_
      refine x_aload_n G 3 rfl rfl dX1_multiply_32 ?_
      refine x_iload G 1 rfl dX1_multiply_33 ?_
      refine x_lload G 0 rfl dX1_multiply_35 ?_
      refine x_ldc2 G (z := 1125899906842623) (by decide) kc_X1_41 dX1_multiply_37 ?_
      refine x_land G (p3 % 1125899906842624) (x_land50 (by omega) (by omega)) (by omega) dX1_multiply_40 ?_
      obtain ⟨n3, hn3⟩ : ∃ p9 : Int, p9 = (p3 % 1125899906842624) := ⟨_, rfl⟩; rw [← hn3]
      refine x_last G hxn hxk (hxl) (by omega) (by omega) dX1_multiply_41 ?_
      show xX Γ 0 0 n T 42 [(7, xL p3), (6, xI 3), (4, xL c2), (0, xR x), (1, xI f), (2, xI t), (3, xI k)] [] (xst (xst (xst (xst M1 x 0 n0) x 1 n1) x 2 n2) x 3 n3)
      refine x_lload G 0 rfl dX1_multiply_42 ?_
      refine x_bipush G (by decide) dX1_multiply_44 ?_
      refine x_lshr G (p3 / 1125899906842624) (x_lshr50 (by omega) (by omega)) (by omega) dX1_multiply_46 ?_
      obtain ⟨c3, hc3⟩ : ∃ p9 : Int, p9 = (p3 / 1125899906842624) := ⟨_, rfl⟩; rw [← hc3]
      have hc3b : 0 ≤ c3 ∧ c3 < 1025 := by omega
      refine x_lstore G [(4, xL c3), (7, xL p3), (6, xI 3), (0, xR x), (1, xI f), (2, xI t), (3, xI k)] (by decide) rfl dX1_multiply_47 ?_
      refine x_iinc G [(6, xI 4), (4, xL c3), (7, xL p3), (0, xR x), (1, xI f), (2, xI t), (3, xI k)] 2 rfl (by decide) (by omega) rfl dX1_multiply_49 ?_
      refine x_goto G 13 (by decide) dX1_multiply_52 ?_
      refine x_iload G 0 rfl dX1_multiply_13 ?_
      refine x_aload_n G 3 rfl rfl dX1_multiply_15 ?_
      refine x_alen G 2 hxn hxk (by decide) (fun _ => rfl) (by rw [hxl]; decide) dX1_multiply_16 ?_
      rw [hxl]
      show xX Γ 0 0 n T 17 [(6, xI 4), (4, xL c3), (7, xL p3), (0, xR x), (1, xI f), (2, xI t), (3, xI k)] [xI 5, xI 4] (xst (xst (xst (xst M1 x 0 n0) x 1 n1) x 2 n2) x 3 n3)
      refine x_icmp_ge G 55 (by decide) dX1_multiply_17 (fun c17 => absurd c17 (by decide)) (fun _ => ?_)
      refine x_aload_n G 3 rfl rfl dX1_multiply_20 ?_
      refine x_iload G 0 rfl dX1_multiply_21 ?_
      refine x_lald G hxn hxk (hxl) (by omega) (by omega) dX1_multiply_23 ?_
      show xX Γ 0 0 n T 24 [(6, xI 4), (4, xL c3), (7, xL p3), (0, xR x), (1, xI f), (2, xI t), (3, xI k)] [xL ((xst (xst (xst (xst M1 x 0 n0) x 1 n1) x 2 n2) x 3 n3) x 4)] (xst (xst (xst (xst M1 x 0 n0) x 1 n1) x 2 n2) x 3 n3)
      rw [show (xst (xst (xst (xst M1 x 0 n0) x 1 n1) x 2 n2) x 3 n3) x 4 = (M1 x 4) from by simp [xst_eq]]
      refine x_iload_n G 4 rfl rfl dX1_multiply_24 ?_
      refine x_i2l G dX1_multiply_25 ?_
      have hm4 := km5 (hnm.2.2.2.2.1) (hnm.2.2.2.2.2) hf.1 hf.2
      refine x_lmul G (by omega) dX1_multiply_26 ?_
      refine x_lload G 1 rfl dX1_multiply_27 ?_
      refine x_ladd G (by omega) dX1_multiply_29 ?_
      obtain ⟨p4, hp4⟩ : ∃ p9 : Int, p9 = (((M1 x 4) * f) + c3) := ⟨_, rfl⟩; rw [← hp4]
      have hb4 : 0 ≤ p4 ∧ p4 < 1152921504606850048 := by omega
      refine x_lstore G [(7, xL p4), (6, xI 4), (4, xL c3), (0, xR x), (1, xI f), (2, xI t), (3, xI k)] (by decide) rfl dX1_multiply_30 ?_
      refine x_aload_n G 3 rfl rfl dX1_multiply_32 ?_
      refine x_iload G 1 rfl dX1_multiply_33 ?_
      refine x_lload G 0 rfl dX1_multiply_35 ?_
      refine x_ldc2 G (z := 1125899906842623) (by decide) kc_X1_41 dX1_multiply_37 ?_
      refine x_land G (p4 % 1125899906842624) (x_land50 (by omega) (by omega)) (by omega) dX1_multiply_40 ?_
      obtain ⟨n4, hn4⟩ : ∃ p9 : Int, p9 = (p4 % 1125899906842624) := ⟨_, rfl⟩; rw [← hn4]
      refine x_last G hxn hxk (hxl) (by omega) (by omega) dX1_multiply_41 ?_
      show xX Γ 0 0 n T 42 [(7, xL p4), (6, xI 4), (4, xL c3), (0, xR x), (1, xI f), (2, xI t), (3, xI k)] [] (xst (xst (xst (xst (xst M1 x 0 n0) x 1 n1) x 2 n2) x 3 n3) x 4 n4)
      refine x_lload G 0 rfl dX1_multiply_42 ?_
      refine x_bipush G (by decide) dX1_multiply_44 ?_
      refine x_lshr G (p4 / 1125899906842624) (x_lshr50 (by omega) (by omega)) (by omega) dX1_multiply_46 ?_
      obtain ⟨c4, hc4⟩ : ∃ p9 : Int, p9 = (p4 / 1125899906842624) := ⟨_, rfl⟩; rw [← hc4]
      have hc4b : 0 ≤ c4 ∧ c4 < 1025 := by omega
      refine x_lstore G [(4, xL c4), (7, xL p4), (6, xI 4), (0, xR x), (1, xI f), (2, xI t), (3, xI k)] (by decide) rfl dX1_multiply_47 ?_
      refine x_iinc G [(6, xI 5), (4, xL c4), (7, xL p4), (0, xR x), (1, xI f), (2, xI t), (3, xI k)] 2 rfl (by decide) (by omega) rfl dX1_multiply_49 ?_
      refine x_goto G 13 (by decide) dX1_multiply_52 ?_
      refine x_iload G 0 rfl dX1_multiply_13 ?_
      refine x_aload_n G 3 rfl rfl dX1_multiply_15 ?_
      refine x_alen G 2 hxn hxk (by decide) (fun _ => rfl) (by rw [hxl]; decide) dX1_multiply_16 ?_
      rw [hxl]
      show xX Γ 0 0 n T 17 [(6, xI 5), (4, xL c4), (7, xL p4), (0, xR x), (1, xI f), (2, xI t), (3, xI k)] [xI 5, xI 5] (xst (xst (xst (xst (xst M1 x 0 n0) x 1 n1) x 2 n2) x 3 n3) x 4 n4)
      refine x_icmp_ge G 55 (by decide) dX1_multiply_17 (fun _ => ?_) (fun c17 => absurd c17 (by decide))
      refine x_iinc G [(3, xI (k + 1)), (6, xI 5), (4, xL c4), (7, xL p4), (0, xR x), (1, xI f), (2, xI t)] 6 rfl (by decide) (by omega) rfl dX1_multiply_55 ?_
      refine x_goto G 2 (by decide) dX1_multiply_58 ?_
      refine x_sub [(0, xR x), (1, xI f), (2, xI t), (3, xI (k + 1))] [4, 5, 6, 0] rfl ?_
      exact ih2 _ (by omega) (k + 1) (xst (xst (xst (xst (xst M1 x 0 n0) x 1 n1) x 2 n2) x 3 n3) x 4 n4) rfl (by omega) (by intro q hq; rw [← hfr q hq]; simp [xst, hq]) (by simp only [xst_eq]; simp; omega) (by sorry)
  refine x_sub [(0, xR x), (1, xI f), (2, xI t), (3, xI 0)] [1, 2, 3, 0] rfl ?_
  exact loop2 _ 0 M rfl (by omega) (by intro q _; rfl) (exact hnm) (by simp)
