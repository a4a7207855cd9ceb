set_option maxRecDepth 100000 in
set_option maxHeartbeats 4000000 in
theorem kX4_isLetter (D : xD) (l : Launch) {n : Nat} {T : xT} {M : xM} (bt : Int → Int) (len : Int) (p : Int) (hY : LayOK n T) (hT : TB bt len) (hM : TM M bt len) (hp : 0 ≤ p) : xC D l uX4_isLetter 1 22 0 0 [xR 146, xI p] n T M (xPp n T M (b2i (ltr (bt p)))) := by
  refine x_met uX4_isLetter (by decide) (Nat.le_of_ble_eq_true rfl) ?_
  intro Γ G Rt _
  have G : xG Γ RX4 cX4_isLetter 2 1 22 0 0 := G
  have Rt : xRt Γ (xPp n T M (b2i (ltr (bt p)))) (some .boolean) 0 0 := Rt
  show xX Γ 0 0 n T 0 [(0, xR 146), (1, xI p)] [] M
  have hL := hT.1
  have hMl := hM.1
  refine x_iload_n G 1 rfl rfl dX4_isLetter_0 ?_
  refine x_aload_n G 0 rfl rfl dX4_isLetter_1 ?_
  refine x_get G (xI (M 146 2)) xf4_2 lk_X4_22 (ly_n hY 146 (by decide)) (ly_k hY 146 (by decide)) (Or.inl ⟨rfl, rfl⟩) dX4_isLetter_2 ?_
  refine x_icmp_ge G 28 (by decide) dX4_isLetter_5 (fun c5 => ?_) (fun c5 => ?_)
  · skip
    refine x_iconst G (by decide) dX4_isLetter_28 ?_
    exact x_zret G (by omega) Rt dX4_isLetter_29 ⟨rfl, rfl, congrArg (fun z => some (xI z)) (by first | exact (b2i_t (by first | exact c21 | omega)).symm | exact (b2i_f (by first | exact c21 | (have := hT.2.2 p (by omega); omega))).symm), rfl⟩
  · skip
    refine x_aload_n G 0 rfl rfl dX4_isLetter_8 ?_
    refine x_get G (xR 147) xf4_0 lk_X4_9 (ly_n hY 146 (by decide)) (ly_k hY 146 (by decide)) (Or.inr ⟨rfl, _, (ly_r hY 146 0 (by decide) (by decide)), rfl⟩) dX4_isLetter_9 ?_
    refine x_iload_n G 1 rfl rfl dX4_isLetter_12 ?_
    refine x_iald G (ly_n hY 147 (by decide)) (ly_k hY 147 (by decide)) (show _ = 400 from ly_l hY 147 (by decide)) (by omega) (by omega) dX4_isLetter_13 ?_
    have hbp := hM.2 p.toNat (by omega)
    have hpp : ((p.toNat : Nat) : Int) = p := by omega
    rw [hpp] at hbp
    rw [hbp]
    skip
    refine x_bipush G (by decide) dX4_isLetter_14 ?_
    refine x_bipush G (by decide) dX4_isLetter_16 ?_
    refine x_callSp G [] [xI (bt p), xI 97, xI 122] hy_X6_isWithin ht_X6_isWithin ml_X4_113 rfl rfl (kX6_isWithin _ _ (bt p) 97 122) (by decide) (by decide) (Nat.le_of_ble_eq_true rfl) dX4_isLetter_18 ?_
    refine x_if_eq G 28 (by decide) dX4_isLetter_21 (fun c21 => ?_) (fun c21 => ?_)
    · skip
      have c21 := b2i_eq0.mp c21
      refine x_iconst G (by decide) dX4_isLetter_28 ?_
      exact x_zret G (by omega) Rt dX4_isLetter_29 ⟨rfl, rfl, congrArg (fun z => some (xI z)) (by first | exact (b2i_t (by first | exact c21 | omega)).symm | exact (b2i_f (by first | exact c21 | (have := hT.2.2 p (by omega); omega))).symm), rfl⟩
    · skip
      have c21 := b2i_ne0.mp c21
      refine x_iconst G (by decide) dX4_isLetter_24 ?_
      refine x_goto G 29 (by decide) dX4_isLetter_25 ?_
      exact x_zret G (by omega) Rt dX4_isLetter_29 ⟨rfl, rfl, congrArg (fun z => some (xI z)) (by first | exact (b2i_t (by first | exact c21 | omega)).symm | exact (b2i_f (by first | exact c21 | (have := hT.2.2 p (by omega); omega))).symm), rfl⟩
set_option maxRecDepth 100000 in
set_option maxHeartbeats 4000000 in
theorem kX4_meet (D : xD) (l : Launch) {n : Nat} {T : xT} {M : xM} (bt : Int → Int) (len : Int) (a f : Int) (p k : Int) (hY : LayOK n T) (hT : TB bt len) (hM : TM M bt len) (h3 : M 146 3 = a) (h4 : M 146 4 = f) (ha : 0 ≤ a ∧ a ≤ len) (hp : 0 ≤ p ∧ p ≤ 1000) (hk : 0 ≤ k ∧ k ≤ 3) : xC D l uX4_meet 0 0 0 0 [xR 146, xI p, xI k] n T M (xPV n T (fun M2 => M2 = tpM M a (if f = -1 then 8 * p + k else f))) := by
  refine x_met uX4_meet (by decide) (Nat.le_of_ble_eq_true rfl) ?_
  intro Γ G Rt _
  have G : xG Γ RX4 cX4_meet 3 0 0 0 0 := G
  have Rt : xRt Γ (xPV n T (fun M2 => M2 = tpM M a (if f = -1 then 8 * p + k else f))) none 0 0 := Rt
  show xX Γ 0 0 n T 0 [(0, xR 146), (1, xI p), (2, xI k)] [] M
  have hL := hT.1
  have hMl := hM.1
  rw [← tp_id h3 h4]
  show xX Γ 0 0 n T 0 [(0, xR 146), (1, xI p), (2, xI k)] [] (xst (xst M 146 3 a) 146 4 f)
  refine x_aload_n G 0 rfl rfl dX4_meet_0 ?_
  refine x_get G (xI ((xst (xst M 146 3 a) 146 4 f) 146 4)) xf4_4 lk_X4_32 (ly_n hY 146 (by decide)) (ly_k hY 146 (by decide)) (Or.inl ⟨rfl, rfl⟩) dX4_meet_1 ?_
  rw [show (xst (xst M 146 3 a) 146 4 f) 146 4 = f from (xst_same ..)]
  refine x_iconst G (by decide) dX4_meet_4 ?_
  refine x_icmp_ne G 18 (by decide) dX4_meet_5 (fun c5 => ?_) (fun c5 => ?_)
  · skip
    exact x_vret G Rt dX4_meet_18 ⟨rfl, rfl, rfl, by first | (rw [if_pos (by omega)]) | (rw [if_neg (by omega)])⟩
  · skip
    refine x_aload_n G 0 rfl rfl dX4_meet_8 ?_
    refine x_bipush G (by decide) dX4_meet_9 ?_
    refine x_iload_n G 1 rfl rfl dX4_meet_11 ?_
    refine x_imul G (by omega) dX4_meet_12 ?_
    refine x_iload_n G 2 rfl rfl dX4_meet_13 ?_
    refine x_iadd G (by omega) dX4_meet_14 ?_
    refine x_put G  xf4_4 lk_X4_32 (ly_n hY 146 (by decide)) (ly_k hY 146 (by decide)) rfl dX4_meet_15 ?_
    rw [tp_f]
    show xX Γ 0 0 n T 18 [(0, xR 146), (1, xI p), (2, xI k)] [] (xst (xst M 146 3 a) 146 4 ((8 * p) + k))
    exact x_vret G Rt dX4_meet_18 ⟨rfl, rfl, rfl, by first | (rw [if_pos (by omega)]) | (rw [if_neg (by omega)])⟩
set_option maxRecDepth 100000 in
set_option maxHeartbeats 4000000 in
theorem kX4_skipBlanks (D : xD) (l : Launch) {n : Nat} {T : xT} {M : xM} (bt : Int → Int) (len : Int) (a f : Int) (hY : LayOK n T) (hT : TB bt len) (hM : TM M bt len) (h3 : M 146 3 = a) (h4 : M 146 4 = f) (ha : 0 ≤ a ∧ a ≤ len) : xC D l uX4_skipBlanks 0 0 0 0 [xR 146] n T M (xPV n T (fun M2 => M2 = tpM M (skp bt a) f)) := by
  refine x_met uX4_skipBlanks (by decide) (Nat.le_of_ble_eq_true rfl) ?_
  intro Γ G Rt _
  have G : xG Γ RX4 cX4_skipBlanks 1 0 0 0 0 := G
  have Rt : xRt Γ (xPV n T (fun M2 => M2 = tpM M (skp bt a) f)) none 0 0 := Rt
  show xX Γ 0 0 n T 0 [(0, xR 146)] [] M
  have hL := hT.1
  have hMl := hM.1
  rw [← tp_id h3 h4]
  show xX Γ 0 0 n T 0 [(0, xR 146)] [] (xst (xst M 146 3 a) 146 4 f)
  have loop0 : ∀ (d : Nat) (k : Int), (len - k).toNat = d → (a ≤ k ∧ k ≤ len) → (∀ j, a ≤ j → j < k → bt j = 32) → xX Γ 0 0 n T 0 [(0, xR 146)] [] (xst (xst M 146 3 k) 146 4 f) := by
    intro d
    induction d using Nat.strongRecOn with
    | ind d ih0 =>
    intro k hd0 hk hb
    skip
    refine x_aload_n G 0 rfl rfl dX4_skipBlanks_0 ?_
    refine x_get G (xI ((xst (xst M 146 3 k) 146 4 f) 146 3)) xf4_3 lk_X4_29 (ly_n hY 146 (by decide)) (ly_k hY 146 (by decide)) (Or.inl ⟨rfl, rfl⟩) dX4_skipBlanks_1 ?_
    rw [show (xst (xst M 146 3 k) 146 4 f) 146 3 = k from ((xst_nq (by omega)).trans (xst_same ..))]
    refine x_aload_n G 0 rfl rfl dX4_skipBlanks_4 ?_
    refine x_get G (xI ((xst (xst M 146 3 k) 146 4 f) 146 2)) xf4_2 lk_X4_22 (ly_n hY 146 (by decide)) (ly_k hY 146 (by decide)) (Or.inl ⟨rfl, rfl⟩) dX4_skipBlanks_5 ?_
    rw [show (xst (xst M 146 3 k) 146 4 f) 146 2 = (M 146 2) from ((xst_nq (by omega)).trans (xst_nq (by omega)))]
    refine x_icmp_ge G 38 (by decide) dX4_skipBlanks_8 (fun c8 => ?_) (fun c8 => ?_)
    · skip
      exact x_vret G Rt dX4_skipBlanks_38 ⟨rfl, rfl, rfl, by rw [show skp bt a = k from runE_eq ⟨hk.1, hb, by (first | (have := hT.2.2 k (by omega); omega) | omega)⟩]⟩
    · skip
      refine x_aload_n G 0 rfl rfl dX4_skipBlanks_11 ?_
      refine x_get G (xR 147) xf4_0 lk_X4_9 (ly_n hY 146 (by decide)) (ly_k hY 146 (by decide)) (Or.inr ⟨rfl, _, (ly_r hY 146 0 (by decide) (by decide)), rfl⟩) dX4_skipBlanks_12 ?_
      refine x_aload_n G 0 rfl rfl dX4_skipBlanks_15 ?_
      refine x_get G (xI ((xst (xst M 146 3 k) 146 4 f) 146 3)) xf4_3 lk_X4_29 (ly_n hY 146 (by decide)) (ly_k hY 146 (by decide)) (Or.inl ⟨rfl, rfl⟩) dX4_skipBlanks_16 ?_
      rw [show (xst (xst M 146 3 k) 146 4 f) 146 3 = k from ((xst_nq (by omega)).trans (xst_same ..))]
      refine x_iald G (ly_n hY 147 (by decide)) (ly_k hY 147 (by decide)) (show _ = 400 from ly_l hY 147 (by decide)) (by omega) (by omega) dX4_skipBlanks_19 ?_
      rw [show (xst (xst M 146 3 k) 146 4 f) 147 k.toNat = (M 147 k.toNat) from ((xst_nq (by omega)).trans (xst_nq (by omega)))]
      have hbp := hM.2 k.toNat (by omega)
      have hpp : ((k.toNat : Nat) : Int) = k := by omega
      rw [hpp] at hbp
      rw [hbp]
      skip
      refine x_bipush G (by decide) dX4_skipBlanks_20 ?_
      refine x_icmp_ne G 38 (by decide) dX4_skipBlanks_22 (fun c22 => ?_) (fun c22 => ?_)
      · skip
        exact x_vret G Rt dX4_skipBlanks_38 ⟨rfl, rfl, rfl, by rw [show skp bt a = k from runE_eq ⟨hk.1, hb, by (first | (have := hT.2.2 k (by omega); omega) | omega)⟩]⟩
      · skip
        refine x_aload_n G 0 rfl rfl dX4_skipBlanks_25 ?_
        refine x_dup G rfl dX4_skipBlanks_26 ?_
        refine x_get G (xI ((xst (xst M 146 3 k) 146 4 f) 146 3)) xf4_3 lk_X4_29 (ly_n hY 146 (by decide)) (ly_k hY 146 (by decide)) (Or.inl ⟨rfl, rfl⟩) dX4_skipBlanks_27 ?_
        rw [show (xst (xst M 146 3 k) 146 4 f) 146 3 = k from ((xst_nq (by omega)).trans (xst_same ..))]
        refine x_iconst G (by decide) dX4_skipBlanks_30 ?_
        refine x_iadd G (by omega) dX4_skipBlanks_31 ?_
        refine x_put G  xf4_3 lk_X4_29 (ly_n hY 146 (by decide)) (ly_k hY 146 (by decide)) rfl dX4_skipBlanks_32 ?_
        rw [tp_a]
        show xX Γ 0 0 n T 35 [(0, xR 146)] [] (xst (xst M 146 3 (k + 1)) 146 4 f)
        refine x_goto G 0 (by decide) dX4_skipBlanks_35 ?_
        refine x_sub [(0, xR 146)] [0] rfl ?_
        exact ih0 _ (by omega) (k + 1) rfl (by omega) (by intro j h1 h2; rcases Int.lt_or_le j k with g | g; exact hb j h1 g; rw [show j = k by omega]; omega)
  refine x_sub [(0, xR 146)] [0] rfl ?_
  exact loop0 _ a rfl (by omega) (by intro j h1 h2; omega)
theorem dvl_nn {bt : Int → Int} {s : Int} : ∀ n : Nat, (∀ j, s ≤ j → j < s + n → dgt (bt j)) → 0 ≤ dvl bt s n := fun n => by
  induction n with
  | zero => intro _; exact Int.le_refl _
  | succ n ih =>
    intro h
    have h1 := ih (fun j a b => h j a (by omega))
    have h2 := h (s + n) (by omega) (by omega)
    unfold dvl
    omega
theorem dvl_s {bt : Int → Int} {s k : Int} (h : s ≤ k) : dvl bt s (k + 1 - s).toNat = 10 * dvl bt s (k - s).toNat + (bt k - 48) := by
  rw [show (k + 1 - s).toNat = (k - s).toNat + 1 by omega]
  show 10 * dvl bt s (k - s).toNat + (bt (s + (((k - s).toNat : Nat) : Int)) - 48) = _
  rw [show s + (((k - s).toNat : Nat) : Int) = k by omega]
theorem pnum_at {bt : Int → Int} {a k lo hi : Int} (h : Run (fun j => dgt (bt j)) (skp bt a) k) : pnum bt a lo hi = if k = skp bt a then (8 * skp bt a + 1, 0, 0) else if lo ≤ dvl bt (skp bt a) (k - skp bt a).toNat ∧ dvl bt (skp bt a) (k - skp bt a).toNat ≤ hi then (-1, dvl bt (skp bt a) (k - skp bt a).toNat, k) else (8 * skp bt a + 2, 0, 0) := by
  have e : dge bt (skp bt a) = k := runE_eq h
  unfold pnum
  rw [e]
  by_cases g : k = skp bt a
  · rw [if_neg (by rw [← g]; exact h.2.2), if_pos g]
  · rw [if_pos (h.2.1 _ (Int.le_refl _) (by have := h.1; omega)), if_neg g]
theorem num_fin {M : xM} {len a2 f f2 z lo : Int} {R : Int × Int × Int} (hk : 0 ≤ a2 ∧ a2 ≤ len) (hF : f2 = if f = -1 then R.1 else f) (h1 : f = -1 → R.1 = -1 → z = R.2.1 ∧ a2 = R.2.2) (h2 : ¬ (f = -1 ∧ R.1 = -1) → z = lo) : ∃ a3, (0 ≤ a3 ∧ a3 ≤ len) ∧ tpM M a2 f2 = tpM M a3 (if f = -1 then R.1 else f) ∧ (f = -1 → R.1 = -1 → z = R.2.1 ∧ a3 = R.2.2) ∧ (¬ (f = -1 ∧ R.1 = -1) → z = lo) := ⟨a2, hk, by rw [hF], h1, h2⟩
set_option maxRecDepth 100000 in
set_option maxHeartbeats 4000000 in
theorem kX4_number (D : xD) (l : Launch) {n : Nat} {T : xT} {M : xM} (bt : Int → Int) (len : Int) (a f : Int) (lo hi : Int) (hY : LayOK n T) (hT : TB bt len) (hM : TM M bt len) (h3 : M 146 3 = a) (h4 : M 146 4 = f) (ha : 0 ≤ a ∧ a ≤ len) (hlh : 0 ≤ lo ∧ lo ≤ hi ∧ hi ≤ 65535) : xC D l uX4_number 1 40 0 0 [xR 146, xI lo, xI hi] n T M (xPI n T (fun z M2 => ∃ a2, (0 ≤ a2 ∧ a2 ≤ len) ∧ M2 = tpM M a2 (if f = -1 then (pnum bt a lo hi).1 else f) ∧ (f = -1 → (pnum bt a lo hi).1 = -1 → z = (pnum bt a lo hi).2.1 ∧ a2 = (pnum bt a lo hi).2.2) ∧ (¬ (f = -1 ∧ (pnum bt a lo hi).1 = -1) → z = lo))) := by
  refine x_met uX4_number (by decide) (Nat.le_of_ble_eq_true rfl) ?_
  intro Γ G Rt _
  have G : xG Γ RX4 cX4_number 5 1 40 0 0 := G
  have Rt : xRt Γ (xPI n T (fun z M2 => ∃ a2, (0 ≤ a2 ∧ a2 ≤ len) ∧ M2 = tpM M a2 (if f = -1 then (pnum bt a lo hi).1 else f) ∧ (f = -1 → (pnum bt a lo hi).1 = -1 → z = (pnum bt a lo hi).2.1 ∧ a2 = (pnum bt a lo hi).2.2) ∧ (¬ (f = -1 ∧ (pnum bt a lo hi).1 = -1) → z = lo))) (some .int) 0 0 := Rt
  show xX Γ 0 0 n T 0 [(0, xR 146), (1, xI lo), (2, xI hi)] [] M
  have hL := hT.1
  have hMl := hM.1
  rw [← tp_id h3 h4]
  show xX Γ 0 0 n T 0 [(0, xR 146), (1, xI lo), (2, xI hi)] [] (xst (xst M 146 3 a) 146 4 f)
  refine x_aload_n G 0 rfl rfl dX4_number_0 ?_
  refine x_callVV G [] [] rfl (by decide) (ly_n hY 146 (by decide)) (ly_k hY 146 (by decide)) hy_X4_skipBlanks hi_X4_skipBlanks hs_X4_skipBlanks ml_X4_38 rfl rfl (kX4_skipBlanks _ _ bt len a f hY hT (tm_tp hM) (tp_3 _ _ _) (tp_4 _ _ _) (by omega)) (by decide) (by decide) (Nat.le_of_ble_eq_true rfl) dX4_number_1 (fun M1 h1 => ?_)
  subst h1
  rw [tp_tp]
  have hsk1 := skp_b hT (show a ≤ len by omega)
  show xX Γ 0 0 n T 4 [(0, xR 146), (1, xI lo), (2, xI hi)] [] (xst (xst M 146 3 (skp bt a)) 146 4 f)
  refine x_aload_n G 0 rfl rfl dX4_number_4 ?_
  refine x_get G (xI ((xst (xst M 146 3 (skp bt a)) 146 4 f) 146 3)) xf4_3 lk_X4_29 (ly_n hY 146 (by decide)) (ly_k hY 146 (by decide)) (Or.inl ⟨rfl, rfl⟩) dX4_number_5 ?_
  rw [show (xst (xst M 146 3 (skp bt a)) 146 4 f) 146 3 = (skp bt a) from ((xst_nq (by omega)).trans (xst_same ..))]
  refine x_istore_n G [(3, xI (skp bt a)), (0, xR 146), (1, xI lo), (2, xI hi)] rfl (by decide) rfl dX4_number_8 ?_
  refine x_iconst G (by decide) dX4_number_9 ?_
  refine x_istore G [(4, xI 0), (3, xI (skp bt a)), (0, xR 146), (1, xI lo), (2, xI hi)] (by decide) rfl dX4_number_10 ?_
  have loop12 : ∀ (d : Nat) (k : Int) (v : Int), (len - k).toNat = d → (skp bt a ≤ k ∧ k ≤ len) → (∀ j, skp bt a ≤ j → j < k → dgt (bt j)) → (v = if 100000 < dvl bt (skp bt a) (k - skp bt a).toNat then 100000 else dvl bt (skp bt a) (k - skp bt a).toNat) → xX Γ 0 0 n T 12 [(0, xR 146), (1, xI lo), (2, xI hi), (3, xI (skp bt a)), (4, xI v)] [] (xst (xst M 146 3 k) 146 4 f) := by
    intro d
    induction d using Nat.strongRecOn with
    | ind d ih12 =>
    intro k v hd12 hk hd hv
    skip
    have hnn := dvl_nn (bt := bt) (s := skp bt a) (k - skp bt a).toNat (fun j h1 h2 => hd j h1 (by omega))
    have hvb : 0 ≤ v ∧ v ≤ 100000 := by (split at hv <;> omega)
    refine x_aload_n G 0 rfl rfl dX4_number_12 ?_
    refine x_get G (xI ((xst (xst M 146 3 k) 146 4 f) 146 3)) xf4_3 lk_X4_29 (ly_n hY 146 (by decide)) (ly_k hY 146 (by decide)) (Or.inl ⟨rfl, rfl⟩) dX4_number_13 ?_
    rw [show (xst (xst M 146 3 k) 146 4 f) 146 3 = k from ((xst_nq (by omega)).trans (xst_same ..))]
    refine x_aload_n G 0 rfl rfl dX4_number_16 ?_
    refine x_get G (xI ((xst (xst M 146 3 k) 146 4 f) 146 2)) xf4_2 lk_X4_22 (ly_n hY 146 (by decide)) (ly_k hY 146 (by decide)) (Or.inl ⟨rfl, rfl⟩) dX4_number_17 ?_
    rw [show (xst (xst M 146 3 k) 146 4 f) 146 2 = (M 146 2) from ((xst_nq (by omega)).trans (xst_nq (by omega)))]
    refine x_icmp_ge G 80 (by decide) dX4_number_20 (fun c20 => ?_) (fun c20 => ?_)
    · skip
      have hnd : ¬ dgt (bt k) := by (have := hT.2.2 k (by omega); omega)
      refine x_aload_n G 0 rfl rfl dX4_number_80 ?_
      refine x_get G (xI ((xst (xst M 146 3 k) 146 4 f) 146 3)) xf4_3 lk_X4_29 (ly_n hY 146 (by decide)) (ly_k hY 146 (by decide)) (Or.inl ⟨rfl, rfl⟩) dX4_number_81 ?_
      rw [show (xst (xst M 146 3 k) 146 4 f) 146 3 = k from ((xst_nq (by omega)).trans (xst_same ..))]
      refine x_iload_n G 3 rfl rfl dX4_number_84 ?_
      refine x_icmp_ne G 97 (by decide) dX4_number_85 (fun c85 => ?_) (fun c85 => ?_)
      · skip
        refine x_iload G 4 rfl dX4_number_97 ?_
        refine x_iload_n G 1 rfl rfl dX4_number_99 ?_
        refine x_iload_n G 2 rfl rfl dX4_number_100 ?_
        refine x_callSp G [] [xI v, xI lo, xI hi] hy_X6_isWithin ht_X6_isWithin ml_X4_113 rfl rfl (kX6_isWithin _ _ v lo hi) (by decide) (by decide) (Nat.le_of_ble_eq_true rfl) dX4_number_101 ?_
        refine x_if_ne G 113 (by decide) dX4_number_104 (fun c104 => ?_) (fun c104 => ?_)
        · skip
          have c104 := b2i_ne0.mp c104
          refine x_aload_n G 0 rfl rfl dX4_number_113 ?_
          refine x_get G (xI ((xst (xst M 146 3 k) 146 4 f) 146 4)) xf4_4 lk_X4_32 (ly_n hY 146 (by decide)) (ly_k hY 146 (by decide)) (Or.inl ⟨rfl, rfl⟩) dX4_number_114 ?_
          rw [show (xst (xst M 146 3 k) 146 4 f) 146 4 = f from (xst_same ..)]
          refine x_iconst G (by decide) dX4_number_117 ?_
          refine x_icmp_ne G 126 (by decide) dX4_number_118 (fun c118 => ?_) (fun c118 => ?_)
          · skip
            refine x_iload_n G 1 rfl rfl dX4_number_126 ?_
            exact x_iret G Rt dX4_number_127 ⟨rfl, rfl, _, rfl, (by
          have hrun : Run (fun j => dgt (bt j)) (skp bt a) k := ⟨by omega, hd, hnd⟩
          have hp := pnum_at (lo := lo) (hi := hi) hrun
          rw [if_neg (by omega), if_pos (by (split at hv <;> omega))] at hp
          exact num_fin (by omega) (by rw [if_neg (by omega)]) (fun g => by omega) (fun _ => rfl))⟩
          · skip
            refine x_iload G 4 rfl dX4_number_121 ?_
            refine x_goto G 127 (by decide) dX4_number_123 ?_
            exact x_iret G Rt dX4_number_127 ⟨rfl, rfl, _, rfl, (by
          have hrun : Run (fun j => dgt (bt j)) (skp bt a) k := ⟨by omega, hd, hnd⟩
          have hp := pnum_at (lo := lo) (hi := hi) hrun
          rw [if_neg (by omega), if_pos (by (split at hv <;> omega))] at hp
          exact num_fin (by omega) (by rw [if_pos (by omega), hp]; omega) (fun _ _ => by rw [hp]; exact ⟨by show v = dvl bt (skp bt a) (k - skp bt a).toNat; (split at hv <;> omega), rfl⟩) (fun g => absurd ⟨by omega, by rw [hp]⟩ g))⟩
        · skip
          have c104 := b2i_eq0.mp c104
          refine x_aload_n G 0 rfl rfl dX4_number_107 ?_
          refine x_iload_n G 3 rfl rfl dX4_number_108 ?_
          refine x_iconst G (by decide) dX4_number_109 ?_
          refine x_callVV G [] [xI (skp bt a), xI 2] rfl (by decide) (ly_n hY 146 (by decide)) (ly_k hY 146 (by decide)) hy_X4_meet hi_X4_meet hs_X4_meet ml_X4_41 rfl rfl (kX4_meet _ _ bt len k f (skp bt a) 2 hY hT (tm_tp hM) (tp_3 _ _ _) (tp_4 _ _ _) (by omega) (by omega) (by omega)) (by decide) (by decide) (Nat.le_of_ble_eq_true rfl) dX4_number_110 (fun M110 h110 => ?_)
          subst h110
          rw [tp_tp]
          obtain ⟨f110, hf110⟩ : ∃ p9 : Int, p9 = (if f = -1 then 8 * (skp bt a) + 2 else f) := ⟨_, rfl⟩
          rw [← hf110]
          have hg110 : (f = -1 ∧ f110 = 8 * (skp bt a) + 2) ∨ (¬ f = -1 ∧ f110 = f) := by (split at hf110 <;> omega)
          show xX Γ 0 0 n T 113 [(0, xR 146), (1, xI lo), (2, xI hi), (3, xI (skp bt a)), (4, xI v)] [] (xst (xst M 146 3 k) 146 4 f110)
          refine x_aload_n G 0 rfl rfl dX4_number_113 ?_
          refine x_get G (xI ((xst (xst M 146 3 k) 146 4 f110) 146 4)) xf4_4 lk_X4_32 (ly_n hY 146 (by decide)) (ly_k hY 146 (by decide)) (Or.inl ⟨rfl, rfl⟩) dX4_number_114 ?_
          rw [show (xst (xst M 146 3 k) 146 4 f110) 146 4 = f110 from (xst_same ..)]
          refine x_iconst G (by decide) dX4_number_117 ?_
          refine x_icmp_ne G 126 (by decide) dX4_number_118 (fun c118 => ?_) (fun c118 => ?_)
          · skip
            refine x_iload_n G 1 rfl rfl dX4_number_126 ?_
            exact x_iret G Rt dX4_number_127 ⟨rfl, rfl, _, rfl, (by
          have hrun : Run (fun j => dgt (bt j)) (skp bt a) k := ⟨by omega, hd, hnd⟩
          have hp := pnum_at (lo := lo) (hi := hi) hrun
          rw [if_neg (by omega), if_neg (by (split at hv <;> omega))] at hp
          exact num_fin (by omega) (by rw [hp]; exact hf110) (fun _ g => by rw [hp] at g; have g : 8 * skp bt a + 2 = -1 := g; omega) (fun _ => rfl))⟩
          · skip
            refine x_iload G 4 rfl dX4_number_121 ?_
            refine x_goto G 127 (by decide) dX4_number_123 ?_
            exact x_iret G Rt dX4_number_127 ⟨rfl, rfl, _, rfl, (by exfalso; split at hf110 <;> omega)⟩
      · skip
        refine x_aload_n G 0 rfl rfl dX4_number_88 ?_
        refine x_iload_n G 3 rfl rfl dX4_number_89 ?_
        refine x_iconst G (by decide) dX4_number_90 ?_
        refine x_callVV G [] [xI (skp bt a), xI 1] rfl (by decide) (ly_n hY 146 (by decide)) (ly_k hY 146 (by decide)) hy_X4_meet hi_X4_meet hs_X4_meet ml_X4_41 rfl rfl (kX4_meet _ _ bt len k f (skp bt a) 1 hY hT (tm_tp hM) (tp_3 _ _ _) (tp_4 _ _ _) (by omega) (by omega) (by omega)) (by decide) (by decide) (Nat.le_of_ble_eq_true rfl) dX4_number_91 (fun M91 h91 => ?_)
        subst h91
        rw [tp_tp]
        obtain ⟨f91, hf91⟩ : ∃ p9 : Int, p9 = (if f = -1 then 8 * (skp bt a) + 1 else f) := ⟨_, rfl⟩
        rw [← hf91]
        have hg91 : (f = -1 ∧ f91 = 8 * (skp bt a) + 1) ∨ (¬ f = -1 ∧ f91 = f) := by (split at hf91 <;> omega)
        show xX Γ 0 0 n T 94 [(0, xR 146), (1, xI lo), (2, xI hi), (3, xI (skp bt a)), (4, xI v)] [] (xst (xst M 146 3 k) 146 4 f91)
        refine x_goto G 113 (by decide) dX4_number_94 ?_
        refine x_aload_n G 0 rfl rfl dX4_number_113 ?_
        refine x_get G (xI ((xst (xst M 146 3 k) 146 4 f91) 146 4)) xf4_4 lk_X4_32 (ly_n hY 146 (by decide)) (ly_k hY 146 (by decide)) (Or.inl ⟨rfl, rfl⟩) dX4_number_114 ?_
        rw [show (xst (xst M 146 3 k) 146 4 f91) 146 4 = f91 from (xst_same ..)]
        refine x_iconst G (by decide) dX4_number_117 ?_
        refine x_icmp_ne G 126 (by decide) dX4_number_118 (fun c118 => ?_) (fun c118 => ?_)
        · skip
          refine x_iload_n G 1 rfl rfl dX4_number_126 ?_
          exact x_iret G Rt dX4_number_127 ⟨rfl, rfl, _, rfl, (by
          have hrun : Run (fun j => dgt (bt j)) (skp bt a) k := ⟨by omega, hd, hnd⟩
          have hp := pnum_at (lo := lo) (hi := hi) hrun
          rw [if_pos (by omega)] at hp
          exact num_fin (by omega) (by rw [hp]; exact hf91) (fun _ g => by rw [hp] at g; have g : 8 * skp bt a + 1 = -1 := g; omega) (fun _ => rfl))⟩
        · skip
          refine x_iload G 4 rfl dX4_number_121 ?_
          refine x_goto G 127 (by decide) dX4_number_123 ?_
          exact x_iret G Rt dX4_number_127 ⟨rfl, rfl, _, rfl, (by exfalso; split at hf91 <;> omega)⟩
    · skip
      refine x_aload_n G 0 rfl rfl dX4_number_23 ?_
      refine x_get G (xR 147) xf4_0 lk_X4_9 (ly_n hY 146 (by decide)) (ly_k hY 146 (by decide)) (Or.inr ⟨rfl, _, (ly_r hY 146 0 (by decide) (by decide)), rfl⟩) dX4_number_24 ?_
      refine x_aload_n G 0 rfl rfl dX4_number_27 ?_
      refine x_get G (xI ((xst (xst M 146 3 k) 146 4 f) 146 3)) xf4_3 lk_X4_29 (ly_n hY 146 (by decide)) (ly_k hY 146 (by decide)) (Or.inl ⟨rfl, rfl⟩) dX4_number_28 ?_
      rw [show (xst (xst M 146 3 k) 146 4 f) 146 3 = k from ((xst_nq (by omega)).trans (xst_same ..))]
      refine x_iald G (ly_n hY 147 (by decide)) (ly_k hY 147 (by decide)) (show _ = 400 from ly_l hY 147 (by decide)) (by omega) (by omega) dX4_number_31 ?_
      rw [show (xst (xst M 146 3 k) 146 4 f) 147 k.toNat = (M 147 k.toNat) from ((xst_nq (by omega)).trans (xst_nq (by omega)))]
      have hbp := hM.2 (k).toNat (by omega)
      have hpp : ((((k).toNat) : Nat) : Int) = k := by omega
      rw [hpp] at hbp
      rw [hbp]
      skip
      refine x_bipush G (by decide) dX4_number_32 ?_
      refine x_bipush G (by decide) dX4_number_34 ?_
      refine x_callSp G [] [xI (bt k), xI 48, xI 57] hy_X6_isWithin ht_X6_isWithin ml_X4_113 rfl rfl (kX6_isWithin _ _ (bt k) 48 57) (by decide) (by decide) (Nat.le_of_ble_eq_true rfl) dX4_number_36 ?_
      refine x_if_eq G 80 (by decide) dX4_number_39 (fun c39 => ?_) (fun c39 => ?_)
      · skip
        have c39 := b2i_eq0.mp c39
        have hnd : ¬ dgt (bt k) := c39
        refine x_aload_n G 0 rfl rfl dX4_number_80 ?_
        refine x_get G (xI ((xst (xst M 146 3 k) 146 4 f) 146 3)) xf4_3 lk_X4_29 (ly_n hY 146 (by decide)) (ly_k hY 146 (by decide)) (Or.inl ⟨rfl, rfl⟩) dX4_number_81 ?_
        rw [show (xst (xst M 146 3 k) 146 4 f) 146 3 = k from ((xst_nq (by omega)).trans (xst_same ..))]
        refine x_iload_n G 3 rfl rfl dX4_number_84 ?_
        refine x_icmp_ne G 97 (by decide) dX4_number_85 (fun c85 => ?_) (fun c85 => ?_)
        · skip
          refine x_iload G 4 rfl dX4_number_97 ?_
          refine x_iload_n G 1 rfl rfl dX4_number_99 ?_
          refine x_iload_n G 2 rfl rfl dX4_number_100 ?_
          refine x_callSp G [] [xI v, xI lo, xI hi] hy_X6_isWithin ht_X6_isWithin ml_X4_113 rfl rfl (kX6_isWithin _ _ v lo hi) (by decide) (by decide) (Nat.le_of_ble_eq_true rfl) dX4_number_101 ?_
          refine x_if_ne G 113 (by decide) dX4_number_104 (fun c104 => ?_) (fun c104 => ?_)
          · skip
            have c104 := b2i_ne0.mp c104
            refine x_aload_n G 0 rfl rfl dX4_number_113 ?_
            refine x_get G (xI ((xst (xst M 146 3 k) 146 4 f) 146 4)) xf4_4 lk_X4_32 (ly_n hY 146 (by decide)) (ly_k hY 146 (by decide)) (Or.inl ⟨rfl, rfl⟩) dX4_number_114 ?_
            rw [show (xst (xst M 146 3 k) 146 4 f) 146 4 = f from (xst_same ..)]
            refine x_iconst G (by decide) dX4_number_117 ?_
            refine x_icmp_ne G 126 (by decide) dX4_number_118 (fun c118 => ?_) (fun c118 => ?_)
            · skip
              refine x_iload_n G 1 rfl rfl dX4_number_126 ?_
              exact x_iret G Rt dX4_number_127 ⟨rfl, rfl, _, rfl, (by
          have hrun : Run (fun j => dgt (bt j)) (skp bt a) k := ⟨by omega, hd, hnd⟩
          have hp := pnum_at (lo := lo) (hi := hi) hrun
          rw [if_neg (by omega), if_pos (by (split at hv <;> omega))] at hp
          exact num_fin (by omega) (by rw [if_neg (by omega)]) (fun g => by omega) (fun _ => rfl))⟩
            · skip
              refine x_iload G 4 rfl dX4_number_121 ?_
              refine x_goto G 127 (by decide) dX4_number_123 ?_
              exact x_iret G Rt dX4_number_127 ⟨rfl, rfl, _, rfl, (by
          have hrun : Run (fun j => dgt (bt j)) (skp bt a) k := ⟨by omega, hd, hnd⟩
          have hp := pnum_at (lo := lo) (hi := hi) hrun
          rw [if_neg (by omega), if_pos (by (split at hv <;> omega))] at hp
          exact num_fin (by omega) (by rw [if_pos (by omega), hp]; omega) (fun _ _ => by rw [hp]; exact ⟨by show v = dvl bt (skp bt a) (k - skp bt a).toNat; (split at hv <;> omega), rfl⟩) (fun g => absurd ⟨by omega, by rw [hp]⟩ g))⟩
          · skip
            have c104 := b2i_eq0.mp c104
            refine x_aload_n G 0 rfl rfl dX4_number_107 ?_
            refine x_iload_n G 3 rfl rfl dX4_number_108 ?_
            refine x_iconst G (by decide) dX4_number_109 ?_
            refine x_callVV G [] [xI (skp bt a), xI 2] rfl (by decide) (ly_n hY 146 (by decide)) (ly_k hY 146 (by decide)) hy_X4_meet hi_X4_meet hs_X4_meet ml_X4_41 rfl rfl (kX4_meet _ _ bt len k f (skp bt a) 2 hY hT (tm_tp hM) (tp_3 _ _ _) (tp_4 _ _ _) (by omega) (by omega) (by omega)) (by decide) (by decide) (Nat.le_of_ble_eq_true rfl) dX4_number_110 (fun M110 h110 => ?_)
            subst h110
            rw [tp_tp]
            obtain ⟨f110, hf110⟩ : ∃ p9 : Int, p9 = (if f = -1 then 8 * (skp bt a) + 2 else f) := ⟨_, rfl⟩
            rw [← hf110]
            have hg110 : (f = -1 ∧ f110 = 8 * (skp bt a) + 2) ∨ (¬ f = -1 ∧ f110 = f) := by (split at hf110 <;> omega)
            show xX Γ 0 0 n T 113 [(0, xR 146), (1, xI lo), (2, xI hi), (3, xI (skp bt a)), (4, xI v)] [] (xst (xst M 146 3 k) 146 4 f110)
            refine x_aload_n G 0 rfl rfl dX4_number_113 ?_
            refine x_get G (xI ((xst (xst M 146 3 k) 146 4 f110) 146 4)) xf4_4 lk_X4_32 (ly_n hY 146 (by decide)) (ly_k hY 146 (by decide)) (Or.inl ⟨rfl, rfl⟩) dX4_number_114 ?_
            rw [show (xst (xst M 146 3 k) 146 4 f110) 146 4 = f110 from (xst_same ..)]
            refine x_iconst G (by decide) dX4_number_117 ?_
            refine x_icmp_ne G 126 (by decide) dX4_number_118 (fun c118 => ?_) (fun c118 => ?_)
            · skip
              refine x_iload_n G 1 rfl rfl dX4_number_126 ?_
              exact x_iret G Rt dX4_number_127 ⟨rfl, rfl, _, rfl, (by
          have hrun : Run (fun j => dgt (bt j)) (skp bt a) k := ⟨by omega, hd, hnd⟩
          have hp := pnum_at (lo := lo) (hi := hi) hrun
          rw [if_neg (by omega), if_neg (by (split at hv <;> omega))] at hp
          exact num_fin (by omega) (by rw [hp]; exact hf110) (fun _ g => by rw [hp] at g; have g : 8 * skp bt a + 2 = -1 := g; omega) (fun _ => rfl))⟩
            · skip
              refine x_iload G 4 rfl dX4_number_121 ?_
              refine x_goto G 127 (by decide) dX4_number_123 ?_
              exact x_iret G Rt dX4_number_127 ⟨rfl, rfl, _, rfl, (by exfalso; split at hf110 <;> omega)⟩
        · skip
          refine x_aload_n G 0 rfl rfl dX4_number_88 ?_
          refine x_iload_n G 3 rfl rfl dX4_number_89 ?_
          refine x_iconst G (by decide) dX4_number_90 ?_
          refine x_callVV G [] [xI (skp bt a), xI 1] rfl (by decide) (ly_n hY 146 (by decide)) (ly_k hY 146 (by decide)) hy_X4_meet hi_X4_meet hs_X4_meet ml_X4_41 rfl rfl (kX4_meet _ _ bt len k f (skp bt a) 1 hY hT (tm_tp hM) (tp_3 _ _ _) (tp_4 _ _ _) (by omega) (by omega) (by omega)) (by decide) (by decide) (Nat.le_of_ble_eq_true rfl) dX4_number_91 (fun M91 h91 => ?_)
          subst h91
          rw [tp_tp]
          obtain ⟨f91, hf91⟩ : ∃ p9 : Int, p9 = (if f = -1 then 8 * (skp bt a) + 1 else f) := ⟨_, rfl⟩
          rw [← hf91]
          have hg91 : (f = -1 ∧ f91 = 8 * (skp bt a) + 1) ∨ (¬ f = -1 ∧ f91 = f) := by (split at hf91 <;> omega)
          show xX Γ 0 0 n T 94 [(0, xR 146), (1, xI lo), (2, xI hi), (3, xI (skp bt a)), (4, xI v)] [] (xst (xst M 146 3 k) 146 4 f91)
          refine x_goto G 113 (by decide) dX4_number_94 ?_
          refine x_aload_n G 0 rfl rfl dX4_number_113 ?_
          refine x_get G (xI ((xst (xst M 146 3 k) 146 4 f91) 146 4)) xf4_4 lk_X4_32 (ly_n hY 146 (by decide)) (ly_k hY 146 (by decide)) (Or.inl ⟨rfl, rfl⟩) dX4_number_114 ?_
          rw [show (xst (xst M 146 3 k) 146 4 f91) 146 4 = f91 from (xst_same ..)]
          refine x_iconst G (by decide) dX4_number_117 ?_
          refine x_icmp_ne G 126 (by decide) dX4_number_118 (fun c118 => ?_) (fun c118 => ?_)
          · skip
            refine x_iload_n G 1 rfl rfl dX4_number_126 ?_
            exact x_iret G Rt dX4_number_127 ⟨rfl, rfl, _, rfl, (by
          have hrun : Run (fun j => dgt (bt j)) (skp bt a) k := ⟨by omega, hd, hnd⟩
          have hp := pnum_at (lo := lo) (hi := hi) hrun
          rw [if_pos (by omega)] at hp
          exact num_fin (by omega) (by rw [hp]; exact hf91) (fun _ g => by rw [hp] at g; have g : 8 * skp bt a + 1 = -1 := g; omega) (fun _ => rfl))⟩
          · skip
            refine x_iload G 4 rfl dX4_number_121 ?_
            refine x_goto G 127 (by decide) dX4_number_123 ?_
            exact x_iret G Rt dX4_number_127 ⟨rfl, rfl, _, rfl, (by exfalso; split at hf91 <;> omega)⟩
      · skip
        have c39 := b2i_ne0.mp c39
        refine x_bipush G (by decide) dX4_number_42 ?_
        refine x_iload G 4 rfl dX4_number_44 ?_
        refine x_imul G (by omega) dX4_number_46 ?_
        refine x_aload_n G 0 rfl rfl dX4_number_47 ?_
        refine x_get G (xR 147) xf4_0 lk_X4_9 (ly_n hY 146 (by decide)) (ly_k hY 146 (by decide)) (Or.inr ⟨rfl, _, (ly_r hY 146 0 (by decide) (by decide)), rfl⟩) dX4_number_48 ?_
        refine x_aload_n G 0 rfl rfl dX4_number_51 ?_
        refine x_get G (xI ((xst (xst M 146 3 k) 146 4 f) 146 3)) xf4_3 lk_X4_29 (ly_n hY 146 (by decide)) (ly_k hY 146 (by decide)) (Or.inl ⟨rfl, rfl⟩) dX4_number_52 ?_
        rw [show (xst (xst M 146 3 k) 146 4 f) 146 3 = k from ((xst_nq (by omega)).trans (xst_same ..))]
        refine x_iald G (ly_n hY 147 (by decide)) (ly_k hY 147 (by decide)) (show _ = 400 from ly_l hY 147 (by decide)) (by omega) (by omega) dX4_number_55 ?_
        rw [show (xst (xst M 146 3 k) 146 4 f) 147 k.toNat = (M 147 k.toNat) from ((xst_nq (by omega)).trans (xst_nq (by omega)))]
        have hbp := hM.2 (k).toNat (by omega)
        have hpp : ((((k).toNat) : Nat) : Int) = k := by omega
        rw [hpp] at hbp
        rw [hbp]
        skip
        refine x_iadd G (by omega) dX4_number_56 ?_
        refine x_bipush G (by decide) dX4_number_57 ?_
        refine x_isub G (by omega) dX4_number_59 ?_
        refine x_ldc G (z := 100000) (by decide) kc_X4_117 dX4_number_60 ?_
        refine x_min G ml_X4_118 stat_min ini_Math code_min (by decide) (by decide) (Nat.le_of_ble_eq_true rfl) dX4_number_62 ?_
        refine x_istore G [(4, xI (if 100000 < (((10 * v) + (bt k)) - 48) then 100000 else (((10 * v) + (bt k)) - 48))), (0, xR 146), (1, xI lo), (2, xI hi), (3, xI (skp bt a))] (by decide) rfl dX4_number_65 ?_
        refine x_aload_n G 1 rfl rfl dX4_number_67 ?_
        refine x_dup G rfl dX4_number_68 ?_
        refine x_get G (xI ((xst (xst M 146 3 k) 146 4 f) 146 3)) xf4_3 lk_X4_29 (ly_n hY 146 (by decide)) (ly_k hY 146 (by decide)) (Or.inl ⟨rfl, rfl⟩) dX4_number_69 ?_
        rw [show (xst (xst M 146 3 k) 146 4 f) 146 3 = k from ((xst_nq (by omega)).trans (xst_same ..))]
        refine x_iconst G (by decide) dX4_number_72 ?_
        refine x_iadd G (by omega) dX4_number_73 ?_
        refine x_put G  xf4_3 lk_X4_29 (ly_n hY 146 (by decide)) (ly_k hY 146 (by decide)) rfl dX4_number_74 ?_
        rw [tp_a]
        show xX Γ 0 0 n T 77 [(4, xI (if 100000 < (((10 * v) + (bt k)) - 48) then 100000 else (((10 * v) + (bt k)) - 48))), (0, xR 146), (1, xI lo), (2, xI hi), (3, xI (skp bt a))] [] (xst (xst M 146 3 (k + 1)) 146 4 f)
        refine x_goto G 12 (by decide) dX4_number_77 ?_
        refine x_sub [(0, xR 146), (1, xI lo), (2, xI hi), (3, xI (skp bt a)), (4, xI (if 100000 < (((10 * v) + (bt k)) - 48) then 100000 else (((10 * v) + (bt k)) - 48)))] [1, 2, 3, 4, 0] rfl ?_
        exact ih12 _ (by omega) (k + 1) (if 100000 < (((10 * v) + (bt k)) - 48) then 100000 else (((10 * v) + (bt k)) - 48)) rfl (by omega) (by intro j h1 h2; rcases Int.lt_or_le j k with g | g; exact hd j h1 g; rw [show j = k by omega]; exact c39) (by rw [dvl_s hk.1]; (split at hv <;> split <;> split <;> omega))
  refine x_sub [(0, xR 146), (1, xI lo), (2, xI hi), (3, xI (skp bt a)), (4, xI 0)] [2, 3, 4, 1, 0] rfl ?_
  exact loop12 _ (skp bt a) 0 rfl (by omega) (by intro j h1 h2; omega) (by rw [show (skp bt a - skp bt a).toNat = 0 by omega]; rfl)
theorem num_sum {a2 f f2 z len lo hi : Int} {R : Int × Int × Int} (hF : f2 = if f = -1 then R.1 else f) (h1 : f = -1 → R.1 = -1 → z = R.2.1 ∧ a2 = R.2.2) (h2 : ¬ (f = -1 ∧ R.1 = -1) → z = lo) (hb : (R.1 = -1 ∧ (lo ≤ R.2.1 ∧ R.2.1 ≤ hi) ∧ 0 ≤ R.2.2 ∧ R.2.2 ≤ len) ∨ (1 ≤ R.1 ∧ R.1 ≤ 4000)) : (f2 = -1 ∧ f = -1 ∧ R.1 = -1 ∧ z = R.2.1 ∧ a2 = R.2.2 ∧ (lo ≤ z ∧ z ≤ hi)) ∨ (¬ f2 = -1 ∧ ((f = -1 ∧ f2 = R.1) ∨ (¬ f = -1 ∧ f2 = f)) ∧ z = lo) := by
  by_cases g : f = -1
  · rw [if_pos g] at hF
    by_cases g2 : R.1 = -1
    · obtain ⟨e1, e2⟩ := h1 g g2
      exact Or.inl ⟨by omega, g, g2, e1, e2, by omega⟩
    · exact Or.inr ⟨by omega, Or.inl ⟨g, hF⟩, h2 (fun h => g2 h.2)⟩
  · rw [if_neg g] at hF
    exact Or.inr ⟨by omega, Or.inr ⟨g, hF⟩, h2 (fun h => g h.1)⟩
theorem lab_sum {a2 f f2 z len lo hi : Int} {R : Int × Int × Int} (hF : f2 = if f = -1 then R.1 else f) (h1 : f = -1 → R.1 = -1 → z = R.2.1 ∧ a2 = R.2.2) (h2 : lo ≤ z ∧ z ≤ hi) (hb : (R.1 = -1 ∧ (lo ≤ R.2.1 ∧ R.2.1 ≤ hi) ∧ 0 ≤ R.2.2 ∧ R.2.2 ≤ len) ∨ (1 ≤ R.1 ∧ R.1 ≤ 4000)) : (f2 = -1 ∧ f = -1 ∧ R.1 = -1 ∧ z = R.2.1 ∧ a2 = R.2.2 ∧ (lo ≤ z ∧ z ≤ hi)) ∨ (¬ f2 = -1 ∧ ((f = -1 ∧ f2 = R.1) ∨ (¬ f = -1 ∧ f2 = f)) ∧ (lo ≤ z ∧ z ≤ hi)) := by
  by_cases g : f = -1
  · rw [if_pos g] at hF
    by_cases g2 : R.1 = -1
    · obtain ⟨e1, e2⟩ := h1 g g2
      exact Or.inl ⟨by omega, g, g2, e1, e2, by omega⟩
    · exact Or.inr ⟨by omega, Or.inl ⟨g, hF⟩, h2⟩
  · rw [if_neg g] at hF
    exact Or.inr ⟨by omega, Or.inr ⟨g, hF⟩, h2⟩
set_option maxRecDepth 100000 in
set_option maxHeartbeats 4000000 in
theorem kX4_label (D : xD) (l : Launch) {n : Nat} {T : xT} {M : xM} (bt : Int → Int) (len : Int) (a f : Int) (hY : LayOK n T) (hT : TB bt len) (hM : TM M bt len) (h3 : M 146 3 = a) (h4 : M 146 4 = f) (ha : 0 ≤ a ∧ a ≤ len) : xC D l uX4_label 2 43 0 0 [xR 146] n T M (xPI n T (fun z M2 => ∃ a2, (0 ≤ a2 ∧ a2 ≤ len) ∧ M2 = tpM M a2 (if f = -1 then (plab bt a).1 else f) ∧ (f = -1 → (plab bt a).1 = -1 → z = (plab bt a).2.1 ∧ a2 = (plab bt a).2.2) ∧ (0 ≤ z ∧ z ≤ 25))) := by
  refine x_met uX4_label (by decide) (Nat.le_of_ble_eq_true rfl) ?_
  intro Γ G Rt _
  have G : xG Γ RX4 cX4_label 2 2 43 0 0 := G
  have Rt : xRt Γ (xPI n T (fun z M2 => ∃ a2, (0 ≤ a2 ∧ a2 ≤ len) ∧ M2 = tpM M a2 (if f = -1 then (plab bt a).1 else f) ∧ (f = -1 → (plab bt a).1 = -1 → z = (plab bt a).2.1 ∧ a2 = (plab bt a).2.2) ∧ (0 ≤ z ∧ z ≤ 25))) (some .int) 0 0 := Rt
  show xX Γ 0 0 n T 0 [(0, xR 146)] [] M
  have hL := hT.1
  have hMl := hM.1
  rw [← tp_id h3 h4]
  show xX Γ 0 0 n T 0 [(0, xR 146)] [] (xst (xst M 146 3 a) 146 4 f)
  refine x_aload_n G 0 rfl rfl dX4_label_0 ?_
  refine x_callVV G [] [] rfl (by decide) (ly_n hY 146 (by decide)) (ly_k hY 146 (by decide)) hy_X4_skipBlanks hi_X4_skipBlanks hs_X4_skipBlanks ml_X4_38 rfl rfl (kX4_skipBlanks _ _ bt len a f hY hT (tm_tp hM) (tp_3 _ _ _) (tp_4 _ _ _) (by omega)) (by decide) (by decide) (Nat.le_of_ble_eq_true rfl) dX4_label_1 (fun M1 h1 => ?_)
  subst h1
  rw [tp_tp]
  have hsk1 := skp_b hT (show a ≤ len by omega)
  show xX Γ 0 0 n T 4 [(0, xR 146)] [] (xst (xst M 146 3 (skp bt a)) 146 4 f)
  refine x_aload_n G 0 rfl rfl dX4_label_4 ?_
  refine x_aload_n G 0 rfl rfl dX4_label_5 ?_
  refine x_get G (xI ((xst (xst M 146 3 (skp bt a)) 146 4 f) 146 3)) xf4_3 lk_X4_29 (ly_n hY 146 (by decide)) (ly_k hY 146 (by decide)) (Or.inl ⟨rfl, rfl⟩) dX4_label_6 ?_
  rw [show (xst (xst M 146 3 (skp bt a)) 146 4 f) 146 3 = (skp bt a) from ((xst_nq (by omega)).trans (xst_same ..))]
  refine x_callVp G [] [xI (skp bt a)] rfl (by decide) (ly_n hY 146 (by decide)) (ly_k hY 146 (by decide)) hy_X4_isLetter hi_X4_isLetter hs_X4_isLetter ml_X4_123 rfl rfl (kX4_isLetter _ _ bt len (skp bt a) hY hT (tm_tp hM) (by omega)) (by decide) (by decide) (Nat.le_of_ble_eq_true rfl) dX4_label_9 ?_
  refine x_if_eq G 28 (by decide) dX4_label_12 (fun c12 => ?_) (fun c12 => ?_)
  · skip
    have c12 := b2i_eq0.mp c12
    refine x_aload_n G 0 rfl rfl dX4_label_28 ?_
    refine x_aload_n G 0 rfl rfl dX4_label_29 ?_
    refine x_get G (xI ((xst (xst M 146 3 (skp bt a)) 146 4 f) 146 3)) xf4_3 lk_X4_29 (ly_n hY 146 (by decide)) (ly_k hY 146 (by decide)) (Or.inl ⟨rfl, rfl⟩) dX4_label_30 ?_
    rw [show (xst (xst M 146 3 (skp bt a)) 146 4 f) 146 3 = (skp bt a) from ((xst_nq (by omega)).trans (xst_same ..))]
    refine x_iconst G (by decide) dX4_label_33 ?_
    refine x_callVV G [] [xI (skp bt a), xI 1] rfl (by decide) (ly_n hY 146 (by decide)) (ly_k hY 146 (by decide)) hy_X4_meet hi_X4_meet hs_X4_meet ml_X4_41 rfl rfl (kX4_meet _ _ bt len (skp bt a) f (skp bt a) 1 hY hT (tm_tp hM) (tp_3 _ _ _) (tp_4 _ _ _) (by omega) (by omega) (by omega)) (by decide) (by decide) (Nat.le_of_ble_eq_true rfl) dX4_label_34 (fun M34 h34 => ?_)
    subst h34
    rw [tp_tp]
    obtain ⟨f34, hf34⟩ : ∃ p9 : Int, p9 = (if f = -1 then 8 * (skp bt a) + 1 else f) := ⟨_, rfl⟩
    rw [← hf34]
    have hg34 : (f = -1 ∧ f34 = 8 * (skp bt a) + 1) ∨ (¬ f = -1 ∧ f34 = f) := by (split at hf34 <;> omega)
    show xX Γ 0 0 n T 37 [(0, xR 146)] [] (xst (xst M 146 3 (skp bt a)) 146 4 f34)
    refine x_iconst G (by decide) dX4_label_37 ?_
    exact x_iret G Rt dX4_label_38 ⟨rfl, rfl, _, rfl, (by
          have hp : plab bt a = (8 * skp bt a + 1, 0, 0) := if_neg (by first | (intro h; exact c12 h.1) | (intro h; exact h.2 c25))
          refine ⟨skp bt a, by omega, by rw [hf34, hp], fun _ g => ?_, by omega⟩
          rw [hp] at g
          have g : 8 * skp bt a + 1 = -1 := g
          omega)⟩
  · skip
    have c12 := b2i_ne0.mp c12
    refine x_aload_n G 0 rfl rfl dX4_label_15 ?_
    refine x_aload_n G 0 rfl rfl dX4_label_16 ?_
    refine x_get G (xI ((xst (xst M 146 3 (skp bt a)) 146 4 f) 146 3)) xf4_3 lk_X4_29 (ly_n hY 146 (by decide)) (ly_k hY 146 (by decide)) (Or.inl ⟨rfl, rfl⟩) dX4_label_17 ?_
    rw [show (xst (xst M 146 3 (skp bt a)) 146 4 f) 146 3 = (skp bt a) from ((xst_nq (by omega)).trans (xst_same ..))]
    refine x_iconst G (by decide) dX4_label_20 ?_
    refine x_iadd G (by omega) dX4_label_21 ?_
    refine x_callVp G [] [xI ((skp bt a) + 1)] rfl (by decide) (ly_n hY 146 (by decide)) (ly_k hY 146 (by decide)) hy_X4_isLetter hi_X4_isLetter hs_X4_isLetter ml_X4_123 rfl rfl (kX4_isLetter _ _ bt len ((skp bt a) + 1) hY hT (tm_tp hM) (by omega)) (by decide) (by decide) (Nat.le_of_ble_eq_true rfl) dX4_label_22 ?_
    refine x_if_eq G 39 (by decide) dX4_label_25 (fun c25 => ?_) (fun c25 => ?_)
    · skip
      have c25 := b2i_eq0.mp c25
      have hsl : skp bt a < len := by (rcases Int.lt_or_le (skp bt a) len with g | g; exact g; have := hT.2.2 _ g; omega)
      refine x_aload_n G 0 rfl rfl dX4_label_39 ?_
      refine x_get G (xR 147) xf4_0 lk_X4_9 (ly_n hY 146 (by decide)) (ly_k hY 146 (by decide)) (Or.inr ⟨rfl, _, (ly_r hY 146 0 (by decide) (by decide)), rfl⟩) dX4_label_40 ?_
      refine x_aload_n G 0 rfl rfl dX4_label_43 ?_
      refine x_get G (xI ((xst (xst M 146 3 (skp bt a)) 146 4 f) 146 3)) xf4_3 lk_X4_29 (ly_n hY 146 (by decide)) (ly_k hY 146 (by decide)) (Or.inl ⟨rfl, rfl⟩) dX4_label_44 ?_
      rw [show (xst (xst M 146 3 (skp bt a)) 146 4 f) 146 3 = (skp bt a) from ((xst_nq (by omega)).trans (xst_same ..))]
      refine x_iald G (ly_n hY 147 (by decide)) (ly_k hY 147 (by decide)) (show _ = 400 from ly_l hY 147 (by decide)) (by omega) (by omega) dX4_label_47 ?_
      rw [show (xst (xst M 146 3 (skp bt a)) 146 4 f) 147 (skp bt a).toNat = (M 147 (skp bt a).toNat) from ((xst_nq (by omega)).trans (xst_nq (by omega)))]
      have hbp := hM.2 (skp bt a).toNat (by omega)
      have hpp : ((((skp bt a).toNat) : Nat) : Int) = skp bt a := by omega
      rw [hpp] at hbp
      rw [hbp]
      skip
      refine x_bipush G (by decide) dX4_label_48 ?_
      refine x_isub G (by omega) dX4_label_50 ?_
      refine x_istore_n G [(1, xI ((bt (skp bt a)) - 97)), (0, xR 146)] rfl (by decide) rfl dX4_label_51 ?_
      refine x_aload_n G 1 rfl rfl dX4_label_52 ?_
      refine x_dup G rfl dX4_label_53 ?_
      refine x_get G (xI ((xst (xst M 146 3 (skp bt a)) 146 4 f) 146 3)) xf4_3 lk_X4_29 (ly_n hY 146 (by decide)) (ly_k hY 146 (by decide)) (Or.inl ⟨rfl, rfl⟩) dX4_label_54 ?_
      rw [show (xst (xst M 146 3 (skp bt a)) 146 4 f) 146 3 = (skp bt a) from ((xst_nq (by omega)).trans (xst_same ..))]
      refine x_iconst G (by decide) dX4_label_57 ?_
      refine x_iadd G (by omega) dX4_label_58 ?_
      refine x_put G  xf4_3 lk_X4_29 (ly_n hY 146 (by decide)) (ly_k hY 146 (by decide)) rfl dX4_label_59 ?_
      rw [tp_a]
      show xX Γ 0 0 n T 62 [(1, xI ((bt (skp bt a)) - 97)), (0, xR 146)] [] (xst (xst M 146 3 ((skp bt a) + 1)) 146 4 f)
      refine x_iload_n G 0 rfl rfl dX4_label_62 ?_
      exact x_iret G Rt dX4_label_63 ⟨rfl, rfl, _, rfl, (by
          have hp : plab bt a = (-1, bt (skp bt a) - 97, skp bt a + 1) := if_pos ⟨c12, c25⟩
          exact ⟨skp bt a + 1, by omega, by rw [hp]; congr 1; split <;> omega, fun _ _ => by rw [hp]; exact ⟨rfl, rfl⟩, by omega⟩)⟩
    · skip
      have c25 := b2i_ne0.mp c25
      refine x_aload_n G 0 rfl rfl dX4_label_28 ?_
      refine x_aload_n G 0 rfl rfl dX4_label_29 ?_
      refine x_get G (xI ((xst (xst M 146 3 (skp bt a)) 146 4 f) 146 3)) xf4_3 lk_X4_29 (ly_n hY 146 (by decide)) (ly_k hY 146 (by decide)) (Or.inl ⟨rfl, rfl⟩) dX4_label_30 ?_
      rw [show (xst (xst M 146 3 (skp bt a)) 146 4 f) 146 3 = (skp bt a) from ((xst_nq (by omega)).trans (xst_same ..))]
      refine x_iconst G (by decide) dX4_label_33 ?_
      refine x_callVV G [] [xI (skp bt a), xI 1] rfl (by decide) (ly_n hY 146 (by decide)) (ly_k hY 146 (by decide)) hy_X4_meet hi_X4_meet hs_X4_meet ml_X4_41 rfl rfl (kX4_meet _ _ bt len (skp bt a) f (skp bt a) 1 hY hT (tm_tp hM) (tp_3 _ _ _) (tp_4 _ _ _) (by omega) (by omega) (by omega)) (by decide) (by decide) (Nat.le_of_ble_eq_true rfl) dX4_label_34 (fun M34 h34 => ?_)
      subst h34
      rw [tp_tp]
      obtain ⟨f34, hf34⟩ : ∃ p9 : Int, p9 = (if f = -1 then 8 * (skp bt a) + 1 else f) := ⟨_, rfl⟩
      rw [← hf34]
      have hg34 : (f = -1 ∧ f34 = 8 * (skp bt a) + 1) ∨ (¬ f = -1 ∧ f34 = f) := by (split at hf34 <;> omega)
      show xX Γ 0 0 n T 37 [(0, xR 146)] [] (xst (xst M 146 3 (skp bt a)) 146 4 f34)
      refine x_iconst G (by decide) dX4_label_37 ?_
      exact x_iret G Rt dX4_label_38 ⟨rfl, rfl, _, rfl, (by
          have hp : plab bt a = (8 * skp bt a + 1, 0, 0) := if_neg (by first | (intro h; exact c12 h.1) | (intro h; exact h.2 c25))
          refine ⟨skp bt a, by omega, by rw [hf34, hp], fun _ g => ?_, by omega⟩
          rw [hp] at g
          have g : 8 * skp bt a + 1 = -1 := g
          omega)⟩
set_option maxRecDepth 100000 in
set_option maxHeartbeats 4000000 in
theorem kX4_takes (D : xD) (l : Launch) {n : Nat} {T : xT} {M : xM} (bt : Int → Int) (len : Int) (a f : Int) (si : Nat) (bs : List Int) (hY : LayOK n T) (hT : TB bt len) (hM : TM M bt len) (h3 : M 146 3 = a) (h4 : M 146 4 = f) (ha : 0 ≤ a ∧ a ≤ len) (hi : strI si bs) : xC D l uX4_takes 4 85 0 0 [xR 146, xR (1000000 + si)] n T M (xPI n T (fun z M2 => (z = 1 ∧ f = -1 ∧ tkw bt (skp bt a) bs ∧ skp bt a + bs.length ≤ len ∧ M2 = tpM M (skp bt a + bs.length) f) ∨ (z = 0 ∧ (f = -1 → ¬ tkw bt (skp bt a) bs) ∧ M2 = tpM M (skp bt a) f))) := by
  refine x_met uX4_takes (by decide) (Nat.le_of_ble_eq_true rfl) ?_
  intro Γ G Rt _
  have G : xG Γ RX4 cX4_takes 4 4 85 0 0 := G
  have Rt : xRt Γ (xPI n T (fun z M2 => (z = 1 ∧ f = -1 ∧ tkw bt (skp bt a) bs ∧ skp bt a + bs.length ≤ len ∧ M2 = tpM M (skp bt a + bs.length) f) ∨ (z = 0 ∧ (f = -1 → ¬ tkw bt (skp bt a) bs) ∧ M2 = tpM M (skp bt a) f))) (some .boolean) 0 0 := Rt
  show xX Γ 0 0 n T 0 [(0, xR 146), (1, xR (1000000 + si))] [] M
  have hL := hT.1
  have hMl := hM.1
  have hsb := str_b hi
  rw [← tp_id h3 h4]
  show xX Γ 0 0 n T 0 [(0, xR 146), (1, xR (1000000 + si))] [] (xst (xst M 146 3 a) 146 4 f)
  refine x_aload_n G 0 rfl rfl dX4_takes_0 ?_
  refine x_callVV G [] [] rfl (by decide) (ly_n hY 146 (by decide)) (ly_k hY 146 (by decide)) hy_X4_skipBlanks hi_X4_skipBlanks hs_X4_skipBlanks ml_X4_38 rfl rfl (kX4_skipBlanks _ _ bt len a f hY hT (tm_tp hM) (tp_3 _ _ _) (tp_4 _ _ _) (by omega)) (by decide) (by decide) (Nat.le_of_ble_eq_true rfl) dX4_takes_1 (fun M1 h1 => ?_)
  subst h1
  rw [tp_tp]
  have hsk1 := skp_b hT (show a ≤ len by omega)
  show xX Γ 0 0 n T 4 [(0, xR 146), (1, xR (1000000 + si))] [] (xst (xst M 146 3 (skp bt a)) 146 4 f)
  refine x_aload_n G 0 rfl rfl dX4_takes_4 ?_
  refine x_get G (xI ((xst (xst M 146 3 (skp bt a)) 146 4 f) 146 3)) xf4_3 lk_X4_29 (ly_n hY 146 (by decide)) (ly_k hY 146 (by decide)) (Or.inl ⟨rfl, rfl⟩) dX4_takes_5 ?_
  rw [show (xst (xst M 146 3 (skp bt a)) 146 4 f) 146 3 = (skp bt a) from ((xst_nq (by omega)).trans (xst_same ..))]
  refine x_aload_n G 1 rfl rfl dX4_takes_8 ?_
  refine x_callStr G [xI (skp bt a)] [] hi rfl hy_J0_length_8abf5 hi_J0_length_8abf5 hs_J0_length_8abf5 ml_X4_127 rfl rfl (kJ0_length_8abf5 _ _ si bs hi) (by decide) (by decide) (Nat.le_of_ble_eq_true rfl) dX4_takes_9 ?_
  refine x_iadd G (by omega) dX4_takes_12 ?_
  refine x_istore_n G [(2, xI ((skp bt a) + (bs.length : Int))), (0, xR 146), (1, xR (1000000 + si))] rfl (by decide) rfl dX4_takes_13 ?_
  refine x_aload_n G 1 rfl rfl dX4_takes_14 ?_
  refine x_get G (xI ((xst (xst M 146 3 (skp bt a)) 146 4 f) 146 4)) xf4_4 lk_X4_32 (ly_n hY 146 (by decide)) (ly_k hY 146 (by decide)) (Or.inl ⟨rfl, rfl⟩) dX4_takes_15 ?_
  rw [show (xst (xst M 146 3 (skp bt a)) 146 4 f) 146 4 = f from (xst_same ..)]
  refine x_iconst G (by decide) dX4_takes_18 ?_
  refine x_icmp_ne G 38 (by decide) dX4_takes_19 (fun c19 => ?_) (fun c19 => ?_)
  · skip
    refine x_iconst G (by decide) dX4_takes_38 ?_
    exact x_zret G (by omega) Rt dX4_takes_39 ⟨rfl, rfl, _, rfl, Or.inr ⟨rfl, fun g h => by first | omega | (have := tkw_b hT (fun j hj => (hsb.2 j hj).1) (show skp bt a ≤ len by omega) h; omega) | exact h.2 c35, rfl⟩⟩
  · skip
    refine x_iload_n G 0 rfl rfl dX4_takes_22 ?_
    refine x_aload_n G 1 rfl rfl dX4_takes_23 ?_
    refine x_get G (xI ((xst (xst M 146 3 (skp bt a)) 146 4 f) 146 2)) xf4_2 lk_X4_22 (ly_n hY 146 (by decide)) (ly_k hY 146 (by decide)) (Or.inl ⟨rfl, rfl⟩) dX4_takes_24 ?_
    rw [show (xst (xst M 146 3 (skp bt a)) 146 4 f) 146 2 = (M 146 2) from ((xst_nq (by omega)).trans (xst_nq (by omega)))]
    refine x_icmp_gt G 38 (by decide) dX4_takes_27 (fun c27 => ?_) (fun c27 => ?_)
    · skip
      refine x_iconst G (by decide) dX4_takes_38 ?_
      exact x_zret G (by omega) Rt dX4_takes_39 ⟨rfl, rfl, _, rfl, Or.inr ⟨rfl, fun g h => by first | omega | (have := tkw_b hT (fun j hj => (hsb.2 j hj).1) (show skp bt a ≤ len by omega) h; omega) | exact h.2 c35, rfl⟩⟩
    · skip
      refine x_aload_n G 1 rfl rfl dX4_takes_30 ?_
      refine x_iload_n G 0 rfl rfl dX4_takes_31 ?_
      refine x_callVp G [] [xI ((skp bt a) + (bs.length : Int))] rfl (by decide) (ly_n hY 146 (by decide)) (ly_k hY 146 (by decide)) hy_X4_isLetter hi_X4_isLetter hs_X4_isLetter ml_X4_123 rfl rfl (kX4_isLetter _ _ bt len ((skp bt a) + (bs.length : Int)) hY hT (tm_tp hM) (by omega)) (by decide) (by decide) (Nat.le_of_ble_eq_true rfl) dX4_takes_32 ?_
      refine x_if_eq G 40 (by decide) dX4_takes_35 (fun c35 => ?_) (fun c35 => ?_)
      · skip
        have c35 := b2i_eq0.mp c35
        refine x_iconst G (by decide) dX4_takes_40 ?_
        refine x_istore_n G [(3, xI 0), (2, xI ((skp bt a) + (bs.length : Int))), (0, xR 146), (1, xR (1000000 + si))] rfl (by decide) rfl dX4_takes_41 ?_
        have loop42 : ∀ (d : Nat) (k : Int), (bs.length - k).toNat = d → (0 ≤ k ∧ k ≤ bs.length) → (∀ j : Nat, (j : Int) < k → bt (skp bt a + (j : Nat)) = bs.getD j 0) → xX Γ 0 0 n T 42 [(0, xR 146), (1, xR (1000000 + si)), (2, xI ((skp bt a) + (bs.length : Int))), (3, xI k)] [] (xst (xst M 146 3 (skp bt a)) 146 4 f) := by
          intro d
          induction d using Nat.strongRecOn with
          | ind d ih42 =>
          intro k hd42 hk hm
          refine x_iload_n G 3 rfl rfl dX4_takes_42 ?_
          refine x_aload_n G 1 rfl rfl dX4_takes_43 ?_
          refine x_callStr G [xI k] [] hi rfl hy_J0_length_8abf5 hi_J0_length_8abf5 hs_J0_length_8abf5 ml_X4_127 rfl rfl (kJ0_length_8abf5 _ _ si bs hi) (by decide) (by decide) (Nat.le_of_ble_eq_true rfl) dX4_takes_44 ?_
          refine x_icmp_ge G 77 (by decide) dX4_takes_47 (fun c47 => ?_) (fun c47 => ?_)
          · skip
            refine x_aload_n G 0 rfl rfl dX4_takes_77 ?_
            refine x_iload_n G 2 rfl rfl dX4_takes_78 ?_
            refine x_put G  xf4_3 lk_X4_29 (ly_n hY 146 (by decide)) (ly_k hY 146 (by decide)) rfl dX4_takes_79 ?_
            rw [tp_a]
            show xX Γ 0 0 n T 82 [(0, xR 146), (1, xR (1000000 + si)), (2, xI ((skp bt a) + (bs.length : Int))), (3, xI k)] [] (xst (xst M 146 3 ((skp bt a) + (bs.length : Int))) 146 4 f)
            refine x_iconst G (by decide) dX4_takes_82 ?_
            exact x_zret G (by omega) Rt dX4_takes_83 ⟨rfl, rfl, _, rfl, Or.inl ⟨rfl, by omega, ⟨fun j hj => hm j (by omega), c35⟩, by omega, rfl⟩⟩
          · skip
            refine x_aload_n G 0 rfl rfl dX4_takes_50 ?_
            refine x_get G (xR 147) xf4_0 lk_X4_9 (ly_n hY 146 (by decide)) (ly_k hY 146 (by decide)) (Or.inr ⟨rfl, _, (ly_r hY 146 0 (by decide) (by decide)), rfl⟩) dX4_takes_51 ?_
            refine x_aload_n G 0 rfl rfl dX4_takes_54 ?_
            refine x_get G (xI ((xst (xst M 146 3 (skp bt a)) 146 4 f) 146 3)) xf4_3 lk_X4_29 (ly_n hY 146 (by decide)) (ly_k hY 146 (by decide)) (Or.inl ⟨rfl, rfl⟩) dX4_takes_55 ?_
            rw [show (xst (xst M 146 3 (skp bt a)) 146 4 f) 146 3 = (skp bt a) from ((xst_nq (by omega)).trans (xst_same ..))]
            refine x_iload_n G 3 rfl rfl dX4_takes_58 ?_
            refine x_iadd G (by omega) dX4_takes_59 ?_
            refine x_iald G (ly_n hY 147 (by decide)) (ly_k hY 147 (by decide)) (show _ = 400 from ly_l hY 147 (by decide)) (by omega) (by omega) dX4_takes_60 ?_
            rw [show (xst (xst M 146 3 (skp bt a)) 146 4 f) 147 ((skp bt a) + k).toNat = (M 147 ((skp bt a) + k).toNat) from ((xst_nq (by omega)).trans (xst_nq (by omega)))]
            have hbp := hM.2 (skp bt a + k).toNat (by omega)
            have hpp : ((((skp bt a + k).toNat) : Nat) : Int) = skp bt a + k := by omega
            rw [hpp] at hbp
            rw [hbp]
            skip
            refine x_aload_n G 1 rfl rfl dX4_takes_61 ?_
            refine x_iload_n G 3 rfl rfl dX4_takes_62 ?_
            refine x_callStr G [xI (bt (skp bt a + k))] [xI k] hi rfl hy_J0_charAt_5068e hi_J0_charAt_5068e hs_J0_charAt_5068e ml_X4_131 rfl rfl (kJ0_charAt_5068e _ _ si bs k hi (by omega) (by omega)) (by decide) (by decide) (Nat.le_of_ble_eq_true rfl) dX4_takes_63 ?_
            refine x_icmp_eq G 71 (by decide) dX4_takes_66 (fun c66 => ?_) (fun c66 => ?_)
            · skip
              refine x_iinc G [(3, xI (k + 1)), (0, xR 146), (1, xR (1000000 + si)), (2, xI ((skp bt a) + (bs.length : Int)))] 3 rfl (by decide) (by omega) rfl dX4_takes_71 ?_
              refine x_goto G 42 (by decide) dX4_takes_74 ?_
              refine x_sub [(0, xR 146), (1, xR (1000000 + si)), (2, xI ((skp bt a) + (bs.length : Int))), (3, xI (k + 1))] [1, 2, 3, 0] rfl ?_
              exact ih42 _ (by omega) (k + 1) rfl (by omega) (by intro j hj; rcases Int.lt_or_le j k with g | g; exact hm j g; rw [show j = k.toNat by omega, show skp bt a + ((k.toNat : Nat) : Int) = skp bt a + k by omega]; omega)
            · skip
              refine x_iconst G (by decide) dX4_takes_69 ?_
              exact x_zret G (by omega) Rt dX4_takes_70 ⟨rfl, rfl, _, rfl, Or.inr ⟨rfl, fun g h => by have e := h.1 k.toNat (by omega); rw [show skp bt a + ((k.toNat : Nat) : Int) = skp bt a + k by omega] at e; omega, rfl⟩⟩
        refine x_sub [(0, xR 146), (1, xR (1000000 + si)), (2, xI ((skp bt a) + (bs.length : Int))), (3, xI 0)] [2, 3, 1, 0] rfl ?_
        exact loop42 _ 0 rfl (by omega) (by intro j hj; omega)
      · skip
        have c35 := b2i_ne0.mp c35
        refine x_iconst G (by decide) dX4_takes_38 ?_
        exact x_zret G (by omega) Rt dX4_takes_39 ⟨rfl, rfl, _, rfl, Or.inr ⟨rfl, fun g h => by first | omega | (have := tkw_b hT (fun j hj => (hsb.2 j hj).1) (show skp bt a ≤ len by omega) h; omega) | exact h.2 c35, rfl⟩⟩
