theorem kX7_shardOf_u (D : xD) (l : Launch) {n : Nat} {T : xT} {M : xM} (V : xM) (i : Int) (hY : LayOK n T) (hN : mrel (M 196) V) (hv : VOK V) (hi : isI V i) (h9 : V 9 i.toNat = 0) : xC D l uX7_shardOf 1 22 0 0 [xR 195, xI i] n T M (xPp n T M (V 4 i.toNat)) := by
  have h := kX7_shardOf D l (M := M) (n := n) (T := T) V i hY hN hv hi
  rw [show V 4 i.toNat + 4 * V 9 i.toNat = V 4 i.toNat by omega] at h
  exact h
theorem isnomore {p q lo w : Int} : xcmp (p ^ w.toNat * 1024 ^ (1 : Int).toNat) (q ^ w.toNat * lo ^ (1 : Int).toNat) ≤ 0 ↔ p ^ w.toNat * 1024 ≤ q ^ w.toNat * lo := by
  rw [xcmp_le]
  have e : ∀ x : Int, x ^ (1 : Int).toNat = x := fun x => by show x ^ 1 = x; rw [Int.pow_succ, Int.pow_zero, Int.one_mul]
  rw [e, e]
set_option maxRecDepth 100000 in
set_option maxHeartbeats 4000000 in
theorem kX7_isNoMore (D : xD) (l : Launch) {n : Nat} {T : xT} {M : xM} (V : xM) (p q i : Int) (hY : LayOK n T) (hN : mrel (M 196) V) (hv : VOK V) (hp : 1 ≤ p ∧ p ≤ 1024) (hq : 1 ≤ q ∧ q ≤ 1024) (hi : isI V i) : xC D l uX7_isNoMore 2 51 0 0 [xR 195, xI p, xI q, xI i] n T M (xPI n T (fun z M2 => z = b2i (p ^ (V 6 i.toNat).toNat * 1024 ≤ q ^ (V 6 i.toNat).toNat * V 7 i.toNat) ∧ xof [200, 201] M M2)) := by
  refine x_met uX7_isNoMore (by decide) (Nat.le_of_ble_eq_true rfl) ?_
  intro Γ G Rt _
  have G : xG Γ RX7 cX7_isNoMore 5 2 51 0 0 := G
  have Rt : xRt Γ (xPI n T (fun z M2 => z = b2i (p ^ (V 6 i.toNat).toNat * 1024 ≤ q ^ (V 6 i.toNat).toNat * V 7 i.toNat) ∧ xof [200, 201] M M2)) (some .boolean) 0 0 := Rt
  show xX Γ 0 0 n T 0 [(0, xR 195), (1, xI p), (2, xI q), (3, xI i)] [] M
  have hc := ok_c hv
  have hit := ok_i hv hi.1 hi.2
  refine x_aload_n G 0 rfl rfl dX7_isNoMore_0 ?_
  refine x_iload_n G 3 rfl rfl dX7_isNoMore_1 ?_
  refine x_iconst G (by decide) dX7_isNoMore_2 ?_
  refine x_callVp G [] [xI i, xI 2] rfl (by decide) (ly_n hY 195 (by decide)) (ly_k hY 195 (by decide)) hy_X7_item hi_X7_item hs_X7_item ml_X7_58 rfl rfl (kX7_item_2 _ _ V i hY hN hv (by omega)) (by decide) (by decide) (Nat.le_of_ble_eq_true rfl) dX7_isNoMore_3 ?_
  refine x_istore G [(4, xI (V 6 i.toNat)), (0, xR 195), (1, xI p), (2, xI q), (3, xI i)] (by decide) rfl dX7_isNoMore_6 ?_
  refine x_aload_n G 1 rfl rfl dX7_isNoMore_8 ?_
  refine x_get G (xR 200) xf7_5 lk_X7_23 (ly_n hY 195 (by decide)) (ly_k hY 195 (by decide)) (Or.inr ⟨rfl, _, (ly_r hY 195 5 (by decide) (by decide)), rfl⟩) dX7_isNoMore_9 ?_
  refine x_iload_n G 2 rfl rfl dX7_isNoMore_12 ?_
  refine x_iload G 0 rfl dX7_isNoMore_13 ?_
  refine x_sipush G (by decide) dX7_isNoMore_15 ?_
  refine x_iconst G (by decide) dX7_isNoMore_18 ?_
  refine x_callSV G [] [xR 200, xI p, xI (V 6 i.toNat), xI 1024, xI 1] hy_X7_powers ht_X7_powers ml_X7_78 rfl rfl (kX7_powers _ _ 200 p (V 6 i.toNat) 1024 1 (ly_n hY 200 (by decide)) (ly_k hY 200 (by decide)) (show _ = 64 from ly_l hY 200 (by decide)) (by omega) (by omega) (by omega) (by omega)) (by decide) (by decide) (Nat.le_of_ble_eq_true rfl) dX7_isNoMore_19 (fun M19 h19 => ?_)
  refine x_aload_n G 1 rfl rfl dX7_isNoMore_22 ?_
  refine x_get G (xR 201) xf7_6 lk_X7_26 (ly_n hY 195 (by decide)) (ly_k hY 195 (by decide)) (Or.inr ⟨rfl, _, (ly_r hY 195 6 (by decide) (by decide)), rfl⟩) dX7_isNoMore_23 ?_
  refine x_iload_n G 3 rfl rfl dX7_isNoMore_26 ?_
  refine x_iload G 0 rfl dX7_isNoMore_27 ?_
  refine x_aload_n G 1 rfl rfl dX7_isNoMore_29 ?_
  refine x_iload_n G 4 rfl rfl dX7_isNoMore_30 ?_
  refine x_iconst G (by decide) dX7_isNoMore_31 ?_
  refine x_callVp G [xI (V 6 i.toNat), xI q, xR 201] [xI i, xI 3] rfl (by decide) (ly_n hY 195 (by decide)) (ly_k hY 195 (by decide)) hy_X7_item hi_X7_item hs_X7_item ml_X7_58 rfl rfl (kX7_item_3 _ _ V i hY (mr_cg hN (h19.1 196 (by omega))) hv (by omega)) (by decide) (by decide) (Nat.le_of_ble_eq_true rfl) dX7_isNoMore_32 ?_
  refine x_iconst G (by decide) dX7_isNoMore_35 ?_
  refine x_callSV G [] [xR 201, xI q, xI (V 6 i.toNat), xI (V 7 i.toNat), xI 1] hy_X7_powers ht_X7_powers ml_X7_78 rfl rfl (kX7_powers _ _ 201 q (V 6 i.toNat) (V 7 i.toNat) 1 (ly_n hY 201 (by decide)) (ly_k hY 201 (by decide)) (show _ = 64 from ly_l hY 201 (by decide)) (by omega) (by omega) (by omega) (by omega)) (by decide) (by decide) (Nat.le_of_ble_eq_true rfl) dX7_isNoMore_36 (fun M36 h36 => ?_)
  refine x_aload_n G 1 rfl rfl dX7_isNoMore_39 ?_
  refine x_callVp G [] [] rfl (by decide) (ly_n hY 195 (by decide)) (ly_k hY 195 (by decide)) hy_X7_compared hi_X7_compared hs_X7_compared ml_X7_82 rfl rfl (kX7_compared _ _ hY (by rw [h36.1 200 (by decide)]; exact h19.2.1) h36.2.1) (by decide) (by decide) (Nat.le_of_ble_eq_true rfl) dX7_isNoMore_40 ?_
  have e43 : xcmp (vB (M36 200) 64) (vB (M36 201) 64) = xcmp (p ^ (V 6 i.toNat).toNat * 1024 ^ (1 : Int).toNat) (q ^ (V 6 i.toNat).toNat * (V 7 i.toNat) ^ (1 : Int).toNat) := by rw [h36.2.2, h36.1 200 (by decide), h19.2.2]
  rw [e43]
  skip
  refine x_if_gt G 50 (by decide) dX7_isNoMore_43 (fun c43 => ?_) (fun c43 => ?_)
  · skip
    have c43 : ¬ (p ^ (V 6 i.toNat).toNat * 1024 ≤ q ^ (V 6 i.toNat).toNat * V 7 i.toNat) := fun h => by have := isnomore.mpr h; omega
    refine x_iconst G (by decide) dX7_isNoMore_50 ?_
    exact x_zret G (by omega) Rt dX7_isNoMore_51 ⟨rfl, rfl, _, rfl, ⟨by first | exact (b2i_t c43).symm | exact (b2i_f c43).symm, fun k hk => by simp at hk; rw [h36.1 k (by omega), h19.1 k (by omega)]⟩⟩
  · skip
    have c43 : p ^ (V 6 i.toNat).toNat * 1024 ≤ q ^ (V 6 i.toNat).toNat * V 7 i.toNat := isnomore.mp (by omega)
    refine x_iconst G (by decide) dX7_isNoMore_46 ?_
    refine x_goto G 51 (by decide) dX7_isNoMore_47 ?_
    exact x_zret G (by omega) Rt dX7_isNoMore_51 ⟨rfl, rfl, _, rfl, ⟨by first | exact (b2i_t c43).symm | exact (b2i_f c43).symm, fun k hk => by simp at hk; rw [h36.1 k (by omega), h19.1 k (by omega)]⟩⟩
set_option maxRecDepth 100000 in
set_option maxHeartbeats 4000000 in
theorem kX7_part (D : xD) (l : Launch) {n : Nat} {T : xT} {M : xM} (V : xM) (i q : Int) (hY : LayOK n T) (hN : mrel (M 196) V) (hv : VOK V) (hs : Srt V (V 10) (V 0 10).toNat) (hR : Rk M V) : xC D l uX7_part 3 75 0 0 [xR 195, xI i, xI q] n T M (xPI n T (fun z M2 => (qPart V i q z) ∧ mfr M M2 ∧ Rk M2 V)) := by
  refine x_met uX7_part (by decide) (Nat.le_of_ble_eq_true rfl) ?_
  intro Γ G Rt _
  have G : xG Γ RX7 cX7_part 4 3 75 0 0 := G
  have Rt : xRt Γ (xPI n T (fun z M2 => (qPart V i q z) ∧ mfr M M2 ∧ Rk M2 V)) (some .int) 0 0 := Rt
  show xX Γ 0 0 n T 0 [(0, xR 195), (1, xI i), (2, xI q)] [] M
  have hc := ok_c hv
  refine x_aload_n G 0 rfl rfl dX7_part_0 ?_
  refine x_iload_n G 1 rfl rfl dX7_part_1 ?_
  refine x_callVp G [] [xI i] rfl (by decide) (ly_n hY 195 (by decide)) (ly_k hY 195 (by decide)) hy_X7_isItem hi_X7_isItem hs_X7_isItem ml_X7_66 rfl rfl (kX7_isItem _ _ V i hY hN hv) (by decide) (by decide) (Nat.le_of_ble_eq_true rfl) dX7_part_2 ?_
  refine x_if_eq G 20 (by decide) dX7_part_5 (fun c5 => ?_) (fun c5 => ?_)
  · skip
    have c5 := b2i_eq0.mp c5
    refine x_iconst G (by decide) dX7_part_20 ?_
    exact x_iret G Rt dX7_part_21 ⟨rfl, rfl, _, rfl, ⟨Or.inr ⟨by omega, rfl⟩, (mfr_refl _), hR⟩⟩
  · skip
    have c5 := b2i_ne0.mp c5
    refine x_iload_n G 2 rfl rfl dX7_part_8 ?_
    refine x_i2l G dX7_part_9 ?_
    refine x_lconst G dX7_part_10 ?_
    show xX Γ 0 0 n T 11 [(0, xR 195), (1, xI i), (2, xI q)] [xL 1, xL q] M
    refine x_ldc2 G (z := 1000) (by decide) kc_X7_94 dX7_part_11 ?_
    refine x_callSp G [] [xL q, xL 1, xL 1000] hy_X7_in ht_X7_in ml_X7_54 rfl rfl (kX7_in _ _ q 1 1000) (by decide) (by decide) (Nat.le_of_ble_eq_true rfl) dX7_part_14 ?_
    refine x_if_ne G 22 (by decide) dX7_part_17 (fun c17 => ?_) (fun c17 => ?_)
    · skip
      have c17 := b2i_ne0.mp c17
      have hit := ok_i hv (i := i) (by omega) (by omega)
      obtain ⟨c, hcc⟩ := pPt_cut q (V 7 i.toNat) (V 6 i.toNat) q.toNat
      rw [show ((q.toNat : Nat) : Int) = q by omega] at hcc
      have hcr := hcc.1
      have hcq : c < q := by (rcases Int.lt_or_le c q with g | g; exact g; exact absurd (pPt_top (q := q) (by omega) (by omega)) (hcc.2.1 q (by omega) g))
      refine x_iconst G (by decide) dX7_part_22 ?_
      refine x_istore_n G [(3, xI 0), (0, xR 195), (1, xI i), (2, xI q)] rfl (by decide) rfl dX7_part_23 ?_
      have loop24 : ∀ (d : Nat) (p : Int) (M1 : xM), (q - p).toNat = d → (0 ≤ p ∧ p ≤ c) → (mrel (M1 196) V) → (mfr M M1) → (Rk M1 V) → xX Γ 0 0 n T 24 [(0, xR 195), (1, xI i), (2, xI q), (3, xI p)] [] M1 := by
        intro d
        induction d using Nat.strongRecOn with
        | ind d ih24 =>
        intro p M1 hd24 hp hN1 hf1 hR1
        skip
        refine x_aload_n G 0 rfl rfl dX7_part_24 ?_
        refine x_iload_n G 3 rfl rfl dX7_part_25 ?_
        refine x_iconst G (by decide) dX7_part_26 ?_
        refine x_iadd G (by omega) dX7_part_27 ?_
        refine x_iload_n G 2 rfl rfl dX7_part_28 ?_
        refine x_iload_n G 1 rfl rfl dX7_part_29 ?_
        refine x_callVI G [] [xI (p + 1), xI q, xI i] rfl (by decide) (ly_n hY 195 (by decide)) (ly_k hY 195 (by decide)) hy_X7_isNoMore hi_X7_isNoMore hs_X7_isNoMore ml_X7_96 rfl rfl (kX7_isNoMore _ _ V (p + 1) q i hY hN1 hv (by omega) (by omega) (by omega)) (by decide) (by decide) (Nat.le_of_ble_eq_true rfl) dX7_part_30 (fun z30 M30 h30 => ?_)
        rw [h30.1]
        refine x_if_eq G 42 (by decide) dX7_part_33 (fun c33 => ?_) (fun c33 => ?_)
        · skip
          have c33 := b2i_eq0.mp c33
          refine x_iload_n G 3 rfl rfl dX7_part_42 ?_
          exact x_iret G Rt dX7_part_43 ⟨rfl, rfl, _, rfl, ⟨Or.inl ⟨by omega, by omega, by rw [show p = c by (rcases Int.lt_or_le p c with g | g; exact absurd (Decidable.not_not.mp (hcc.2.1 (p + 1) (by omega) (by omega))) c33; omega)]; exact hcc⟩, (mfr_of hf1 h30.2 (by decide)), (rk_cg hR1 (congrFun (h30.2 195 (by simp)) 10) (h30.2 203 (by simp)))⟩⟩
        · skip
          have c33 := b2i_ne0.mp c33
          refine x_iinc G [(3, xI (p + 1)), (0, xR 195), (1, xI i), (2, xI q)] 3 rfl (by decide) (by omega) rfl dX7_part_36 ?_
          refine x_goto G 24 (by decide) dX7_part_39 ?_
          refine x_sub [(0, xR 195), (1, xI i), (2, xI q), (3, xI (p + 1))] [1, 2, 3, 0] rfl ?_
          exact ih24 _ (by omega) (p + 1) M30 rfl (by (rcases Int.lt_or_le c (p + 1) with g | g; exact absurd c33 (hcc.2.2 (p + 1) g (by omega)); omega)) ((mr_cg hN1 (h30.2 196 (by simp)))) ((mfr_of hf1 h30.2 (by decide))) ((rk_cg hR1 (congrFun (h30.2 195 (by simp)) 10) (h30.2 203 (by simp))))
      refine x_sub [(0, xR 195), (1, xI i), (2, xI q), (3, xI 0)] [1, 2, 3, 0] rfl ?_
      exact loop24 _ 0 M rfl (by omega) (hN) ((mfr_refl _)) (hR)
    · skip
      have c17 := b2i_eq0.mp c17
      refine x_iconst G (by decide) dX7_part_20 ?_
      exact x_iret G Rt dX7_part_21 ⟨rfl, rfl, _, rfl, ⟨Or.inr ⟨by omega, rfl⟩, (mfr_refl _), hR⟩⟩
set_option maxRecDepth 100000 in
set_option maxHeartbeats 4000000 in
theorem kX7_isAliveAt (D : xD) (l : Launch) {n : Nat} {T : xT} {M : xM} (V : xM) (i t w : Int) (hY : LayOK n T) (hN : mrel (M 196) V) (hv : VOK V) (hi : isI V i) (ht : 0 ≤ t ∧ t < 2000000) (hw : 0 ≤ w ∧ w ≤ 9999) : xC D l uX7_isAliveAt 1 22 0 0 [xR 195, xI i, xI t, xI w] n T M (xPp n T M (b2i (w = 0 ∨ t - w < V 8 i.toNat))) := by
  refine x_met uX7_isAliveAt (by decide) (Nat.le_of_ble_eq_true rfl) ?_
  intro Γ G Rt _
  have G : xG Γ RX7 cX7_isAliveAt 4 1 22 0 0 := G
  have Rt : xRt Γ (xPp n T M (b2i (w = 0 ∨ t - w < V 8 i.toNat))) (some .boolean) 0 0 := Rt
  show xX Γ 0 0 n T 0 [(0, xR 195), (1, xI i), (2, xI t), (3, xI w)] [] M
  have hc := ok_c hv
  refine x_iload_n G 3 rfl rfl dX7_isAliveAt_0 ?_
  refine x_if_eq G 16 (by decide) dX7_isAliveAt_1 (fun c1 => ?_) (fun c1 => ?_)
  · skip
    refine x_iconst G (by decide) dX7_isAliveAt_16 ?_
    refine x_goto G 21 (by decide) dX7_isAliveAt_17 ?_
    exact x_zret G (by omega) Rt dX7_isAliveAt_21 ⟨rfl, rfl, congrArg (fun z => some (xI z)) (by first | exact (b2i_t (by omega)).symm | exact (b2i_f (by omega)).symm), rfl⟩
  · skip
    refine x_aload_n G 0 rfl rfl dX7_isAliveAt_4 ?_
    refine x_iload_n G 1 rfl rfl dX7_isAliveAt_5 ?_
    refine x_iconst G (by decide) dX7_isAliveAt_6 ?_
    refine x_callVp G [] [xI i, xI 4] rfl (by decide) (ly_n hY 195 (by decide)) (ly_k hY 195 (by decide)) hy_X7_item hi_X7_item hs_X7_item ml_X7_58 rfl rfl (kX7_item_4 _ _ V i hY hN hv (by omega)) (by decide) (by decide) (Nat.le_of_ble_eq_true rfl) dX7_isAliveAt_7 ?_
    refine x_iload_n G 2 rfl rfl dX7_isAliveAt_10 ?_
    refine x_iload_n G 3 rfl rfl dX7_isAliveAt_11 ?_
    refine x_isub G (by omega) dX7_isAliveAt_12 ?_
    refine x_icmp_le G 20 (by decide) dX7_isAliveAt_13 (fun c13 => ?_) (fun c13 => ?_)
    · skip
      refine x_iconst G (by decide) dX7_isAliveAt_20 ?_
      exact x_zret G (by omega) Rt dX7_isAliveAt_21 ⟨rfl, rfl, congrArg (fun z => some (xI z)) (by first | exact (b2i_t (by omega)).symm | exact (b2i_f (by omega)).symm), rfl⟩
    · skip
      refine x_iconst G (by decide) dX7_isAliveAt_16 ?_
      refine x_goto G 21 (by decide) dX7_isAliveAt_17 ?_
      exact x_zret G (by omega) Rt dX7_isAliveAt_21 ⟨rfl, rfl, congrArg (fun z => some (xI z)) (by first | exact (b2i_t (by omega)).symm | exact (b2i_f (by omega)).symm), rfl⟩
set_option maxRecDepth 100000 in
set_option maxHeartbeats 4000000 in
theorem kX7_isAlive (D : xD) (l : Launch) {n : Nat} {T : xT} {M : xM} (V : xM) (i : Int) (hY : LayOK n T) (hN : mrel (M 196) V) (hv : VOK V) (hi : isI V i) : xC D l uX7_isAlive 3 64 0 0 [xR 195, xI i] n T M (xPp n T M (b2i (alv V i.toNat (V 0 11)))) := by
  refine x_met uX7_isAlive (by decide) (Nat.le_of_ble_eq_true rfl) ?_
  intro Γ G Rt _
  have G : xG Γ RX7 cX7_isAlive 2 3 64 0 0 := G
  have Rt : xRt Γ (xPp n T M (b2i (alv V i.toNat (V 0 11)))) (some .boolean) 0 0 := Rt
  show xX Γ 0 0 n T 0 [(0, xR 195), (1, xI i)] [] M
  have hc := ok_c hv
  have hit := ok_i hv hi.1 hi.2
  have hsc := hv.1
  have hsw := ok_s hv hit.1.1 hit.1.2
  refine x_aload_n G 0 rfl rfl dX7_isAlive_0 ?_
  refine x_iload_n G 1 rfl rfl dX7_isAlive_1 ?_
  refine x_callVp G [] [xI i] rfl (by decide) (ly_n hY 195 (by decide)) (ly_k hY 195 (by decide)) hy_X7_isDropped hi_X7_isDropped hs_X7_isDropped ml_X7_70 rfl rfl (kX7_isDropped _ _ V i hY hN hv (by omega)) (by decide) (by decide) (Nat.le_of_ble_eq_true rfl) dX7_isAlive_2 ?_
  refine x_if_ne G 39 (by decide) dX7_isAlive_5 (fun c5 => ?_) (fun c5 => ?_)
  · skip
    have c5 := b2i_ne0.mp c5
    refine x_iconst G (by decide) dX7_isAlive_39 ?_
    exact x_zret G (by omega) Rt dX7_isAlive_40 ⟨rfl, rfl, congrArg (fun z => some (xI z)) (by first | exact (b2i_t ⟨by omega, c32⟩).symm | exact (b2i_f (fun h => c32 h.2)).symm | exact (b2i_f (fun h => c5 h.1)).symm), rfl⟩
  · skip
    have c5 := b2i_eq0.mp c5
    refine x_aload_n G 0 rfl rfl dX7_isAlive_8 ?_
    refine x_iload_n G 1 rfl rfl dX7_isAlive_9 ?_
    refine x_aload_n G 0 rfl rfl dX7_isAlive_10 ?_
    refine x_get G (xR 196) xf7_0 lk_X7_7 (ly_n hY 195 (by decide)) (ly_k hY 195 (by decide)) (Or.inr ⟨rfl, _, (ly_r hY 195 0 (by decide) (by decide)), rfl⟩) dX7_isAlive_11 ?_
    refine x_iconst G (by decide) dX7_isAlive_14 ?_
    refine x_iald G (ly_n hY 196 (by decide)) (ly_k hY 196 (by decide)) (show _ = 511 from ly_l hY 196 (by decide)) (by omega) (by omega) dX7_isAlive_15 ?_
    show xX Γ 0 0 n T 16 [(0, xR 195), (1, xI i)] [xI (M 196 0), xI i, xR 195] M
    rw [show M 196 0 = (V 0 11) from hN.1.1]
    refine x_aload_n G 0 rfl rfl dX7_isAlive_16 ?_
    refine x_get G (xR 196) xf7_0 lk_X7_7 (ly_n hY 195 (by decide)) (ly_k hY 195 (by decide)) (Or.inr ⟨rfl, _, (ly_r hY 195 0 (by decide) (by decide)), rfl⟩) dX7_isAlive_17 ?_
    refine x_bipush G (by decide) dX7_isAlive_20 ?_
    refine x_aload_n G 0 rfl rfl dX7_isAlive_22 ?_
    refine x_iload_n G 1 rfl rfl dX7_isAlive_23 ?_
    refine x_callVp G [xI 7, xR 196, xI (V 0 11), xI i, xR 195] [xI i] rfl (by decide) (ly_n hY 195 (by decide)) (ly_k hY 195 (by decide)) hy_X7_shardOf hi_X7_shardOf hs_X7_shardOf ml_X7_62 rfl rfl (kX7_shardOf_u _ _ V i hY hN hv (by omega) (show V 9 i.toNat = 0 by omega)) (by decide) (by decide) (Nat.le_of_ble_eq_true rfl) dX7_isAlive_24 ?_
    refine x_iadd G (by omega) dX7_isAlive_27 ?_
    refine x_iald G (ly_n hY 196 (by decide)) (ly_k hY 196 (by decide)) (show _ = 511 from ly_l hY 196 (by decide)) (by omega) (by omega) dX7_isAlive_28 ?_
    rw [show M 196 (7 + (V 4 i.toNat)).toNat = (V 12 (V 4 i.toNat).toNat) from (mr_wd hN (by omega))]
    refine x_callVp G [] [xI i, xI (V 0 11), xI (V 12 (V 4 i.toNat).toNat)] rfl (by decide) (ly_n hY 195 (by decide)) (ly_k hY 195 (by decide)) hy_X7_isAliveAt hi_X7_isAliveAt hs_X7_isAliveAt ml_X7_100 rfl rfl (kX7_isAliveAt _ _ V i (V 0 11) (V 12 (V 4 i.toNat).toNat) hY hN hv (by omega) (by omega) (by omega)) (by decide) (by decide) (Nat.le_of_ble_eq_true rfl) dX7_isAlive_29 ?_
    refine x_if_eq G 39 (by decide) dX7_isAlive_32 (fun c32 => ?_) (fun c32 => ?_)
    · skip
      have c32 := b2i_eq0.mp c32
      refine x_iconst G (by decide) dX7_isAlive_39 ?_
      exact x_zret G (by omega) Rt dX7_isAlive_40 ⟨rfl, rfl, congrArg (fun z => some (xI z)) (by first | exact (b2i_t ⟨by omega, c32⟩).symm | exact (b2i_f (fun h => c32 h.2)).symm | exact (b2i_f (fun h => c5 h.1)).symm), rfl⟩
    · skip
      have c32 := b2i_ne0.mp c32
      refine x_iconst G (by decide) dX7_isAlive_35 ?_
      refine x_goto G 40 (by decide) dX7_isAlive_36 ?_
      exact x_zret G (by omega) Rt dX7_isAlive_40 ⟨rfl, rfl, congrArg (fun z => some (xI z)) (by first | exact (b2i_t ⟨by omega, c32⟩).symm | exact (b2i_f (fun h => c32 h.2)).symm | exact (b2i_f (fun h => c5 h.1)).symm), rfl⟩
set_option maxRecDepth 100000 in
set_option maxHeartbeats 4000000 in
theorem kX7_begins_ (D : xD) (l : Launch) {n : Nat} {T : xT} {M : xM}  (hY : LayOK n T) : xC D l uX7_begins_ 0 0 0 0 [xR 195] n T M (xPV n T (fun M2 => M2 = xst M 195 8 0)) := by
  refine x_met uX7_begins_ (by decide) (Nat.le_of_ble_eq_true rfl) ?_
  intro Γ G Rt _
  have G : xG Γ RX7 cX7_begins_ 1 0 0 0 0 := G
  have Rt : xRt Γ (xPV n T (fun M2 => M2 = xst M 195 8 0)) none 0 0 := Rt
  show xX Γ 0 0 n T 0 [(0, xR 195)] [] M
  refine x_aload_n G 0 rfl rfl dX7_begins__0 ?_
  refine x_iconst G (by decide) dX7_begins__1 ?_
  refine x_put G  xf7_8 lk_X7_103 (ly_n hY 195 (by decide)) (ly_k hY 195 (by decide)) rfl dX7_begins__2 ?_
  exact x_vret G Rt dX7_begins__5 ⟨rfl, rfl, rfl, rfl⟩
theorem rank_in {V : xM} (hv : VOK V) {R S S2 : Nat → Int} {k q : Int} (hk : 0 ≤ k ∧ k < V 0 10) (hs : Srt V R k.toNat) (hq : 0 ≤ q ∧ q ≤ k) (hR : ∀ p : Nat, S p = if q.toNat < p ∧ p ≤ k.toNat then R (p - 1) else R p) (hA : ∀ p, q.toNat ≤ p → p < k.toNat → ahd V k (R p)) (hB : q ≤ 0 ∨ ¬ ahd V k (R (q - 1).toNat)) (h2 : ∀ p, S2 p = if p = q.toNat then k else S p) : Srt V S2 (k + 1).toNat := by
  have e9 : ((k.toNat : Nat) : Int) = k := by omega
  rw [show (k + 1).toNat = k.toNat + 1 by omega]
  refine srt_cg (R := insR R q.toNat k.toNat) (fun p hp => ?_) (srt_ins hv hs (by omega) (fun p hp => ?_) (fun p h1 h3 hx => ?_))
  · rw [h2, hR]
    unfold insR
    by_cases g : p < q.toNat
    · rw [if_neg (by omega), if_neg (by omega), if_pos g]
    · by_cases g2 : p = q.toNat
      · rw [if_pos g2, if_neg g, if_pos g2]; exact e9.symm
      · rw [if_neg g2, if_neg g, if_neg g2, if_pos (by omega), if_pos (by omega)]
  · rw [e9]
    have hB2 := hB.resolve_left (by omega)
    have b1 := hs.1 (q - 1).toNat (by omega)
    have b2 := hs.1 p (by omega)
    have t1 : ahd V (R (q - 1).toNat) k := ahd_total (by omega) hB2
    rcases Nat.lt_or_ge p (q - 1).toNat with c | c
    · exact ahd_trans hv ⟨b2.1, by omega⟩ ⟨b1.1, by omega⟩ hk (hs.2 p _ c (by omega)) t1
    · rw [show p = (q - 1).toNat by omega]; exact t1
  · rw [e9] at hx
    exact ahd_asym hx (hA p h1 h3)
theorem rw_nil {M : xM} (h : M 195 8 = 0) : Rw M [] := ⟨h, fun j hj => absurd hj (Nat.not_lt_zero _)⟩
theorem rw_add {M M2 : xM} {L : List Nat} {i : Int} (h : Rw M L) (h0 : 0 ≤ i) (e1 : M2 195 8 = (L.length : Int) + 1) (e2 : ∀ j, M2 202 j = if j = L.length then i else M 202 j) : Rw M2 (L ++ [i.toNat]) := by
  refine ⟨by rw [e1, List.length_append]; rfl, fun j hj => ?_⟩
  rw [List.length_append] at hj
  rw [e2]
  by_cases g : j = L.length
  · rw [if_pos g, g, getD_add_eq]; omega
  · have hj2 : j < L.length := by have : [i.toNat].length = 1 := rfl; omega
    rw [if_neg g, getD_add_lt hj2]; exact h.2 j hj2
theorem rw_take {M M2 : xM} {L : List Nat} {m : Nat} (h : Rw M L) (e1 : M2 195 8 = ((L.take m).length : Int)) (e2 : M2 202 = M 202) : Rw M2 (L.take m) := by
  refine ⟨e1, fun j hj => ?_⟩
  rw [List.length_take] at hj
  rw [e2, h.2 j (by omega)]
  simp only [List.getD]
  rw [List.getElem?_take_of_lt (by omega)]
theorem ft_y {V : xM} {P : Nat → Prop} [DecidablePred P] {k : Int} (hk : 0 ≤ k ∧ k < V 0 10) (h : P (V 10 k.toNat).toNat) : ((rkl V).take (k + 1).toNat).filter (fun i => decide (P i)) = ((rkl V).take k.toNat).filter (fun i => decide (P i)) ++ [(V 10 k.toNat).toNat] := by
  rw [show (k + 1).toNat = k.toNat + 1 by omega, rkl_take (by omega), List.filter_append]
  congr 1
  simp [h]
theorem ft_n {V : xM} {P : Nat → Prop} [DecidablePred P] {k : Int} (hk : 0 ≤ k ∧ k < V 0 10) (h : ¬ P (V 10 k.toNat).toNat) : ((rkl V).take (k + 1).toNat).filter (fun i => decide (P i)) = ((rkl V).take k.toNat).filter (fun i => decide (P i)) := by
  rw [show (k + 1).toNat = k.toNat + 1 by omega, rkl_take (by omega), List.filter_append]
  simp [h]
theorem ft_len {V : xM} (P : Nat → Prop) [DecidablePred P] (k : Nat) : (((rkl V).take k).filter (fun i => decide (P i))).length ≤ k := by
  have h1 := List.length_filter_le (fun i => decide (P i)) ((rkl V).take k)
  have h2 := List.length_take_le k (rkl V)
  omega
theorem ft_all (V : xM) (P : Nat → Prop) [DecidablePred P] {k : Int} (h : k = V 0 10) : ((rkl V).take k.toNat).filter (fun i => decide (P i)) = (rkl V).filter (fun i => decide (P i)) := by
  rw [h, rkl_all]
set_option maxRecDepth 100000 in
set_option maxHeartbeats 4000000 in
theorem kX7_ranks (D : xD) (l : Launch) {n : Nat} {T : xT} {M : xM} (V : xM) (hY : LayOK n T) (hN : mrel (M 196) V) (hv : VOK V) (hs : Srt V (V 10) (V 0 10).toNat) (hR : Rk M V) : xC D l uX7_ranks 5 122 0 0 [xR 195] n T M (xPV n T (fun M2 => Srt V (M2 203) (V 0 10).toNat ∧ mfx 204 M M2 ∧ Rk M2 V)) := by
  refine x_met uX7_ranks (by decide) (Nat.le_of_ble_eq_true rfl) ?_
  intro Γ G Rt _
  have G : xG Γ RX7 cX7_ranks 3 5 122 0 0 := G
  have Rt : xRt Γ (xPV n T (fun M2 => Srt V (M2 203) (V 0 10).toNat ∧ mfx 204 M M2 ∧ Rk M2 V)) none 0 0 := Rt
  show xX Γ 0 0 n T 0 [(0, xR 195)] [] M
  have hc := ok_c hv
  refine x_aload_n G 0 rfl rfl dX7_ranks_0 ?_
  refine x_get G (xI (M 195 10)) xf7_10 lk_X7_107 (ly_n hY 195 (by decide)) (ly_k hY 195 (by decide)) (Or.inl ⟨rfl, rfl⟩) dX7_ranks_1 ?_
  refine x_if_eq G 8 (by decide) dX7_ranks_4 (fun c4 => ?_) (fun c4 => ?_)
  · skip
    refine x_iconst G (by decide) dX7_ranks_8 ?_
    refine x_istore_n G [(1, xI 0), (0, xR 195)] rfl (by decide) rfl dX7_ranks_9 ?_
    have loop10 : ∀ (d : Nat) (k : Int) (M1 : xM), (V 0 10 - k).toNat = d → (0 ≤ k ∧ k ≤ V 0 10) → (Srt V (M1 203) k.toNat) → (mfx 204 M M1) → xX Γ 0 0 n T 10 [(0, xR 195), (1, xI k)] [] M1 := by
      intro d
      induction d using Nat.strongRecOn with
      | ind d ih10 =>
      intro k M1 hd10 hk hsr hf1
      skip
      refine x_iload_n G 1 rfl rfl dX7_ranks_10 ?_
      refine x_aload_n G 0 rfl rfl dX7_ranks_11 ?_
      refine x_get G (xR 196) xf7_0 lk_X7_7 (ly_n hY 195 (by decide)) (ly_k hY 195 (by decide)) (Or.inr ⟨rfl, _, (ly_r hY 195 0 (by decide) (by decide)), rfl⟩) dX7_ranks_12 ?_
      refine x_iconst G (by decide) dX7_ranks_15 ?_
      refine x_iald G (ly_n hY 196 (by decide)) (ly_k hY 196 (by decide)) (show _ = 511 from ly_l hY 196 (by decide)) (by omega) (by omega) dX7_ranks_16 ?_
      show xX Γ 0 0 n T 17 [(0, xR 195), (1, xI k)] [xI (M1 196 2), xI k] M1
      rw [show M1 196 2 = (V 0 10) from (mr_cg hN (hf1.1 196 (by omega))).1.2.2]
      refine x_icmp_ge G 75 (by decide) dX7_ranks_17 (fun c17 => ?_) (fun c17 => ?_)
      · skip
        refine x_aload_n G 0 rfl rfl dX7_ranks_75 ?_
        refine x_iconst G (by decide) dX7_ranks_76 ?_
        refine x_putz G (by omega) xf7_10 lk_X7_107 (ly_n hY 195 (by decide)) (ly_k hY 195 (by decide)) rfl dX7_ranks_77 ?_
        exact x_vret G Rt dX7_ranks_80 ⟨rfl, rfl, rfl, ⟨by have h9 := hsr; rw [show k = V 0 10 by omega] at h9; exact h9, (mfr_st hf1 (by omega)), Or.inr ⟨xst_same .., by have h9 := hsr; rw [show k = V 0 10 by omega] at h9; exact h9⟩⟩⟩
      · skip
        refine x_iload_n G 1 rfl rfl dX7_ranks_20 ?_
        refine x_istore_n G [(2, xI k), (0, xR 195), (1, xI k)] rfl (by decide) rfl dX7_ranks_21 ?_
        have loop22 : ∀ (d : Nat) (q : Int) (M3 : xM), q.toNat = d → (0 ≤ q ∧ q ≤ k) → (∀ p : Nat, M3 203 p = if q.toNat < p ∧ p ≤ k.toNat then M1 203 (p - 1) else M1 203 p) → (∀ p, q.toNat ≤ p → p < k.toNat → ahd V k (M1 203 p)) → (mfx 204 M M3) → xX Γ 0 0 n T 22 [(0, xR 195), (1, xI k), (2, xI q)] [] M3 := by
          intro d
          induction d using Nat.strongRecOn with
          | ind d ih22 =>
          intro q M3 hd22 hq hR3 hA hf3
          skip
          refine x_iload_n G 2 rfl rfl dX7_ranks_22 ?_
          refine x_if_le G 62 (by decide) dX7_ranks_23 (fun c23 => ?_) (fun c23 => ?_)
          · skip
            refine x_aload_n G 0 rfl rfl dX7_ranks_62 ?_
            refine x_get G (xR 203) xf7_9 lk_X7_32 (ly_n hY 195 (by decide)) (ly_k hY 195 (by decide)) (Or.inr ⟨rfl, _, (ly_r hY 195 9 (by decide) (by decide)), rfl⟩) dX7_ranks_63 ?_
            refine x_iload_n G 2 rfl rfl dX7_ranks_66 ?_
            refine x_iload_n G 1 rfl rfl dX7_ranks_67 ?_
            refine x_iast G (ly_n hY 203 (by decide)) (ly_k hY 203 (by decide)) (show _ = 100 from ly_l hY 203 (by decide)) (by omega) (by omega) dX7_ranks_68 ?_
            refine x_iinc G [(1, xI (k + 1)), (0, xR 195), (2, xI q)] 1 rfl (by decide) (by omega) rfl dX7_ranks_69 ?_
            refine x_goto G 10 (by decide) dX7_ranks_72 ?_
            refine x_sub [(0, xR 195), (1, xI (k + 1))] [1, 0] rfl ?_
            exact ih10 _ (by omega) (k + 1) (xst M3 203 q.toNat k) rfl (by omega) (rank_in hv (by omega) hsr (by omega) hR3 hA (Or.inl (by omega)) (fun p => by rw [xst_eq]; by_cases e : p = q.toNat; rw [if_pos ⟨rfl, e⟩, if_pos e]; rw [if_neg (fun h => e h.2), if_neg e])) ((mfr_st hf3 (by omega)))
          · skip
            have hr9 := hsr.1 (q - 1).toNat (by omega)
            have hRq := hR3 (q - 1).toNat
            rw [if_neg (by omega)] at hRq
            refine x_aload_n G 0 rfl rfl dX7_ranks_26 ?_
            refine x_iload_n G 1 rfl rfl dX7_ranks_27 ?_
            refine x_aload_n G 0 rfl rfl dX7_ranks_28 ?_
            refine x_get G (xR 203) xf7_9 lk_X7_32 (ly_n hY 195 (by decide)) (ly_k hY 195 (by decide)) (Or.inr ⟨rfl, _, (ly_r hY 195 9 (by decide) (by decide)), rfl⟩) dX7_ranks_29 ?_
            refine x_iload_n G 2 rfl rfl dX7_ranks_32 ?_
            refine x_iconst G (by decide) dX7_ranks_33 ?_
            refine x_isub G (by omega) dX7_ranks_34 ?_
            refine x_iald G (ly_n hY 203 (by decide)) (ly_k hY 203 (by decide)) (show _ = 100 from ly_l hY 203 (by decide)) (by omega) (by omega) dX7_ranks_35 ?_
            refine x_callVI G [] [xI k, xI (M3 203 (q - 1).toNat)] rfl (by decide) (ly_n hY 195 (by decide)) (ly_k hY 195 (by decide)) hy_X7_areInOrder hi_X7_areInOrder hs_X7_areInOrder ml_X7_111 rfl rfl (kX7_areInOrder _ _ V k (M3 203 (q - 1).toNat) hY (mr_cg hN (hf3.1 196 (by omega))) hv (by omega) (by omega)) (by decide) (by decide) (Nat.le_of_ble_eq_true rfl) dX7_ranks_36 (fun z36 M36 h36 => ?_)
            rw [h36.1]
            refine x_if_eq G 62 (by decide) dX7_ranks_39 (fun c39 => ?_) (fun c39 => ?_)
            · skip
              have c39 := b2i_eq0.mp c39
              refine x_aload_n G 0 rfl rfl dX7_ranks_62 ?_
              refine x_get G (xR 203) xf7_9 lk_X7_32 (ly_n hY 195 (by decide)) (ly_k hY 195 (by decide)) (Or.inr ⟨rfl, _, (ly_r hY 195 9 (by decide) (by decide)), rfl⟩) dX7_ranks_63 ?_
              refine x_iload_n G 2 rfl rfl dX7_ranks_66 ?_
              refine x_iload_n G 1 rfl rfl dX7_ranks_67 ?_
              refine x_iast G (ly_n hY 203 (by decide)) (ly_k hY 203 (by decide)) (show _ = 100 from ly_l hY 203 (by decide)) (by omega) (by omega) dX7_ranks_68 ?_
              refine x_iinc G [(1, xI (k + 1)), (0, xR 195), (2, xI q)] 1 rfl (by decide) (by omega) rfl dX7_ranks_69 ?_
              refine x_goto G 10 (by decide) dX7_ranks_72 ?_
              refine x_sub [(0, xR 195), (1, xI (k + 1))] [1, 0] rfl ?_
              exact ih10 _ (by omega) (k + 1) (xst M36 203 q.toNat k) rfl (by omega) (rank_in hv (by omega) hsr (by omega) (fun p => (congrFun (h36.2 203 (by simp)) p).trans (hR3 p)) hA (Or.inr (by rw [← hRq]; exact c39)) (fun p => by rw [xst_eq]; by_cases e : p = q.toNat; rw [if_pos ⟨rfl, e⟩, if_pos e]; rw [if_neg (fun h => e h.2), if_neg e])) ((mfr_st (mfr_of hf3 h36.2 (by decide)) (by omega)))
            · skip
              have c39 := b2i_ne0.mp c39
              refine x_aload_n G 0 rfl rfl dX7_ranks_42 ?_
              refine x_get G (xR 203) xf7_9 lk_X7_32 (ly_n hY 195 (by decide)) (ly_k hY 195 (by decide)) (Or.inr ⟨rfl, _, (ly_r hY 195 9 (by decide) (by decide)), rfl⟩) dX7_ranks_43 ?_
              refine x_iload_n G 2 rfl rfl dX7_ranks_46 ?_
              refine x_aload_n G 0 rfl rfl dX7_ranks_47 ?_
              refine x_get G (xR 203) xf7_9 lk_X7_32 (ly_n hY 195 (by decide)) (ly_k hY 195 (by decide)) (Or.inr ⟨rfl, _, (ly_r hY 195 9 (by decide) (by decide)), rfl⟩) dX7_ranks_48 ?_
              refine x_iload_n G 2 rfl rfl dX7_ranks_51 ?_
              refine x_iconst G (by decide) dX7_ranks_52 ?_
              refine x_isub G (by omega) dX7_ranks_53 ?_
              refine x_iald G (ly_n hY 203 (by decide)) (ly_k hY 203 (by decide)) (show _ = 100 from ly_l hY 203 (by decide)) (by omega) (by omega) dX7_ranks_54 ?_
              rw [show M36 203 (q - 1).toNat = (M3 203 (q - 1).toNat) from (congrFun (h36.2 203 (by simp <;> omega)) (q - 1).toNat)]
              refine x_iast G (ly_n hY 203 (by decide)) (ly_k hY 203 (by decide)) (show _ = 100 from ly_l hY 203 (by decide)) (by omega) (by omega) dX7_ranks_55 ?_
              refine x_iinc G [(2, xI (q + (-1))), (0, xR 195), (1, xI k)] 2 rfl (by decide) (by omega) rfl dX7_ranks_56 ?_
              refine x_goto G 22 (by decide) dX7_ranks_59 ?_
              refine x_sub [(0, xR 195), (1, xI k), (2, xI (q + (-1)))] [1, 2, 0] rfl ?_
              exact ih22 _ (by omega) (q + (-1)) (xst M36 203 q.toNat (M3 203 (q - 1).toNat)) rfl (by omega) (by
        intro p
        rw [xst_eq]
        by_cases e : p = q.toNat
        · rw [if_pos ⟨rfl, e⟩, hRq, if_pos (by omega), e]; congr 1; omega
        · rw [if_neg (fun h9 => e h9.2), show M36 203 p = M3 203 p from congrFun (h36.2 203 (by simp)) p, hR3]
          by_cases e2 : q.toNat < p ∧ p ≤ k.toNat
          · rw [if_pos e2, if_pos (by omega)]
          · rw [if_neg e2, if_neg (by omega)]) (by intro p h1 h2; rcases Nat.lt_or_ge p q.toNat with g | g; (rw [show p = (q - 1).toNat by omega, ← hRq]; exact c39); exact hA p g h2) ((mfr_st (mfr_of hf3 h36.2 (by decide)) (by omega)))
        refine x_sub [(0, xR 195), (1, xI k), (2, xI k)] [1, 2, 0] rfl ?_
        exact loop22 _ k M1 rfl (by omega) (fun p => by rw [if_neg (by omega)]) (fun p h1 h2 => by omega) (hf1)
    refine x_sub [(0, xR 195), (1, xI 0)] [1, 0] rfl ?_
    exact loop10 _ 0 M rfl (by omega) (⟨fun p hp => by omega, fun p q hpq hq => by omega⟩) (mfr_refl _)
  · skip
    exact x_vret G Rt dX7_ranks_7 ⟨rfl, rfl, rfl, ⟨(hR.resolve_left c4).2, mfr_refl _, hR⟩⟩
set_option maxRecDepth 100000 in
set_option maxHeartbeats 4000000 in
theorem kX7_comesIn (D : xD) (l : Launch) {n : Nat} {T : xT} {M : xM} (L : List Nat) (i : Int) (hY : LayOK n T) (hw : Rw M L) (hl : L.length ≤ 99) : xC D l uX7_comesIn 0 0 0 0 [xR 195, xI i] n T M (xPV n T (fun M2 => M2 = xst (xst M 202 L.length i) 195 8 ((L.length : Int) + 1))) := by
  refine x_met uX7_comesIn (by decide) (Nat.le_of_ble_eq_true rfl) ?_
  intro Γ G Rt _
  have G : xG Γ RX7 cX7_comesIn 2 0 0 0 0 := G
  have Rt : xRt Γ (xPV n T (fun M2 => M2 = xst (xst M 202 L.length i) 195 8 ((L.length : Int) + 1))) none 0 0 := Rt
  show xX Γ 0 0 n T 0 [(0, xR 195), (1, xI i)] [] M
  have hwn := hw.1
  refine x_aload_n G 0 rfl rfl dX7_comesIn_0 ?_
  refine x_get G (xR 202) xf7_7 lk_X7_29 (ly_n hY 195 (by decide)) (ly_k hY 195 (by decide)) (Or.inr ⟨rfl, _, (ly_r hY 195 7 (by decide) (by decide)), rfl⟩) dX7_comesIn_1 ?_
  refine x_aload_n G 0 rfl rfl dX7_comesIn_4 ?_
  refine x_get G (xI (M 195 8)) xf7_8 lk_X7_103 (ly_n hY 195 (by decide)) (ly_k hY 195 (by decide)) (Or.inl ⟨rfl, rfl⟩) dX7_comesIn_5 ?_
  rw [show M 195 8 = (L.length : Int) from hw.1]
  refine x_iload_n G 1 rfl rfl dX7_comesIn_8 ?_
  refine x_iast G (ly_n hY 202 (by decide)) (ly_k hY 202 (by decide)) (show _ = 100 from ly_l hY 202 (by decide)) (by omega) (by omega) dX7_comesIn_9 ?_
  refine x_aload_n G 0 rfl rfl dX7_comesIn_10 ?_
  refine x_dup G rfl dX7_comesIn_11 ?_
  refine x_get G (xI ((xst M 202 (L.length : Int).toNat i) 195 8)) xf7_8 lk_X7_103 (ly_n hY 195 (by decide)) (ly_k hY 195 (by decide)) (Or.inl ⟨rfl, rfl⟩) dX7_comesIn_12 ?_
  rw [show (xst M 202 (L.length : Int).toNat i) 195 8 = (L.length : Int) from ((xst_nq (by omega)).trans hw.1)]
  refine x_iconst G (by decide) dX7_comesIn_15 ?_
  refine x_iadd G (by omega) dX7_comesIn_16 ?_
  refine x_put G  xf7_8 lk_X7_103 (ly_n hY 195 (by decide)) (ly_k hY 195 (by decide)) rfl dX7_comesIn_17 ?_
  exact x_vret G Rt dX7_comesIn_20 ⟨rfl, rfl, rfl, rfl⟩
set_option maxRecDepth 100000 in
set_option maxHeartbeats 4000000 in
theorem kX7_cuts (D : xD) (l : Launch) {n : Nat} {T : xT} {M : xM} (L : List Nat) (m : Int) (hY : LayOK n T) (hw : Rw M L) (hl : L.length ≤ 100) (hm : 0 ≤ m) : xC D l uX7_cuts 0 0 0 0 [xR 195, xI m] n T M (xPV n T (fun M2 => M2 = xst M 195 8 ((L.take m.toNat).length : Int))) := by
  refine x_met uX7_cuts (by decide) (Nat.le_of_ble_eq_true rfl) ?_
  intro Γ G Rt _
  have G : xG Γ RX7 cX7_cuts 2 0 0 0 0 := G
  have Rt : xRt Γ (xPV n T (fun M2 => M2 = xst M 195 8 ((L.take m.toNat).length : Int))) none 0 0 := Rt
  show xX Γ 0 0 n T 0 [(0, xR 195), (1, xI m)] [] M
  have hwn := hw.1
  have hlt : (L.take m.toNat).length = min m.toNat L.length := List.length_take
  refine x_aload_n G 0 rfl rfl dX7_cuts_0 ?_
  refine x_aload_n G 0 rfl rfl dX7_cuts_1 ?_
  refine x_get G (xI (M 195 8)) xf7_8 lk_X7_103 (ly_n hY 195 (by decide)) (ly_k hY 195 (by decide)) (Or.inl ⟨rfl, rfl⟩) dX7_cuts_2 ?_
  rw [show M 195 8 = (L.length : Int) from hw.1]
  refine x_iload_n G 1 rfl rfl dX7_cuts_5 ?_
  refine x_icmp_ge G 16 (by decide) dX7_cuts_6 (fun c6 => ?_) (fun c6 => ?_)
  · skip
    refine x_iload_n G 1 rfl rfl dX7_cuts_16 ?_
    refine x_put G  xf7_8 lk_X7_103 (ly_n hY 195 (by decide)) (ly_k hY 195 (by decide)) rfl dX7_cuts_17 ?_
    exact x_vret G Rt dX7_cuts_20 ⟨rfl, rfl, rfl, by congr 1; omega⟩
  · skip
    refine x_aload_n G 0 rfl rfl dX7_cuts_9 ?_
    refine x_get G (xI (M 195 8)) xf7_8 lk_X7_103 (ly_n hY 195 (by decide)) (ly_k hY 195 (by decide)) (Or.inl ⟨rfl, rfl⟩) dX7_cuts_10 ?_
    rw [show M 195 8 = (L.length : Int) from hw.1]
    refine x_goto G 17 (by decide) dX7_cuts_13 ?_
    refine x_put G  xf7_8 lk_X7_103 (ly_n hY 195 (by decide)) (ly_k hY 195 (by decide)) rfl dX7_cuts_17 ?_
    exact x_vret G Rt dX7_cuts_20 ⟨rfl, rfl, rfl, by congr 1; omega⟩
set_option maxRecDepth 100000 in
set_option maxHeartbeats 4000000 in
theorem kX7_lays (D : xD) (l : Launch) {n : Nat} {T : xT} {M : xM} (V : xM) (sh t w up : Int) (hY : LayOK n T) (hN : mrel (M 196) V) (hv : VOK V) (hs : Srt V (V 10) (V 0 10).toNat) (hR : Rk M V) (hsh : okS sh) (ht : 0 ≤ t ∧ t < 2000000) (hw : 0 ≤ w ∧ w ≤ 9999) : xC D l uX7_lays 6 144 0 0 [xR 195, xI sh, xI t, xI w, xI up] n T M (xPV n T (fun M2 => (Rw M2 (alL V sh t w up)) ∧ mfx 204 M M2 ∧ Rk M2 V)) := by
  refine x_met uX7_lays (by decide) (Nat.le_of_ble_eq_true rfl) ?_
  intro Γ G Rt _
  have G : xG Γ RX7 cX7_lays 7 6 144 0 0 := G
  have Rt : xRt Γ (xPV n T (fun M2 => (Rw M2 (alL V sh t w up)) ∧ mfx 204 M M2 ∧ Rk M2 V)) none 0 0 := Rt
  show xX Γ 0 0 n T 0 [(0, xR 195), (1, xI sh), (2, xI t), (3, xI w), (4, xI up)] [] M
  have hc := ok_c hv
  refine x_aload_n G 0 rfl rfl dX7_lays_0 ?_
  refine x_callVV G [] [] rfl (by decide) (ly_n hY 195 (by decide)) (ly_k hY 195 (by decide)) hy_X7_ranks hi_X7_ranks hs_X7_ranks ml_X7_115 rfl rfl (kX7_ranks _ _ V hY hN hv hs hR) (by decide) (by decide) (Nat.le_of_ble_eq_true rfl) dX7_lays_1 (fun M1 h1 => ?_)
  refine x_aload_n G 0 rfl rfl dX7_lays_4 ?_
  refine x_callVV G [] [] rfl (by decide) (ly_n hY 195 (by decide)) (ly_k hY 195 (by decide)) hy_X7_begins_ hi_X7_begins_ hs_X7_begins_ ml_X7_118 rfl rfl (kX7_begins_ _ _ hY) (by decide) (by decide) (Nat.le_of_ble_eq_true rfl) dX7_lays_5 (fun M5 h5 => ?_)
  subst h5
  show xX Γ 0 0 n T 8 [(0, xR 195), (1, xI sh), (2, xI t), (3, xI w), (4, xI up)] [] (xst M1 195 8 0)
  refine x_iconst G (by decide) dX7_lays_8 ?_
  refine x_istore G [(5, xI 0), (0, xR 195), (1, xI sh), (2, xI t), (3, xI w), (4, xI up)] (by decide) rfl dX7_lays_9 ?_
  have loop11 : ∀ (d : Nat) (k : Int) (N1 : xM), (V 0 10 - k).toNat = d → (0 ≤ k ∧ k ≤ V 0 10) → (mfx 204 M N1) → (Rk N1 V) → (∀ p : Nat, (p : Int) < V 0 10 → N1 203 p = V 10 p) → (Rw N1 (((rkl V).take k.toNat).filter fun i : Nat => decide ((i : Int) < up ∧ V 9 i = 0 ∧ V 4 i = sh ∧ (w = 0 ∨ t - w < V 8 i)))) → xX Γ 0 0 n T 11 [(0, xR 195), (1, xI sh), (2, xI t), (3, xI w), (4, xI up), (5, xI k)] [] N1 := by
    intro d
    induction d using Nat.strongRecOn with
    | ind d ih11 =>
    intro k N1 hd11 hk hf1 hR1 hrk hw1
    skip
    have hfl := ft_len (V := V) (fun i : Nat => (i : Int) < up ∧ V 9 i = 0 ∧ V 4 i = sh ∧ (w = 0 ∨ t - w < V 8 i)) k.toNat
    refine x_iload G 5 rfl dX7_lays_11 ?_
    refine x_aload_n G 0 rfl rfl dX7_lays_13 ?_
    refine x_get G (xR 196) xf7_0 lk_X7_7 (ly_n hY 195 (by decide)) (ly_k hY 195 (by decide)) (Or.inr ⟨rfl, _, (ly_r hY 195 0 (by decide) (by decide)), rfl⟩) dX7_lays_14 ?_
    refine x_iconst G (by decide) dX7_lays_17 ?_
    refine x_iald G (ly_n hY 196 (by decide)) (ly_k hY 196 (by decide)) (show _ = 511 from ly_l hY 196 (by decide)) (by omega) (by omega) dX7_lays_18 ?_
    show xX Γ 0 0 n T 19 [(0, xR 195), (1, xI sh), (2, xI t), (3, xI w), (4, xI up), (5, xI k)] [xI (N1 196 2), xI k] N1
    rw [show N1 196 2 = (V 0 10) from (mr_cg hN (hf1.1 196 (by omega))).1.2.2]
    refine x_icmp_ge G 71 (by decide) dX7_lays_19 (fun c19 => ?_) (fun c19 => ?_)
    · skip
      exact x_vret G Rt dX7_lays_71 ⟨rfl, rfl, rfl, ⟨by have h9 := hw1; rw [ft_all V _ (show k = V 0 10 by omega)] at h9; exact h9, hf1, hR1⟩⟩
    · skip
      refine x_aload_n G 0 rfl rfl dX7_lays_22 ?_
      refine x_get G (xR 203) xf7_9 lk_X7_32 (ly_n hY 195 (by decide)) (ly_k hY 195 (by decide)) (Or.inr ⟨rfl, _, (ly_r hY 195 9 (by decide) (by decide)), rfl⟩) dX7_lays_23 ?_
      refine x_iload G 5 rfl dX7_lays_26 ?_
      refine x_iald G (ly_n hY 203 (by decide)) (ly_k hY 203 (by decide)) (show _ = 100 from ly_l hY 203 (by decide)) (by omega) (by omega) dX7_lays_28 ?_
      rw [hrk k.toNat (by omega)]
      skip
      have hr := hs.1 k.toNat (by omega)
      have hit := ok_i hv (i := V 10 k.toNat) hr.1 (by omega)
      refine x_istore G [(6, xI (V 10 k.toNat)), (0, xR 195), (1, xI sh), (2, xI t), (3, xI w), (4, xI up), (5, xI k)] (by decide) rfl dX7_lays_29 ?_
      refine x_iload G 0 rfl dX7_lays_31 ?_
      refine x_iload G 5 rfl dX7_lays_33 ?_
      refine x_icmp_ge G 65 (by decide) dX7_lays_35 (fun c35 => ?_) (fun c35 => ?_)
      · skip
        refine x_iinc G [(5, xI (k + 1)), (6, xI (V 10 k.toNat)), (0, xR 195), (1, xI sh), (2, xI t), (3, xI w), (4, xI up)] 6 rfl (by decide) (by omega) rfl dX7_lays_65 ?_
        refine x_goto G 11 (by decide) dX7_lays_68 ?_
        refine x_sub [(0, xR 195), (1, xI sh), (2, xI t), (3, xI w), (4, xI up), (5, xI (k + 1))] [2, 3, 4, 5, 6, 0] rfl ?_
        exact ih11 _ (by omega) (k + 1) N1 rfl (by omega) (hf1) (hR1) (hrk) (by rw [ft_n (by omega) (by (first | omega | (intro h; omega)))]; exact hw1)
      · skip
        refine x_aload_n G 1 rfl rfl dX7_lays_38 ?_
        refine x_iload G 0 rfl dX7_lays_39 ?_
        refine x_callVp G [] [xI (V 10 k.toNat)] rfl (by decide) (ly_n hY 195 (by decide)) (ly_k hY 195 (by decide)) hy_X7_shardOf hi_X7_shardOf hs_X7_shardOf ml_X7_62 rfl rfl (kX7_shardOf _ _ V (V 10 k.toNat) hY (mr_cg hN (hf1.1 196 (by omega))) hv (by omega)) (by decide) (by decide) (Nat.le_of_ble_eq_true rfl) dX7_lays_41 ?_
        refine x_iload_n G 2 rfl rfl dX7_lays_44 ?_
        refine x_icmp_ne G 65 (by decide) dX7_lays_45 (fun c45 => ?_) (fun c45 => ?_)
        · skip
          refine x_iinc G [(5, xI (k + 1)), (6, xI (V 10 k.toNat)), (0, xR 195), (1, xI sh), (2, xI t), (3, xI w), (4, xI up)] 6 rfl (by decide) (by omega) rfl dX7_lays_65 ?_
          refine x_goto G 11 (by decide) dX7_lays_68 ?_
          refine x_sub [(0, xR 195), (1, xI sh), (2, xI t), (3, xI w), (4, xI up), (5, xI (k + 1))] [2, 3, 4, 5, 6, 0] rfl ?_
          exact ih11 _ (by omega) (k + 1) N1 rfl (by omega) (hf1) (hR1) (hrk) (by rw [ft_n (by omega) (by (first | omega | (intro h; omega)))]; exact hw1)
        · skip
          refine x_aload_n G 1 rfl rfl dX7_lays_48 ?_
          refine x_iload G 0 rfl dX7_lays_49 ?_
          refine x_iload_n G 3 rfl rfl dX7_lays_51 ?_
          refine x_iload_n G 4 rfl rfl dX7_lays_52 ?_
          refine x_callVp G [] [xI (V 10 k.toNat), xI t, xI w] rfl (by decide) (ly_n hY 195 (by decide)) (ly_k hY 195 (by decide)) hy_X7_isAliveAt hi_X7_isAliveAt hs_X7_isAliveAt ml_X7_100 rfl rfl (kX7_isAliveAt _ _ V (V 10 k.toNat) t w hY (mr_cg hN (hf1.1 196 (by omega))) hv (by omega) (by omega) (by omega)) (by decide) (by decide) (Nat.le_of_ble_eq_true rfl) dX7_lays_53 ?_
          refine x_if_eq G 65 (by decide) dX7_lays_56 (fun c56 => ?_) (fun c56 => ?_)
          · skip
            have c56 := b2i_eq0.mp c56
            refine x_iinc G [(5, xI (k + 1)), (6, xI (V 10 k.toNat)), (0, xR 195), (1, xI sh), (2, xI t), (3, xI w), (4, xI up)] 6 rfl (by decide) (by omega) rfl dX7_lays_65 ?_
            refine x_goto G 11 (by decide) dX7_lays_68 ?_
            refine x_sub [(0, xR 195), (1, xI sh), (2, xI t), (3, xI w), (4, xI up), (5, xI (k + 1))] [2, 3, 4, 5, 6, 0] rfl ?_
            exact ih11 _ (by omega) (k + 1) N1 rfl (by omega) (hf1) (hR1) (hrk) (by rw [ft_n (by omega) (by (first | omega | (intro h; omega)))]; exact hw1)
          · skip
            have c56 := b2i_ne0.mp c56
            refine x_aload_n G 1 rfl rfl dX7_lays_59 ?_
            refine x_iload G 0 rfl dX7_lays_60 ?_
            refine x_callVV G [] [xI (V 10 k.toNat)] rfl (by decide) (ly_n hY 195 (by decide)) (ly_k hY 195 (by decide)) hy_X7_comesIn hi_X7_comesIn hs_X7_comesIn ml_X7_120 rfl rfl (kX7_comesIn _ _ (((rkl V).take k.toNat).filter fun i : Nat => decide ((i : Int) < up ∧ V 9 i = 0 ∧ V 4 i = sh ∧ (w = 0 ∨ t - w < V 8 i))) (V 10 k.toNat) hY hw1 (by omega)) (by decide) (by decide) (Nat.le_of_ble_eq_true rfl) dX7_lays_62 (fun M62 h62 => ?_)
            subst h62
            show xX Γ 0 0 n T 65 [(6, xI (V 10 k.toNat)), (0, xR 195), (1, xI sh), (2, xI t), (3, xI w), (4, xI up), (5, xI k)] [] (xst (xst N1 202 (((rkl V).take k.toNat).filter fun i : Nat => decide ((i : Int) < up ∧ V 9 i = 0 ∧ V 4 i = sh ∧ (w = 0 ∨ t - w < V 8 i))).length (V 10 k.toNat)) 195 8 (((((rkl V).take k.toNat).filter fun i : Nat => decide ((i : Int) < up ∧ V 9 i = 0 ∧ V 4 i = sh ∧ (w = 0 ∨ t - w < V 8 i))).length : Int) + 1))
            refine x_iinc G [(5, xI (k + 1)), (6, xI (V 10 k.toNat)), (0, xR 195), (1, xI sh), (2, xI t), (3, xI w), (4, xI up)] 6 rfl (by decide) (by omega) rfl dX7_lays_65 ?_
            refine x_goto G 11 (by decide) dX7_lays_68 ?_
            refine x_sub [(0, xR 195), (1, xI sh), (2, xI t), (3, xI w), (4, xI up), (5, xI (k + 1))] [2, 3, 4, 5, 6, 0] rfl ?_
            exact ih11 _ (by omega) (k + 1) (xst (xst N1 202 (((rkl V).take k.toNat).filter fun i : Nat => decide ((i : Int) < up ∧ V 9 i = 0 ∧ V 4 i = sh ∧ (w = 0 ∨ t - w < V 8 i))).length (V 10 k.toNat)) 195 8 (((((rkl V).take k.toNat).filter fun i : Nat => decide ((i : Int) < up ∧ V 9 i = 0 ∧ V 4 i = sh ∧ (w = 0 ∨ t - w < V 8 i))).length : Int) + 1)) rfl (by omega) ((mfr_st (mfr_st hf1 (by omega)) (by omega))) ((rk_cg (rk_cg hR1 (xst_nq (by omega)) (xst_row (by omega))) (xst_nq (by omega)) (xst_row (by omega)))) (fun p hp => (congrFun ((xst_row (by decide)).trans (xst_row (by decide))) p).trans (hrk p hp)) (by rw [ft_y (by omega) (by (first | exact ⟨by omega, by omega, by omega, by omega⟩ | omega))]; exact (rw_add hw1 (by omega) (xst_same ..) (fun j => by rw [xst_row (by decide), xst_eq]; by_cases e : j = (((rkl V).take k.toNat).filter fun i : Nat => decide ((i : Int) < up ∧ V 9 i = 0 ∧ V 4 i = sh ∧ (w = 0 ∨ t - w < V 8 i))).length; rw [if_pos ⟨rfl, e⟩, if_pos e]; rw [if_neg (fun h => e h.2), if_neg e])))
  refine x_sub [(0, xR 195), (1, xI sh), (2, xI t), (3, xI w), (4, xI up), (5, xI 0)] [1, 2, 3, 4, 5, 0] rfl ?_
  exact loop11 _ 0 (xst M1 195 8 0) rfl (by omega) ((mfr_st (mfr_tr (mfr_refl _) h1.2.1) (by omega))) ((rk_cg h1.2.2 (xst_nq (by omega)) (xst_row (by omega)))) (fun p hp => (congrFun (xst_row (by decide)) p).trans (srt_one h1.1 hs p (by omega))) ((rw_nil (xst_same ..)))
set_option maxRecDepth 100000 in
set_option maxHeartbeats 4000000 in
theorem kX7_laysAlive (D : xD) (l : Launch) {n : Nat} {T : xT} {M : xM} (V : xM) (sh : Int) (hY : LayOK n T) (hN : mrel (M 196) V) (hv : VOK V) (hs : Srt V (V 10) (V 0 10).toNat) (hR : Rk M V) (hsh : okS sh) : xC D l uX7_laysAlive 7 170 0 0 [xR 195, xI sh] n T M (xPV n T (fun M2 => (Rw M2 (alN V sh)) ∧ mfx 204 M M2 ∧ Rk M2 V)) := by
  refine x_met uX7_laysAlive (by decide) (Nat.le_of_ble_eq_true rfl) ?_
  intro Γ G Rt _
  have G : xG Γ RX7 cX7_laysAlive 2 7 170 0 0 := G
  have Rt : xRt Γ (xPV n T (fun M2 => (Rw M2 (alN V sh)) ∧ mfx 204 M M2 ∧ Rk M2 V)) none 0 0 := Rt
  show xX Γ 0 0 n T 0 [(0, xR 195), (1, xI sh)] [] M
  have hc := ok_c hv
  have hsc := hv.1
  have hsw := ok_s hv hsh.1 hsh.2
  refine x_aload_n G 0 rfl rfl dX7_laysAlive_0 ?_
  refine x_iload_n G 1 rfl rfl dX7_laysAlive_1 ?_
  refine x_aload_n G 0 rfl rfl dX7_laysAlive_2 ?_
  refine x_get G (xR 196) xf7_0 lk_X7_7 (ly_n hY 195 (by decide)) (ly_k hY 195 (by decide)) (Or.inr ⟨rfl, _, (ly_r hY 195 0 (by decide) (by decide)), rfl⟩) dX7_laysAlive_3 ?_
  refine x_iconst G (by decide) dX7_laysAlive_6 ?_
  refine x_iald G (ly_n hY 196 (by decide)) (ly_k hY 196 (by decide)) (show _ = 511 from ly_l hY 196 (by decide)) (by omega) (by omega) dX7_laysAlive_7 ?_
  show xX Γ 0 0 n T 8 [(0, xR 195), (1, xI sh)] [xI (M 196 0), xI sh, xR 195] M
  rw [show M 196 0 = (V 0 11) from hN.1.1]
  refine x_aload_n G 0 rfl rfl dX7_laysAlive_8 ?_
  refine x_get G (xR 196) xf7_0 lk_X7_7 (ly_n hY 195 (by decide)) (ly_k hY 195 (by decide)) (Or.inr ⟨rfl, _, (ly_r hY 195 0 (by decide) (by decide)), rfl⟩) dX7_laysAlive_9 ?_
  refine x_bipush G (by decide) dX7_laysAlive_12 ?_
  refine x_iload_n G 1 rfl rfl dX7_laysAlive_14 ?_
  refine x_iadd G (by omega) dX7_laysAlive_15 ?_
  refine x_iald G (ly_n hY 196 (by decide)) (ly_k hY 196 (by decide)) (show _ = 511 from ly_l hY 196 (by decide)) (by omega) (by omega) dX7_laysAlive_16 ?_
  rw [show M 196 (7 + sh).toNat = (V 12 sh.toNat) from (mr_wd hN (by omega))]
  refine x_aload_n G 0 rfl rfl dX7_laysAlive_17 ?_
  refine x_get G (xR 196) xf7_0 lk_X7_7 (ly_n hY 195 (by decide)) (ly_k hY 195 (by decide)) (Or.inr ⟨rfl, _, (ly_r hY 195 0 (by decide) (by decide)), rfl⟩) dX7_laysAlive_18 ?_
  refine x_iconst G (by decide) dX7_laysAlive_21 ?_
  refine x_iald G (ly_n hY 196 (by decide)) (ly_k hY 196 (by decide)) (show _ = 511 from ly_l hY 196 (by decide)) (by omega) (by omega) dX7_laysAlive_22 ?_
  show xX Γ 0 0 n T 23 [(0, xR 195), (1, xI sh)] [xI (M 196 2), xI (V 12 sh.toNat), xI (V 0 11), xI sh, xR 195] M
  rw [show M 196 2 = (V 0 10) from hN.1.2.2]
  refine x_callVV G [] [xI sh, xI (V 0 11), xI (V 12 sh.toNat), xI (V 0 10)] rfl (by decide) (ly_n hY 195 (by decide)) (ly_k hY 195 (by decide)) hy_X7_lays hi_X7_lays hs_X7_lays ml_X7_124 rfl rfl (kX7_lays _ _ V sh (V 0 11) (V 12 sh.toNat) (V 0 10) hY hN hv hs hR (by omega) (by omega) (by omega)) (by decide) (by decide) (Nat.le_of_ble_eq_true rfl) dX7_laysAlive_23 (fun M23 h23 => ?_)
  have hn23 := h23.1.1
  have hl23 : (alL V sh (V 0 11) (V 12 sh.toNat) (V 0 10)).length ≤ 100 := alL_len hv _ _ _ _
  exact x_vret G Rt dX7_laysAlive_26 ⟨rfl, rfl, rfl, ⟨h23.1, (mfr_tr (mfr_refl _) h23.2.1), h23.2.2⟩⟩
set_option maxRecDepth 100000 in
set_option maxHeartbeats 4000000 in
theorem kX7_laysSample (D : xD) (l : Launch) {n : Nat} {T : xT} {M : xM} (V : xM) (sh : Int) (hY : LayOK n T) (hN : mrel (M 196) V) (hv : VOK V) (hs : Srt V (V 10) (V 0 10).toNat) (hR : Rk M V) (hsh : okS sh) : xC D l uX7_laysSample 8 191 0 0 [xR 195, xI sh] n T M (xPV n T (fun M2 => (Rw M2 (smL V sh)) ∧ mfx 204 M M2 ∧ Rk M2 V)) := by
  refine x_met uX7_laysSample (by decide) (Nat.le_of_ble_eq_true rfl) ?_
  intro Γ G Rt _
  have G : xG Γ RX7 cX7_laysSample 2 8 191 0 0 := G
  have Rt : xRt Γ (xPV n T (fun M2 => (Rw M2 (smL V sh)) ∧ mfx 204 M M2 ∧ Rk M2 V)) none 0 0 := Rt
  show xX Γ 0 0 n T 0 [(0, xR 195), (1, xI sh)] [] M
  have hc := ok_c hv
  have hsc := hv.1
  have hsw := ok_s hv hsh.1 hsh.2
  refine x_aload_n G 0 rfl rfl dX7_laysSample_0 ?_
  refine x_iload_n G 1 rfl rfl dX7_laysSample_1 ?_
  refine x_callVV G [] [xI sh] rfl (by decide) (ly_n hY 195 (by decide)) (ly_k hY 195 (by decide)) hy_X7_laysAlive hi_X7_laysAlive hs_X7_laysAlive ml_X7_128 rfl rfl (kX7_laysAlive _ _ V sh hY hN hv hs hR (by omega)) (by decide) (by decide) (Nat.le_of_ble_eq_true rfl) dX7_laysSample_2 (fun M2 h2 => ?_)
  have hn2 := h2.1.1
  have hl2 : (alN V sh).length ≤ 100 := alL_len hv _ _ _ _
  refine x_aload_n G 0 rfl rfl dX7_laysSample_5 ?_
  refine x_aload_n G 0 rfl rfl dX7_laysSample_6 ?_
  refine x_get G (xR 196) xf7_0 lk_X7_7 (ly_n hY 195 (by decide)) (ly_k hY 195 (by decide)) (Or.inr ⟨rfl, _, (ly_r hY 195 0 (by decide) (by decide)), rfl⟩) dX7_laysSample_7 ?_
  refine x_iconst G (by decide) dX7_laysSample_10 ?_
  refine x_iload_n G 1 rfl rfl dX7_laysSample_11 ?_
  refine x_iadd G (by omega) dX7_laysSample_12 ?_
  refine x_iald G (ly_n hY 196 (by decide)) (ly_k hY 196 (by decide)) (show _ = 511 from ly_l hY 196 (by decide)) (by omega) (by omega) dX7_laysSample_13 ?_
  rw [show M2 196 (3 + sh).toNat = (V 11 sh.toNat) from (mr_sz (mr_cg hN (h2.2.1.1 196 (by omega))) (by omega))]
  refine x_callVV G [] [xI (V 11 sh.toNat)] rfl (by decide) (ly_n hY 195 (by decide)) (ly_k hY 195 (by decide)) hy_X7_cuts hi_X7_cuts hs_X7_cuts ml_X7_131 rfl rfl (kX7_cuts _ _ (alN V sh) (V 11 sh.toNat) hY h2.1 hl2 (by omega)) (by decide) (by decide) (Nat.le_of_ble_eq_true rfl) dX7_laysSample_14 (fun M14 h14 => ?_)
  subst h14
  show xX Γ 0 0 n T 17 [(0, xR 195), (1, xI sh)] [] (xst M2 195 8 (((alN V sh).take (V 11 sh.toNat).toNat).length : Int))
  exact x_vret G Rt dX7_laysSample_17 ⟨rfl, rfl, rfl, ⟨(rw_take h2.1 (xst_same ..) (xst_row (by decide))), (mfr_st (mfr_tr (mfr_refl _) h2.2.1) (by omega)), (rk_cg h2.2.2 (xst_nq (by omega)) (xst_row (by omega)))⟩⟩
theorem qpl_no {L : List Nat} {i : Nat} (h : ∀ j, j < L.length → L.getD j 0 ≠ i) : qPl L i = -2 := by
  rw [plc_q, plc_no h]; rfl
theorem qpl_at {L : List Nat} {i k : Nat} (h : ∀ j, j < k → L.getD j 0 ≠ i) (hk : k < L.length) (e : L.getD k 0 = i) : qPl L i = k := by
  rw [plc_q, plc_at h hk e, if_neg (by omega)]
set_option maxRecDepth 100000 in
set_option maxHeartbeats 4000000 in
theorem kX7_placeOf (D : xD) (l : Launch) {n : Nat} {T : xT} {M : xM} (L : List Nat) (i : Int) (hY : LayOK n T) (hw : Rw M L) (hl : L.length ≤ 100) (hi : 0 ≤ i) : xC D l uX7_placeOf 0 0 0 0 [xR 195, xI i] n T M (xPp n T M (qPl L i.toNat)) := by
  refine x_met uX7_placeOf (by decide) (Nat.le_of_ble_eq_true rfl) ?_
  intro Γ G Rt _
  have G : xG Γ RX7 cX7_placeOf 3 0 0 0 0 := G
  have Rt : xRt Γ (xPp n T M (qPl L i.toNat)) (some .int) 0 0 := Rt
  show xX Γ 0 0 n T 0 [(0, xR 195), (1, xI i)] [] M
  have hwn := hw.1
  refine x_iconst G (by decide) dX7_placeOf_0 ?_
  refine x_istore_n G [(2, xI 0), (0, xR 195), (1, xI i)] rfl (by decide) rfl dX7_placeOf_1 ?_
  have loop2 : ∀ (d : Nat) (k : Int), (L.length - k).toNat = d → (0 ≤ k ∧ k ≤ L.length) → (∀ j : Nat, (j : Int) < k → L.getD j 0 ≠ i.toNat) → xX Γ 0 0 n T 2 [(0, xR 195), (1, xI i), (2, xI k)] [] M := by
    intro d
    induction d using Nat.strongRecOn with
    | ind d ih2 =>
    intro k hd2 hk hno
    refine x_iload_n G 2 rfl rfl dX7_placeOf_2 ?_
    refine x_aload_n G 0 rfl rfl dX7_placeOf_3 ?_
    refine x_get G (xI (M 195 8)) xf7_8 lk_X7_103 (ly_n hY 195 (by decide)) (ly_k hY 195 (by decide)) (Or.inl ⟨rfl, rfl⟩) dX7_placeOf_4 ?_
    rw [show M 195 8 = (L.length : Int) from hw.1]
    refine x_icmp_ge G 28 (by decide) dX7_placeOf_7 (fun c7 => ?_) (fun c7 => ?_)
    · skip
      refine x_bipush G (by decide) dX7_placeOf_28 ?_
      exact x_iret G Rt dX7_placeOf_30 ⟨rfl, rfl, congrArg (fun z => some (xI z)) ((qpl_no (fun j hj => hno j (by omega))).symm), rfl⟩
    · skip
      refine x_aload_n G 0 rfl rfl dX7_placeOf_10 ?_
      refine x_get G (xR 202) xf7_7 lk_X7_29 (ly_n hY 195 (by decide)) (ly_k hY 195 (by decide)) (Or.inr ⟨rfl, _, (ly_r hY 195 7 (by decide) (by decide)), rfl⟩) dX7_placeOf_11 ?_
      refine x_iload_n G 2 rfl rfl dX7_placeOf_14 ?_
      refine x_iald G (ly_n hY 202 (by decide)) (ly_k hY 202 (by decide)) (show _ = 100 from ly_l hY 202 (by decide)) (by omega) (by omega) dX7_placeOf_15 ?_
      rw [show M 202 k.toNat = ((L.getD k.toNat 0 : Nat) : Int) from (hw.2 k.toNat (by omega))]
      refine x_iload_n G 1 rfl rfl dX7_placeOf_16 ?_
      refine x_icmp_ne G 22 (by decide) dX7_placeOf_17 (fun c17 => ?_) (fun c17 => ?_)
      · skip
        refine x_iinc G [(2, xI (k + 1)), (0, xR 195), (1, xI i)] 2 rfl (by decide) (by omega) rfl dX7_placeOf_22 ?_
        refine x_goto G 2 (by decide) dX7_placeOf_25 ?_
        refine x_sub [(0, xR 195), (1, xI i), (2, xI (k + 1))] [1, 2, 0] rfl ?_
        exact ih2 _ (by omega) (k + 1) rfl (by omega) (by intro j hj; rcases Int.lt_or_le j k with g | g; exact hno j g; have e : j = k.toNat := (by omega); rw [e]; omega)
      · skip
        refine x_iload_n G 2 rfl rfl dX7_placeOf_20 ?_
        exact x_iret G Rt dX7_placeOf_21 ⟨rfl, rfl, congrArg (fun z => some (xI z)) (by rw [qpl_at (k := k.toNat) (fun j hj => hno j (by omega)) (by omega) (by omega)]; omega), rfl⟩
  refine x_sub [(0, xR 195), (1, xI i), (2, xI 0)] [1, 2, 0] rfl ?_
  exact loop2 _ 0 rfl (by omega) (by intro j hj; omega)
set_option maxRecDepth 100000 in
set_option maxHeartbeats 4000000 in
theorem kX7_toldOf (D : xD) (l : Launch) {n : Nat} {T : xT} {M : xM} (L : List Nat) (k : Int) (hY : LayOK n T) (hw : Rw M L) (hl : L.length ≤ 100) (hk : -1 ≤ k) : xC D l uX7_toldOf 0 0 0 0 [xR 195, xI k] n T M (xPp n T M (kth L k)) := by
  refine x_met uX7_toldOf (by decide) (Nat.le_of_ble_eq_true rfl) ?_
  intro Γ G Rt _
  have G : xG Γ RX7 cX7_toldOf 2 0 0 0 0 := G
  have Rt : xRt Γ (xPp n T M (kth L k)) (some .int) 0 0 := Rt
  show xX Γ 0 0 n T 0 [(0, xR 195), (1, xI k)] [] M
  have hwn := hw.1
  refine x_iload_n G 1 rfl rfl dX7_toldOf_0 ?_
  refine x_iconst G (by decide) dX7_toldOf_1 ?_
  refine x_icmp_ne G 12 (by decide) dX7_toldOf_2 (fun c2 => ?_) (fun c2 => ?_)
  · skip
    refine x_iload_n G 1 rfl rfl dX7_toldOf_12 ?_
    refine x_aload_n G 0 rfl rfl dX7_toldOf_13 ?_
    refine x_get G (xI (M 195 8)) xf7_8 lk_X7_103 (ly_n hY 195 (by decide)) (ly_k hY 195 (by decide)) (Or.inl ⟨rfl, rfl⟩) dX7_toldOf_14 ?_
    rw [show M 195 8 = (L.length : Int) from hw.1]
    refine x_icmp_ge G 29 (by decide) dX7_toldOf_17 (fun c17 => ?_) (fun c17 => ?_)
    · skip
      refine x_bipush G (by decide) dX7_toldOf_29 ?_
      exact x_iret G Rt dX7_toldOf_31 ⟨rfl, rfl, congrArg (fun z => some (xI z)) (by unfold kth; (repeat (first | rw [if_pos (by omega)] | rw [if_neg (by omega)])) <;> try rfl), rfl⟩
    · skip
      refine x_aload_n G 0 rfl rfl dX7_toldOf_20 ?_
      refine x_get G (xR 202) xf7_7 lk_X7_29 (ly_n hY 195 (by decide)) (ly_k hY 195 (by decide)) (Or.inr ⟨rfl, _, (ly_r hY 195 7 (by decide) (by decide)), rfl⟩) dX7_toldOf_21 ?_
      refine x_iload_n G 1 rfl rfl dX7_toldOf_24 ?_
      refine x_iald G (ly_n hY 202 (by decide)) (ly_k hY 202 (by decide)) (show _ = 100 from ly_l hY 202 (by decide)) (by omega) (by omega) dX7_toldOf_25 ?_
      rw [show M 202 k.toNat = ((L.getD k.toNat 0 : Nat) : Int) from (hw.2 k.toNat (by omega))]
      refine x_goto G 31 (by decide) dX7_toldOf_26 ?_
      exact x_iret G Rt dX7_toldOf_31 ⟨rfl, rfl, congrArg (fun z => some (xI z)) (by unfold kth; (repeat (first | rw [if_pos (by omega)] | rw [if_neg (by omega)])) <;> try rfl), rfl⟩
  · skip
    refine x_aload_n G 0 rfl rfl dX7_toldOf_5 ?_
    refine x_get G (xI (M 195 8)) xf7_8 lk_X7_103 (ly_n hY 195 (by decide)) (ly_k hY 195 (by decide)) (Or.inl ⟨rfl, rfl⟩) dX7_toldOf_6 ?_
    rw [show M 195 8 = (L.length : Int) from hw.1]
    refine x_goto G 31 (by decide) dX7_toldOf_9 ?_
    exact x_iret G Rt dX7_toldOf_31 ⟨rfl, rfl, congrArg (fun z => some (xI z)) (by unfold kth; (repeat (first | rw [if_pos (by omega)] | rw [if_neg (by omega)])) <;> try rfl), rfl⟩
