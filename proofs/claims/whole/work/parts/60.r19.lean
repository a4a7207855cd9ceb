set_option maxRecDepth 100000 in
set_option maxHeartbeats 4000000 in
theorem kX7_lots (D : xD) (l : Launch) {n : Nat} {T : xT} {M : xM} (V : xM) (i w : Int) (hY : LayOK n T) (hN : mrel (M 196) V) (hv : VOK V) (hs : Srt V (V 10) (V 0 10).toNat) (hR : Rk M V) : xC D l uX7_lots 4 100 0 0 [xR 195, xI i, xI w] n T M (xPI n T (fun z M2 => (qLots V i w z) ∧ mfr M M2 ∧ Rk M2 V)) := by
  refine x_met uX7_lots (by decide) (Nat.le_of_ble_eq_true rfl) ?_
  intro Γ G Rt _
  have G : xG Γ RX7 cX7_lots 5 4 100 0 0 := G
  have Rt : xRt Γ (xPI n T (fun z M2 => (qLots V i w z) ∧ mfr M M2 ∧ Rk M2 V)) (some .int) 0 0 := Rt
  show xX Γ 0 0 n T 0 [(0, xR 195), (1, xI i), (2, xI w)] [] M
  have hc := ok_c hv
  refine x_aload_n G 0 rfl rfl dX7_lots_0 ?_
  refine x_iload_n G 1 rfl rfl dX7_lots_1 ?_
  refine x_callVp G [] [xI i] rfl (by decide) (ly_n hY 195 (by decide)) (ly_k hY 195 (by decide)) hy_X7_isItem hi_X7_isItem hs_X7_isItem ml_X7_66 rfl rfl (kX7_isItem _ _ V i hY hN hv) (by decide) (by decide) (Nat.le_of_ble_eq_true rfl) dX7_lots_2 ?_
  refine x_if_eq G 20 (by decide) dX7_lots_5 (fun c5 => ?_) (fun c5 => ?_)
  · skip
    have c5 := b2i_eq0.mp c5
    refine x_iconst G (by decide) dX7_lots_20 ?_
    exact x_iret G Rt dX7_lots_21 ⟨rfl, rfl, _, rfl, ⟨Or.inr ⟨by omega, rfl⟩, (mfr_refl _), hR⟩⟩
  · skip
    have c5 := b2i_ne0.mp c5
    refine x_iload_n G 2 rfl rfl dX7_lots_8 ?_
    refine x_i2l G dX7_lots_9 ?_
    refine x_lconst G dX7_lots_10 ?_
    show xX Γ 0 0 n T 11 [(0, xR 195), (1, xI i), (2, xI w)] [xL 1, xL w] M
    refine x_ldc2 G (z := 20) (by decide) kc_X7_161 dX7_lots_11 ?_
    refine x_callSp G [] [xL w, xL 1, xL 20] hy_X7_in ht_X7_in ml_X7_54 rfl rfl (kX7_in _ _ w 1 20) (by decide) (by decide) (Nat.le_of_ble_eq_true rfl) dX7_lots_14 ?_
    refine x_if_ne G 22 (by decide) dX7_lots_17 (fun c17 => ?_) (fun c17 => ?_)
    · skip
      have c17 := b2i_ne0.mp c17
      refine x_aload_n G 0 rfl rfl dX7_lots_22 ?_
      refine x_iload_n G 1 rfl rfl dX7_lots_23 ?_
      refine x_callVp G [] [xI i] rfl (by decide) (ly_n hY 195 (by decide)) (ly_k hY 195 (by decide)) hy_X7_isDropped hi_X7_isDropped hs_X7_isDropped ml_X7_70 rfl rfl (kX7_isDropped _ _ V i hY hN hv (by omega)) (by decide) (by decide) (Nat.le_of_ble_eq_true rfl) dX7_lots_24 ?_
      refine x_if_eq G 33 (by decide) dX7_lots_27 (fun c27 => ?_) (fun c27 => ?_)
      · skip
        have c27 := b2i_eq0.mp c27
        have hit := ok_i hv (i := i) (by omega) (by omega)
        have h9 : V 9 i.toNat = 0 := Decidable.not_not.mp c27
        obtain ⟨c, hcc⟩ := pGt_cut w (V 7 i.toNat) (V 6 i.toNat)
        have hcr := hcc.1
        refine x_iconst G (by decide) dX7_lots_33 ?_
        refine x_istore_n G [(3, xI 0), (0, xR 195), (1, xI i), (2, xI w)] rfl (by decide) rfl dX7_lots_34 ?_
        refine x_iconst G (by decide) dX7_lots_35 ?_
        refine x_istore G [(4, xI 1), (3, xI 0), (0, xR 195), (1, xI i), (2, xI w)] (by decide) rfl dX7_lots_36 ?_
        have loop38 : ∀ (d : Nat) (k : Int) (q : Int) (N1 : xM), (1024 - k).toNat = d → (1 ≤ k ∧ k ≤ 1024) → ((k ≤ c + 1 ∧ q = 0) ∨ (c < k ∧ q = k - 1 - c)) → (mfr M N1) → (Rk N1 V) → xX Γ 0 0 n T 38 [(0, xR 195), (1, xI i), (2, xI w), (3, xI q), (4, xI k)] [] N1 := by
          intro d
          induction d using Nat.strongRecOn with
          | ind d ih38 =>
          intro k q N1 hd38 hk hq hf1 hR1
          skip
          refine x_iload G 4 rfl dX7_lots_38 ?_
          refine x_sipush G (by decide) dX7_lots_40 ?_
          refine x_icmp_gt G 73 (by decide) dX7_lots_43 (fun c43 => ?_) (fun c43 => ?_)
          · skip
            refine x_iload_n G 3 rfl rfl dX7_lots_73 ?_
            exact x_iret G Rt dX7_lots_74 ⟨rfl, rfl, _, rfl, ⟨Or.inl ⟨by omega, by omega, Or.inr ⟨h9, by rw [show 1023 - q = c by omega]; exact hcc⟩⟩, hf1, hR1⟩⟩
          · skip
            refine x_iload_n G 3 rfl rfl dX7_lots_46 ?_
            refine x_aload_n G 0 rfl rfl dX7_lots_47 ?_
            refine x_bipush G (by decide) dX7_lots_48 ?_
            refine x_iload G 4 rfl dX7_lots_50 ?_
            refine x_iload_n G 2 rfl rfl dX7_lots_52 ?_
            refine x_iload_n G 1 rfl rfl dX7_lots_53 ?_
            refine x_callVI G [xI q] [xI 100, xI k, xI w, xI i] rfl (by decide) (ly_n hY 195 (by decide)) (ly_k hY 195 (by decide)) hy_X7_isAhead hi_X7_isAhead hs_X7_isAhead ml_X7_90 rfl rfl (kX7_isAhead _ _ V 100 k w i hY (mr_cg hN (hf1.1 196 (by omega))) hv (by omega) (by omega) (by omega)) (by decide) (by decide) (Nat.le_of_ble_eq_true rfl) dX7_lots_54 (fun z54 M54 h54 => ?_)
            rw [h54.1]
            have hpk : (0 < kc k w (V 7 i.toNat) (V 6 i.toNat) ∨ (kc k w (V 7 i.toNat) (V 6 i.toNat) = 0 ∧ 100 < i)) ↔ c < k := by (constructor; (intro h; rcases Int.lt_or_le c k with g | g; exact g; exact absurd (show pGt w (V 7 i.toNat) (V 6 i.toNat) k by rcases h with h | h; exact h; omega) (hcc.2.1 k (by omega) g)); (intro g; exact Or.inl (hcc.2.2 k g (by omega))))
            refine x_if_eq G 64 (by decide) dX7_lots_57 (fun c57 => ?_) (fun c57 => ?_)
            · skip
              have c57 := b2i_eq0.mp c57
              have hck : ¬ c < k := fun g => c57 (hpk.mpr g)
              refine x_iconst G (by decide) dX7_lots_64 ?_
              refine x_iadd G (by omega) dX7_lots_65 ?_
              refine x_istore_n G [(3, xI (q + 0)), (0, xR 195), (1, xI i), (2, xI w), (4, xI k)] rfl (by decide) rfl dX7_lots_66 ?_
              refine x_iinc G [(4, xI (k + 1)), (3, xI (q + 0)), (0, xR 195), (1, xI i), (2, xI w)] 4 rfl (by decide) (by omega) rfl dX7_lots_67 ?_
              refine x_goto G 38 (by decide) dX7_lots_70 ?_
              refine x_sub [(0, xR 195), (1, xI i), (2, xI w), (3, xI (q + 0)), (4, xI (k + 1))] [2, 3, 4, 1, 0] rfl ?_
              exact ih38 _ (by omega) (k + 1) (q + 0) M54 rfl (by omega) (by omega) ((mfr_of hf1 h54.2 (by decide))) ((rk_cg hR1 (congrFun (h54.2 195 (by simp)) 10) (h54.2 203 (by simp))))
            · skip
              have c57 := b2i_ne0.mp c57
              have hck : c < k := hpk.mp c57
              refine x_iconst G (by decide) dX7_lots_60 ?_
              refine x_goto G 65 (by decide) dX7_lots_61 ?_
              refine x_iadd G (by omega) dX7_lots_65 ?_
              refine x_istore_n G [(3, xI (q + 1)), (0, xR 195), (1, xI i), (2, xI w), (4, xI k)] rfl (by decide) rfl dX7_lots_66 ?_
              refine x_iinc G [(4, xI (k + 1)), (3, xI (q + 1)), (0, xR 195), (1, xI i), (2, xI w)] 4 rfl (by decide) (by omega) rfl dX7_lots_67 ?_
              refine x_goto G 38 (by decide) dX7_lots_70 ?_
              refine x_sub [(0, xR 195), (1, xI i), (2, xI w), (3, xI (q + 1)), (4, xI (k + 1))] [2, 3, 4, 1, 0] rfl ?_
              exact ih38 _ (by omega) (k + 1) (q + 1) M54 rfl (by omega) (by omega) ((mfr_of hf1 h54.2 (by decide))) ((rk_cg hR1 (congrFun (h54.2 195 (by simp)) 10) (h54.2 203 (by simp))))
        refine x_sub [(0, xR 195), (1, xI i), (2, xI w), (3, xI 0), (4, xI 1)] [2, 3, 4, 1, 0] rfl ?_
        exact loop38 _ 1 0 M rfl (by omega) (by omega) ((mfr_refl _)) (hR)
      · skip
        have c27 := b2i_ne0.mp c27
        refine x_bipush G (by decide) dX7_lots_30 ?_
        exact x_iret G Rt dX7_lots_32 ⟨rfl, rfl, _, rfl, ⟨Or.inl ⟨by omega, by omega, Or.inl ⟨c27, rfl⟩⟩, (mfr_refl _), hR⟩⟩
    · skip
      have c17 := b2i_eq0.mp c17
      refine x_iconst G (by decide) dX7_lots_20 ?_
      exact x_iret G Rt dX7_lots_21 ⟨rfl, rfl, _, rfl, ⟨Or.inr ⟨by omega, rfl⟩, (mfr_refl _), hR⟩⟩
set_option maxRecDepth 100000 in
set_option maxHeartbeats 4000000 in
theorem kX7_kindsOf (D : xD) (l : Launch) {n : Nat} {T : xT} {M : xM} (V : xM) (sh m : Int) (hY : LayOK n T) (hN : mrel (M 196) V) (hv : VOK V) (hs : Srt V (V 10) (V 0 10).toNat) (hR : Rk M V) (hsh : okS sh) (hm : 1 ≤ m ∧ m ≤ 12) : xC D l uX7_kindsOf 8 191 0 0 [xR 195, xI sh, xI m] n T M (xPI n T (fun z M2 => z = kdL V ((alN V sh).take m.toNat) ∧ mfr M M2 ∧ Rk M2 V)) := by
  refine x_met uX7_kindsOf (by decide) (Nat.le_of_ble_eq_true rfl) ?_
  intro Γ G Rt _
  have G : xG Γ RX7 cX7_kindsOf 5 8 191 0 0 := G
  have Rt : xRt Γ (xPI n T (fun z M2 => z = kdL V ((alN V sh).take m.toNat) ∧ mfr M M2 ∧ Rk M2 V)) (some .int) 0 0 := Rt
  show xX Γ 0 0 n T 0 [(0, xR 195), (1, xI sh), (2, xI m)] [] M
  have hc := ok_c hv
  refine x_aload_n G 0 rfl rfl dX7_kindsOf_0 ?_
  refine x_iload_n G 1 rfl rfl dX7_kindsOf_1 ?_
  refine x_callVV G [] [xI sh] rfl (by decide) (ly_n hY 195 (by decide)) (ly_k hY 195 (by decide)) hy_X7_laysAlive hi_X7_laysAlive hs_X7_laysAlive ml_X7_128 rfl rfl (kX7_laysAlive _ _ V sh hY hN hv hs hR (by omega)) (by decide) (by decide) (Nat.le_of_ble_eq_true rfl) dX7_kindsOf_2 (fun M2 h2 => ?_)
  have hn2 := h2.1.1
  have hl2 : (alN V sh).length ≤ 100 := alL_len hv _ _ _ _
  refine x_aload_n G 0 rfl rfl dX7_kindsOf_5 ?_
  refine x_iload_n G 2 rfl rfl dX7_kindsOf_6 ?_
  refine x_callVV G [] [xI m] rfl (by decide) (ly_n hY 195 (by decide)) (ly_k hY 195 (by decide)) hy_X7_cuts hi_X7_cuts hs_X7_cuts ml_X7_131 rfl rfl (kX7_cuts _ _ (alN V sh) m hY h2.1 hl2 (by omega)) (by decide) (by decide) (Nat.le_of_ble_eq_true rfl) dX7_kindsOf_7 (fun M7 h7 => ?_)
  subst h7
  show xX Γ 0 0 n T 10 [(0, xR 195), (1, xI sh), (2, xI m)] [] (xst M2 195 8 (((alN V sh).take m.toNat).length : Int))
  refine x_iconst G (by decide) dX7_kindsOf_10 ?_
  refine x_istore_n G [(3, xI 0), (0, xR 195), (1, xI sh), (2, xI m)] rfl (by decide) rfl dX7_kindsOf_11 ?_
  refine x_iconst G (by decide) dX7_kindsOf_12 ?_
  refine x_istore G [(4, xI 0), (3, xI 0), (0, xR 195), (1, xI sh), (2, xI m)] (by decide) rfl dX7_kindsOf_13 ?_
  have loop15 : ∀ (d : Nat) (k : Int) (q : Int), (26 - k).toNat = d → (0 ≤ k ∧ k ≤ 26) → (q = fb_si (fun j => b2i (0 < lb1 V ((alN V sh).take m.toNat) j)) k.toNat) → xX Γ 0 0 n T 15 [(0, xR 195), (1, xI sh), (2, xI m), (3, xI q), (4, xI k)] [] (xst M2 195 8 (((alN V sh).take m.toNat).length : Int)) := by
    intro d
    induction d using Nat.strongRecOn with
    | ind d ih15 =>
    intro k q hd15 hk hn
    have hb := si_b (fun j => 0 < lb1 V ((alN V sh).take m.toNat) j) k.toNat
    refine x_iload G 4 rfl dX7_kindsOf_15 ?_
    refine x_bipush G (by decide) dX7_kindsOf_17 ?_
    refine x_icmp_ge G 45 (by decide) dX7_kindsOf_19 (fun c19 => ?_) (fun c19 => ?_)
    · skip
      refine x_iload_n G 3 rfl rfl dX7_kindsOf_45 ?_
      exact x_iret G Rt dX7_kindsOf_46 ⟨rfl, rfl, _, rfl, ⟨(by unfold kdL; rw [hn, show k.toNat = 26 by omega]), (mfr_st (mfr_tr (mfr_refl _) (mfx_w 207 h2.2.1 (by decide))) (by omega)), (rk_cg h2.2.2 (xst_nq (by omega)) (xst_row (by omega)))⟩⟩
    · skip
      refine x_iload_n G 3 rfl rfl dX7_kindsOf_22 ?_
      refine x_aload_n G 0 rfl rfl dX7_kindsOf_23 ?_
      refine x_iload G 4 rfl dX7_kindsOf_24 ?_
      refine x_callVp G [xI q] [xI k] rfl (by decide) (ly_n hY 195 (by decide)) (ly_k hY 195 (by decide)) hy_X7_labelled hi_X7_labelled hs_X7_labelled ml_X7_158 rfl rfl (kX7_labelled _ _ V ((alN V sh).take m.toNat) k hY (mr_cg (mr_cg hN (h2.2.1.1 196 (by omega))) (xst_row (by omega))) hv (rw_take h2.1 (xst_same ..) (xst_row (by decide))) (take_len hl2) (fun i hi => al_it hs (List.mem_of_mem_take hi))) (by decide) (by decide) (Nat.le_of_ble_eq_true rfl) dX7_kindsOf_26 ?_
      refine x_if_le G 36 (by decide) dX7_kindsOf_29 (fun c29 => ?_) (fun c29 => ?_)
      · skip
        refine x_iconst G (by decide) dX7_kindsOf_36 ?_
        refine x_iadd G (by omega) dX7_kindsOf_37 ?_
        refine x_istore_n G [(3, xI (q + 0)), (0, xR 195), (1, xI sh), (2, xI m), (4, xI k)] rfl (by decide) rfl dX7_kindsOf_38 ?_
        refine x_iinc G [(4, xI (k + 1)), (3, xI (q + 0)), (0, xR 195), (1, xI sh), (2, xI m)] 4 rfl (by decide) (by omega) rfl dX7_kindsOf_39 ?_
        refine x_goto G 15 (by decide) dX7_kindsOf_42 ?_
        refine x_sub [(0, xR 195), (1, xI sh), (2, xI m), (3, xI (q + 0)), (4, xI (k + 1))] [2, 3, 4, 1, 0] rfl ?_
        exact ih15 _ (by omega) (k + 1) (q + 0) rfl (by omega) (by (have hkk : ((k.toNat : Nat) : Int) = k := by omega); first | exact si_y hk.1 hn (by rw [hkk]; exact c29) | (have h8 := si_n (p := fun j => 0 < lb1 V ((alN V sh).take m.toNat) j) hk.1 hn (by rw [hkk]; omega); omega))
      · skip
        refine x_iconst G (by decide) dX7_kindsOf_32 ?_
        refine x_goto G 37 (by decide) dX7_kindsOf_33 ?_
        refine x_iadd G (by omega) dX7_kindsOf_37 ?_
        refine x_istore_n G [(3, xI (q + 1)), (0, xR 195), (1, xI sh), (2, xI m), (4, xI k)] rfl (by decide) rfl dX7_kindsOf_38 ?_
        refine x_iinc G [(4, xI (k + 1)), (3, xI (q + 1)), (0, xR 195), (1, xI sh), (2, xI m)] 4 rfl (by decide) (by omega) rfl dX7_kindsOf_39 ?_
        refine x_goto G 15 (by decide) dX7_kindsOf_42 ?_
        refine x_sub [(0, xR 195), (1, xI sh), (2, xI m), (3, xI (q + 1)), (4, xI (k + 1))] [2, 3, 4, 1, 0] rfl ?_
        exact ih15 _ (by omega) (k + 1) (q + 1) rfl (by omega) (by (have hkk : ((k.toNat : Nat) : Int) = k := by omega); first | exact si_y hk.1 hn (by rw [hkk]; exact c29) | (have h8 := si_n (p := fun j => 0 < lb1 V ((alN V sh).take m.toNat) j) hk.1 hn (by rw [hkk]; omega); omega))
  refine x_sub [(0, xR 195), (1, xI sh), (2, xI m), (3, xI 0), (4, xI 0)] [2, 3, 4, 1, 0] rfl ?_
  exact loop15 _ 0 0 rfl (by omega) (rfl)
set_option maxRecDepth 100000 in
set_option maxHeartbeats 4000000 in
theorem kX7_kinds (D : xD) (l : Launch) {n : Nat} {T : xT} {M : xM} (V : xM) (sh m : Int) (hY : LayOK n T) (hN : mrel (M 196) V) (hv : VOK V) (hs : Srt V (V 10) (V 0 10).toNat) (hR : Rk M V) : xC D l uX7_kinds 9 215 0 0 [xR 195, xI sh, xI m] n T M (xPI n T (fun z M2 => z = qKinds V sh m ∧ mfr M M2 ∧ Rk M2 V)) := by
  refine x_met uX7_kinds (by decide) (Nat.le_of_ble_eq_true rfl) ?_
  intro Γ G Rt _
  have G : xG Γ RX7 cX7_kinds 3 9 215 0 0 := G
  have Rt : xRt Γ (xPI n T (fun z M2 => z = qKinds V sh m ∧ mfr M M2 ∧ Rk M2 V)) (some .int) 0 0 := Rt
  show xX Γ 0 0 n T 0 [(0, xR 195), (1, xI sh), (2, xI m)] [] M
  have hc := ok_c hv
  refine x_iload_n G 1 rfl rfl dX7_kinds_0 ?_
  refine x_callSp G [] [xI sh] hy_X7_isShard ht_X7_isShard ml_X7_143 rfl rfl (kX7_isShard _ _ sh) (by decide) (by decide) (Nat.le_of_ble_eq_true rfl) dX7_kinds_1 ?_
  refine x_if_eq G 28 (by decide) dX7_kinds_4 (fun c4 => ?_) (fun c4 => ?_)
  · skip
    have c4 := b2i_eq0.mp c4
    refine x_iconst G (by decide) dX7_kinds_28 ?_
    exact x_iret G Rt dX7_kinds_29 ⟨rfl, rfl, _, rfl, ⟨(by unfold qKinds; (repeat (first | rw [if_pos (by omega)] | rw [if_neg (by omega)])) <;> try rfl), (mfr_refl _), hR⟩⟩
  · skip
    have c4 := b2i_ne0.mp c4
    refine x_iload_n G 2 rfl rfl dX7_kinds_7 ?_
    refine x_i2l G dX7_kinds_8 ?_
    refine x_lconst G dX7_kinds_9 ?_
    show xX Γ 0 0 n T 10 [(0, xR 195), (1, xI sh), (2, xI m)] [xL 1, xL m] M
    refine x_ldc2 G (z := 12) (by decide) kc_X7_156 dX7_kinds_10 ?_
    refine x_callSp G [] [xL m, xL 1, xL 12] hy_X7_in ht_X7_in ml_X7_54 rfl rfl (kX7_in _ _ m 1 12) (by decide) (by decide) (Nat.le_of_ble_eq_true rfl) dX7_kinds_13 ?_
    refine x_if_eq G 28 (by decide) dX7_kinds_16 (fun c16 => ?_) (fun c16 => ?_)
    · skip
      have c16 := b2i_eq0.mp c16
      refine x_iconst G (by decide) dX7_kinds_28 ?_
      exact x_iret G Rt dX7_kinds_29 ⟨rfl, rfl, _, rfl, ⟨(by unfold qKinds; (repeat (first | rw [if_pos (by omega)] | rw [if_neg (by omega)])) <;> try rfl), (mfr_refl _), hR⟩⟩
    · skip
      have c16 := b2i_ne0.mp c16
      refine x_aload_n G 0 rfl rfl dX7_kinds_19 ?_
      refine x_iload_n G 1 rfl rfl dX7_kinds_20 ?_
      refine x_iload_n G 2 rfl rfl dX7_kinds_21 ?_
      refine x_callVI G [] [xI sh, xI m] rfl (by decide) (ly_n hY 195 (by decide)) (ly_k hY 195 (by decide)) hy_X7_kindsOf hi_X7_kindsOf hs_X7_kindsOf ml_X7_358 rfl rfl (kX7_kindsOf _ _ V sh m hY hN hv hs hR (by omega) (by omega)) (by decide) (by decide) (Nat.le_of_ble_eq_true rfl) dX7_kinds_22 (fun z22 M22 h22 => ?_)
      rw [h22.1]
      refine x_goto G 29 (by decide) dX7_kinds_25 ?_
      exact x_iret G Rt dX7_kinds_29 ⟨rfl, rfl, _, rfl, ⟨(by unfold qKinds; (repeat (first | rw [if_pos (by omega)] | rw [if_neg (by omega)])) <;> try rfl), (mfr_tr (mfr_refl _) h22.2.1), h22.2.2⟩⟩
set_option maxRecDepth 100000 in
set_option maxHeartbeats 4000000 in
theorem kX7_sizeForKinds (D : xD) (l : Launch) {n : Nat} {T : xT} {M : xM} (V : xM) (sh m : Int) (hY : LayOK n T) (hN : mrel (M 196) V) (hv : VOK V) (hs : Srt V (V 10) (V 0 10).toNat) (hR : Rk M V) : xC D l uX7_sizeForKinds 9 215 0 0 [xR 195, xI sh, xI m] n T M (xPI n T (fun z M2 => (qSfk V sh m z) ∧ mfr M M2 ∧ Rk M2 V)) := by
  refine x_met uX7_sizeForKinds (by decide) (Nat.le_of_ble_eq_true rfl) ?_
  intro Γ G Rt _
  have G : xG Γ RX7 cX7_sizeForKinds 4 9 215 0 0 := G
  have Rt : xRt Γ (xPI n T (fun z M2 => (qSfk V sh m z) ∧ mfr M M2 ∧ Rk M2 V)) (some .int) 0 0 := Rt
  show xX Γ 0 0 n T 0 [(0, xR 195), (1, xI sh), (2, xI m)] [] M
  have hc := ok_c hv
  refine x_iload_n G 1 rfl rfl dX7_sizeForKinds_0 ?_
  refine x_callSp G [] [xI sh] hy_X7_isShard ht_X7_isShard ml_X7_143 rfl rfl (kX7_isShard _ _ sh) (by decide) (by decide) (Nat.le_of_ble_eq_true rfl) dX7_sizeForKinds_1 ?_
  refine x_if_eq G 19 (by decide) dX7_sizeForKinds_4 (fun c4 => ?_) (fun c4 => ?_)
  · skip
    have c4 := b2i_eq0.mp c4
    refine x_iconst G (by decide) dX7_sizeForKinds_19 ?_
    exact x_iret G Rt dX7_sizeForKinds_20 ⟨rfl, rfl, _, rfl, ⟨Or.inr ⟨by omega, rfl⟩, (mfr_refl _), hR⟩⟩
  · skip
    have c4 := b2i_ne0.mp c4
    refine x_iload_n G 2 rfl rfl dX7_sizeForKinds_7 ?_
    refine x_i2l G dX7_sizeForKinds_8 ?_
    refine x_lconst G dX7_sizeForKinds_9 ?_
    show xX Γ 0 0 n T 10 [(0, xR 195), (1, xI sh), (2, xI m)] [xL 1, xL m] M
    refine x_ldc2 G (z := 12) (by decide) kc_X7_156 dX7_sizeForKinds_10 ?_
    refine x_callSp G [] [xL m, xL 1, xL 12] hy_X7_in ht_X7_in ml_X7_54 rfl rfl (kX7_in _ _ m 1 12) (by decide) (by decide) (Nat.le_of_ble_eq_true rfl) dX7_sizeForKinds_13 ?_
    refine x_if_ne G 21 (by decide) dX7_sizeForKinds_16 (fun c16 => ?_) (fun c16 => ?_)
    · skip
      have c16 := b2i_ne0.mp c16
      refine x_iconst G (by decide) dX7_sizeForKinds_21 ?_
      refine x_istore_n G [(3, xI 1), (0, xR 195), (1, xI sh), (2, xI m)] rfl (by decide) rfl dX7_sizeForKinds_22 ?_
      have loop23 : ∀ (d : Nat) (k : Int) (N1 : xM), (13 - k).toNat = d → (1 ≤ k ∧ k ≤ 13) → (mfr M N1) → (Rk N1 V) → (∀ x, 1 ≤ x → x < k → ¬ m ≤ kdL V ((alN V sh).take x.toNat)) → xX Γ 0 0 n T 23 [(0, xR 195), (1, xI sh), (2, xI m), (3, xI k)] [] N1 := by
        intro d
        induction d using Nat.strongRecOn with
        | ind d ih23 =>
        intro k N1 hd23 hk hf1 hR1 hno
        skip
        refine x_iload_n G 3 rfl rfl dX7_sizeForKinds_23 ?_
        refine x_bipush G (by decide) dX7_sizeForKinds_24 ?_
        refine x_icmp_gt G 47 (by decide) dX7_sizeForKinds_26 (fun c26 => ?_) (fun c26 => ?_)
        · skip
          refine x_bipush G (by decide) dX7_sizeForKinds_47 ?_
          exact x_iret G Rt dX7_sizeForKinds_49 ⟨rfl, rfl, _, rfl, ⟨Or.inl ⟨by omega, by omega, Or.inr ⟨rfl, fun x a b => hno x a (by omega)⟩⟩, hf1, hR1⟩⟩
        · skip
          refine x_aload_n G 0 rfl rfl dX7_sizeForKinds_29 ?_
          refine x_iload_n G 1 rfl rfl dX7_sizeForKinds_30 ?_
          refine x_iload_n G 3 rfl rfl dX7_sizeForKinds_31 ?_
          refine x_callVI G [] [xI sh, xI k] rfl (by decide) (ly_n hY 195 (by decide)) (ly_k hY 195 (by decide)) hy_X7_kindsOf hi_X7_kindsOf hs_X7_kindsOf ml_X7_358 rfl rfl (kX7_kindsOf _ _ V sh k hY (mr_cg hN (hf1.1 196 (by omega))) hv hs hR1 (by omega) (by omega)) (by decide) (by decide) (Nat.le_of_ble_eq_true rfl) dX7_sizeForKinds_32 (fun z32 M32 h32 => ?_)
          rw [h32.1]
          refine x_iload_n G 2 rfl rfl dX7_sizeForKinds_35 ?_
          refine x_icmp_lt G 41 (by decide) dX7_sizeForKinds_36 (fun c36 => ?_) (fun c36 => ?_)
          · skip
            refine x_iinc G [(3, xI (k + 1)), (0, xR 195), (1, xI sh), (2, xI m)] 3 rfl (by decide) (by omega) rfl dX7_sizeForKinds_41 ?_
            refine x_goto G 23 (by decide) dX7_sizeForKinds_44 ?_
            refine x_sub [(0, xR 195), (1, xI sh), (2, xI m), (3, xI (k + 1))] [1, 2, 3, 0] rfl ?_
            exact ih23 _ (by omega) (k + 1) M32 rfl (by omega) ((mfr_tr hf1 h32.2.1)) (h32.2.2) (by intro x a b; rcases Int.lt_or_le x k with g | g; exact hno x a g; have e : x = k := (by omega); rw [e]; omega)
          · skip
            refine x_iload_n G 3 rfl rfl dX7_sizeForKinds_39 ?_
            exact x_iret G Rt dX7_sizeForKinds_40 ⟨rfl, rfl, _, rfl, ⟨Or.inl ⟨by omega, by omega, Or.inl ⟨by omega, c36, hno⟩⟩, (mfr_tr hf1 h32.2.1), h32.2.2⟩⟩
      refine x_sub [(0, xR 195), (1, xI sh), (2, xI m), (3, xI 1)] [1, 2, 3, 0] rfl ?_
      exact loop23 _ 1 M rfl (by omega) ((mfr_refl _)) (hR) (by intro x a b; omega)
    · skip
      have c16 := b2i_eq0.mp c16
      refine x_iconst G (by decide) dX7_sizeForKinds_19 ?_
      exact x_iret G Rt dX7_sizeForKinds_20 ⟨rfl, rfl, _, rfl, ⟨Or.inr ⟨by omega, rfl⟩, (mfr_refl _), hR⟩⟩
theorem lb_tk {V : xM} {L : List Nat} {k q : Nat} (hk : k < L.length) : 0 < lb1 V (L.take (k + 1)) q ↔ 0 < lb1 V (L.take k) q ∨ V 5 (L.getD k 0) = (q : Int) := by
  rw [lb1_take V _ hk]
  have := (lb1_b V (L.take k) q).1
  by_cases e : V 5 (L.getD k 0) = (q : Int)
  · rw [if_pos e]; exact ⟨fun _ => Or.inr e, fun _ => by omega⟩
  · rw [if_neg e]
    exact ⟨fun h => Or.inl (by omega), fun h => by rcases h with h | h; omega; exact absurd h e⟩
theorem x_and_n (a b : Nat) : Int32.ofInt (a : Int) &&& Int32.ofInt (b : Int) = Int32.ofInt ((a &&& b : Nat) : Int) := nx_and a b
set_option maxRecDepth 100000 in
set_option maxHeartbeats 4000000 in
theorem kX7_labelSet (D : xD) (l : Launch) {n : Nat} {T : xT} {M : xM} (V : xM) (sh : Int) (hY : LayOK n T) (hN : mrel (M 196) V) (hv : VOK V) (hs : Srt V (V 10) (V 0 10).toNat) (hR : Rk M V) (hsh : okS sh) : xC D l uX7_labelSet 9 212 0 0 [xR 195, xI sh] n T M (xPI n T (fun z M2 => (bitsOf (fun q => 0 < lb1 V (smL V sh) q) z) ∧ mfr M M2 ∧ Rk M2 V)) := by
  refine x_met uX7_labelSet (by decide) (Nat.le_of_ble_eq_true rfl) ?_
  intro Γ G Rt _
  have G : xG Γ RX7 cX7_labelSet 4 9 212 0 0 := G
  have Rt : xRt Γ (xPI n T (fun z M2 => (bitsOf (fun q => 0 < lb1 V (smL V sh) q) z) ∧ mfr M M2 ∧ Rk M2 V)) (some .int) 0 0 := Rt
  show xX Γ 0 0 n T 0 [(0, xR 195), (1, xI sh)] [] M
  have hc := ok_c hv
  refine x_aload_n G 0 rfl rfl dX7_labelSet_0 ?_
  refine x_iload_n G 1 rfl rfl dX7_labelSet_1 ?_
  refine x_callVV G [] [xI sh] rfl (by decide) (ly_n hY 195 (by decide)) (ly_k hY 195 (by decide)) hy_X7_laysSample hi_X7_laysSample hs_X7_laysSample ml_X7_137 rfl rfl (kX7_laysSample _ _ V sh hY hN hv hs hR (by omega)) (by decide) (by decide) (Nat.le_of_ble_eq_true rfl) dX7_labelSet_2 (fun M2 h2 => ?_)
  have hn2 := h2.1.1
  have hl2 : (smL V sh).length ≤ 100 := take_len (alL_len hv _ _ _ _)
  refine x_iconst G (by decide) dX7_labelSet_5 ?_
  refine x_istore_n G [(2, xI 0), (0, xR 195), (1, xI sh)] rfl (by decide) rfl dX7_labelSet_6 ?_
  refine x_iconst G (by decide) dX7_labelSet_7 ?_
  refine x_istore_n G [(3, xI 0), (2, xI 0), (0, xR 195), (1, xI sh)] rfl (by decide) rfl dX7_labelSet_8 ?_
  have loop9 : ∀ (d : Nat) (k : Int) (r : Nat), ((smL V sh).length - k).toNat = d → (0 ≤ k ∧ k ≤ (smL V sh).length) → (r < 2 ^ 26) → (∀ j : Nat, r.testBit j = true ↔ (j < 26 ∧ 0 < lb1 V ((smL V sh).take k.toNat) j)) → xX Γ 0 0 n T 9 [(0, xR 195), (1, xI sh), (2, xI (r : Int)), (3, xI k)] [] M2 := by
    intro d
    induction d using Nat.strongRecOn with
    | ind d ih9 =>
    intro k r hd9 hk hr hbt
    refine x_iload_n G 3 rfl rfl dX7_labelSet_9 ?_
    refine x_aload_n G 0 rfl rfl dX7_labelSet_10 ?_
    refine x_get G (xI (M2 195 8)) xf7_8 lk_X7_103 (ly_n hY 195 (by decide)) (ly_k hY 195 (by decide)) (Or.inl ⟨rfl, rfl⟩) dX7_labelSet_11 ?_
    rw [show M2 195 8 = ((smL V sh).length : Int) from h2.1.1]
    refine x_icmp_ge G 39 (by decide) dX7_labelSet_14 (fun c14 => ?_) (fun c14 => ?_)
    · skip
      refine x_iload_n G 2 rfl rfl dX7_labelSet_39 ?_
      exact x_iret G Rt dX7_labelSet_40 ⟨rfl, rfl, _, rfl, ⟨⟨r, rfl, hr, fun j => by have h9 := hbt j; rw [List.take_of_length_le (by omega)] at h9; exact h9⟩, (mfr_tr (mfr_refl _) (mfx_w 207 h2.2.1 (by decide))), h2.2.2⟩⟩
    · skip
      refine x_iload_n G 2 rfl rfl dX7_labelSet_17 ?_
      refine x_iconst G (by decide) dX7_labelSet_18 ?_
      refine x_aload_n G 0 rfl rfl dX7_labelSet_19 ?_
      refine x_aload_n G 0 rfl rfl dX7_labelSet_20 ?_
      refine x_get G (xR 202) xf7_7 lk_X7_29 (ly_n hY 195 (by decide)) (ly_k hY 195 (by decide)) (Or.inr ⟨rfl, _, (ly_r hY 195 7 (by decide) (by decide)), rfl⟩) dX7_labelSet_21 ?_
      refine x_iload_n G 3 rfl rfl dX7_labelSet_24 ?_
      refine x_iald G (ly_n hY 202 (by decide)) (ly_k hY 202 (by decide)) (show _ = 100 from ly_l hY 202 (by decide)) (by omega) (by omega) dX7_labelSet_25 ?_
      rw [show M2 202 k.toNat = (((smL V sh).getD k.toNat 0 : Nat) : Int) from (h2.1.2 k.toNat (by omega))]
      have hin := getD_in (L := smL V sh) (j := k.toNat) (by omega)
      have hin2 := sm_it hs hin
      have hit := hv.2.2.1 ((smL V sh).getD k.toNat 0) hin2
      refine x_iconst G (by decide) dX7_labelSet_26 ?_
      refine x_callVp G [xI 1, xI (r : Int)] [xI (((smL V sh).getD k.toNat 0 : Nat) : Int), xI 1] rfl (by decide) (ly_n hY 195 (by decide)) (ly_k hY 195 (by decide)) hy_X7_item hi_X7_item hs_X7_item ml_X7_58 rfl rfl (kX7_item_1 _ _ V (((smL V sh).getD k.toNat 0 : Nat) : Int) hY (mr_cg hN (h2.2.1.1 196 (by omega))) hv (by omega)) (by decide) (by decide) (Nat.le_of_ble_eq_true rfl) dX7_labelSet_27 ?_
      show xX Γ 0 0 n T 30 [(0, xR 195), (1, xI sh), (2, xI (r : Int)), (3, xI k)] [xI (V 5 ((smL V sh).getD k.toNat 0)), xI 1, xI (r : Int)] M2
      refine x_ishl G (2 ^ (V 5 ((smL V sh).getD k.toNat 0)).toNat) (x_shl1 hit.2.1.1 (by omega)) (by have := ipow_mono (show (1 : Int) ≤ 2 by decide) (show (V 5 ((smL V sh).getD k.toNat 0)).toNat ≤ 25 by omega); have := ipow_pos (show (1 : Int) ≤ 2 by decide) (V 5 ((smL V sh).getD k.toNat 0)).toNat; omega) dX7_labelSet_30 ?_
      refine x_ior G ((r ||| 2 ^ (V 5 ((smL V sh).getD k.toNat 0)).toNat : Nat) : Int) ((x_or_pow hr (by omega)).1) (by have := (x_or_pow hr (show (V 5 ((smL V sh).getD k.toNat 0)).toNat < 26 by omega)).2; omega) dX7_labelSet_31 ?_
      refine x_istore_n G [(2, xI ((r ||| 2 ^ (V 5 ((smL V sh).getD k.toNat 0)).toNat : Nat) : Int)), (0, xR 195), (1, xI sh), (3, xI k)] rfl (by decide) rfl dX7_labelSet_32 ?_
      refine x_iinc G [(3, xI (k + 1)), (2, xI ((r ||| 2 ^ (V 5 ((smL V sh).getD k.toNat 0)).toNat : Nat) : Int)), (0, xR 195), (1, xI sh)] 3 rfl (by decide) (by omega) rfl dX7_labelSet_33 ?_
      refine x_goto G 9 (by decide) dX7_labelSet_36 ?_
      refine x_sub [(0, xR 195), (1, xI sh), (2, xI ((r ||| 2 ^ (V 5 ((smL V sh).getD k.toNat 0)).toNat : Nat) : Int)), (3, xI (k + 1))] [2, 3, 1, 0] rfl ?_
      exact ih9 _ (by omega) (k + 1) (r ||| 2 ^ (V 5 ((smL V sh).getD k.toNat 0)).toNat) rfl (by omega) ((x_or_pow hr (by omega)).2) (by intro j; rw [show (k + 1).toNat = k.toNat + 1 by omega, lb_tk (by omega), fb_bit_set]; simp only [Bool.or_eq_true, decide_eq_true_eq]; rw [hbt j]; constructor; (rintro (g | g); exact ⟨g.1, Or.inl g.2⟩; exact ⟨by omega, Or.inr (by omega)⟩); (rintro ⟨g1, g2 | g2⟩; exact Or.inl ⟨g1, g2⟩; exact Or.inr (by omega)))
  refine x_sub [(0, xR 195), (1, xI sh), (2, xI 0), (3, xI 0)] [2, 3, 1, 0] rfl ?_
  exact loop9 _ 0 0 rfl (by omega) (by decide) (by intro j; rw [show (smL V sh).take (0 : Int).toNat = [] from rfl]; simp [lb1])
set_option maxRecDepth 100000 in
set_option maxHeartbeats 4000000 in
theorem kX7_shared (D : xD) (l : Launch) {n : Nat} {T : xT} {M : xM} (V : xM) (sh sh2 : Int) (hY : LayOK n T) (hN : mrel (M 196) V) (hv : VOK V) (hs : Srt V (V 10) (V 0 10).toNat) (hR : Rk M V) : xC D l uX7_shared 10 235 0 0 [xR 195, xI sh, xI sh2] n T M (xPI n T (fun z M2 => (qShared V sh sh2 z) ∧ mfr M M2 ∧ Rk M2 V)) := by
  refine x_met uX7_shared (by decide) (Nat.le_of_ble_eq_true rfl) ?_
  intro Γ G Rt _
  have G : xG Γ RX7 cX7_shared 3 10 235 0 0 := G
  have Rt : xRt Γ (xPI n T (fun z M2 => (qShared V sh sh2 z) ∧ mfr M M2 ∧ Rk M2 V)) (some .int) 0 0 := Rt
  show xX Γ 0 0 n T 0 [(0, xR 195), (1, xI sh), (2, xI sh2)] [] M
  have hc := ok_c hv
  refine x_iload_n G 1 rfl rfl dX7_shared_0 ?_
  refine x_callSp G [] [xI sh] hy_X7_isShard ht_X7_isShard ml_X7_143 rfl rfl (kX7_isShard _ _ sh) (by decide) (by decide) (Nat.le_of_ble_eq_true rfl) dX7_shared_1 ?_
  refine x_if_eq G 28 (by decide) dX7_shared_4 (fun c4 => ?_) (fun c4 => ?_)
  · skip
    have c4 := b2i_eq0.mp c4
    refine x_iconst G (by decide) dX7_shared_28 ?_
    exact x_iret G Rt dX7_shared_29 ⟨rfl, rfl, _, rfl, ⟨Or.inr ⟨by omega, rfl⟩, (mfr_refl _), hR⟩⟩
  · skip
    have c4 := b2i_ne0.mp c4
    refine x_iload_n G 2 rfl rfl dX7_shared_7 ?_
    refine x_callSp G [] [xI sh2] hy_X7_isShard ht_X7_isShard ml_X7_143 rfl rfl (kX7_isShard _ _ sh2) (by decide) (by decide) (Nat.le_of_ble_eq_true rfl) dX7_shared_8 ?_
    refine x_if_eq G 28 (by decide) dX7_shared_11 (fun c11 => ?_) (fun c11 => ?_)
    · skip
      have c11 := b2i_eq0.mp c11
      refine x_iconst G (by decide) dX7_shared_28 ?_
      exact x_iret G Rt dX7_shared_29 ⟨rfl, rfl, _, rfl, ⟨Or.inr ⟨by omega, rfl⟩, (mfr_refl _), hR⟩⟩
    · skip
      have c11 := b2i_ne0.mp c11
      refine x_aload_n G 0 rfl rfl dX7_shared_14 ?_
      refine x_iload_n G 1 rfl rfl dX7_shared_15 ?_
      refine x_callVI G [] [xI sh] rfl (by decide) (ly_n hY 195 (by decide)) (ly_k hY 195 (by decide)) hy_X7_labelSet hi_X7_labelSet hs_X7_labelSet ml_X7_361 rfl rfl (kX7_labelSet _ _ V sh hY hN hv hs hR (by omega)) (by decide) (by decide) (Nat.le_of_ble_eq_true rfl) dX7_shared_16 (fun z16 M16 h16 => ?_)
      obtain ⟨r16, hz16, hb16, ht16⟩ := h16.1
      rw [hz16]
      refine x_aload_n G 0 rfl rfl dX7_shared_19 ?_
      refine x_iload_n G 2 rfl rfl dX7_shared_20 ?_
      refine x_callVI G [xI ((r16 : Nat) : Int)] [xI sh2] rfl (by decide) (ly_n hY 195 (by decide)) (ly_k hY 195 (by decide)) hy_X7_labelSet hi_X7_labelSet hs_X7_labelSet ml_X7_361 rfl rfl (kX7_labelSet _ _ V sh2 hY (mr_cg hN (h16.2.1.1 196 (by omega))) hv hs h16.2.2 (by omega)) (by decide) (by decide) (Nat.le_of_ble_eq_true rfl) dX7_shared_21 (fun z21 M21 h21 => ?_)
      obtain ⟨r21, hz21, hb21, ht21⟩ := h21.1
      rw [hz21]
      refine x_iand G ((r16 &&& r21 : Nat) : Int) (x_and_n _ _) (by have := Nat.and_le_left (n := r16) (m := r21); omega) dX7_shared_24 ?_
      refine x_goto G 29 (by decide) dX7_shared_25 ?_
      exact x_iret G Rt dX7_shared_29 ⟨rfl, rfl, _, rfl, ⟨Or.inl ⟨by omega, by omega, r16 &&& r21, rfl, Nat.lt_of_le_of_lt Nat.and_le_left hb16, fun j => by rw [Nat.testBit_and, Bool.and_eq_true, ht16 j, ht21 j]; exact ⟨fun h => ⟨h.1.1, h.1.2, h.2.2⟩, fun h => ⟨⟨h.1, h.2.1⟩, ⟨h.1, h.2.2⟩⟩⟩⟩, (mfr_tr (mfr_tr (mfr_refl _) h16.2.1) h21.2.1), h21.2.2⟩⟩
set_option maxRecDepth 100000 in
set_option maxHeartbeats 4000000 in
theorem kX7_cameIn (D : xD) (l : Launch) {n : Nat} {T : xT} {M : xM} (V : xM) (f t : Int) (hY : LayOK n T) (hN : mrel (M 196) V) (hv : VOK V) (hf : 0 ≤ f ∧ f ≤ 99999) (ht : 1 ≤ t ∧ t ≤ 9999) : xC D l uX7_cameIn 3 64 0 0 [xR 195, xI f, xI t] n T M (xPp n T M (fb_si (fun j => b2i (V 9 j = 0 ∧ f ≤ V 8 j ∧ V 8 j ≤ f + t - 1)) (V 0 10).toNat)) := by
  refine x_met uX7_cameIn (by decide) (Nat.le_of_ble_eq_true rfl) ?_
  intro Γ G Rt _
  have G : xG Γ RX7 cX7_cameIn 5 3 64 0 0 := G
  have Rt : xRt Γ (xPp n T M (fb_si (fun j => b2i (V 9 j = 0 ∧ f ≤ V 8 j ∧ V 8 j ≤ f + t - 1)) (V 0 10).toNat)) (some .int) 0 0 := Rt
  show xX Γ 0 0 n T 0 [(0, xR 195), (1, xI f), (2, xI t)] [] M
  have hc := ok_c hv
  refine x_iconst G (by decide) dX7_cameIn_0 ?_
  refine x_istore_n G [(3, xI 0), (0, xR 195), (1, xI f), (2, xI t)] rfl (by decide) rfl dX7_cameIn_1 ?_
  refine x_iconst G (by decide) dX7_cameIn_2 ?_
  refine x_istore G [(4, xI 0), (3, xI 0), (0, xR 195), (1, xI f), (2, xI t)] (by decide) rfl dX7_cameIn_3 ?_
  have loop5 : ∀ (d : Nat) (k : Int) (q : Int), (V 0 10 - k).toNat = d → (0 ≤ k ∧ k ≤ V 0 10) → (q = fb_si (fun j => b2i (V 9 j = 0 ∧ f ≤ V 8 j ∧ V 8 j ≤ f + t - 1)) k.toNat) → xX Γ 0 0 n T 5 [(0, xR 195), (1, xI f), (2, xI t), (3, xI q), (4, xI k)] [] M := by
    intro d
    induction d using Nat.strongRecOn with
    | ind d ih5 =>
    intro k q hd5 hk hn
    have hb := si_b (fun j => V 9 j = 0 ∧ f ≤ V 8 j ∧ V 8 j ≤ f + t - 1) k.toNat
    refine x_iload G 4 rfl dX7_cameIn_5 ?_
    refine x_aload_n G 0 rfl rfl dX7_cameIn_7 ?_
    refine x_get G (xR 196) xf7_0 lk_X7_7 (ly_n hY 195 (by decide)) (ly_k hY 195 (by decide)) (Or.inr ⟨rfl, _, (ly_r hY 195 0 (by decide) (by decide)), rfl⟩) dX7_cameIn_8 ?_
    refine x_iconst G (by decide) dX7_cameIn_11 ?_
    refine x_iald G (ly_n hY 196 (by decide)) (ly_k hY 196 (by decide)) (show _ = 511 from ly_l hY 196 (by decide)) (by omega) (by omega) dX7_cameIn_12 ?_
    show xX Γ 0 0 n T 13 [(0, xR 195), (1, xI f), (2, xI t), (3, xI q), (4, xI k)] [xI (M 196 2), xI k] M
    rw [show M 196 2 = (V 0 10) from hN.1.2.2]
    refine x_icmp_ge G 63 (by decide) dX7_cameIn_13 (fun c13 => ?_) (fun c13 => ?_)
    · skip
      refine x_iload_n G 3 rfl rfl dX7_cameIn_63 ?_
      exact x_iret G Rt dX7_cameIn_64 ⟨rfl, rfl, congrArg (fun z => some (xI z)) (by rw [hn, show k = V 0 10 by omega]), rfl⟩
    · skip
      have hit := ok_i hv hk.1 (by omega)
      refine x_iload_n G 3 rfl rfl dX7_cameIn_16 ?_
      refine x_aload_n G 0 rfl rfl dX7_cameIn_17 ?_
      refine x_iload G 4 rfl dX7_cameIn_18 ?_
      refine x_callVp G [xI q] [xI k] rfl (by decide) (ly_n hY 195 (by decide)) (ly_k hY 195 (by decide)) hy_X7_isDropped hi_X7_isDropped hs_X7_isDropped ml_X7_70 rfl rfl (kX7_isDropped _ _ V k hY hN hv (by omega)) (by decide) (by decide) (Nat.le_of_ble_eq_true rfl) dX7_cameIn_20 ?_
      refine x_if_ne G 54 (by decide) dX7_cameIn_23 (fun c23 => ?_) (fun c23 => ?_)
      · skip
        have c23 := b2i_ne0.mp c23
        refine x_iconst G (by decide) dX7_cameIn_54 ?_
        refine x_iadd G (by omega) dX7_cameIn_55 ?_
        refine x_istore_n G [(3, xI (q + 0)), (0, xR 195), (1, xI f), (2, xI t), (4, xI k)] rfl (by decide) rfl dX7_cameIn_56 ?_
        refine x_iinc G [(4, xI (k + 1)), (3, xI (q + 0)), (0, xR 195), (1, xI f), (2, xI t)] 4 rfl (by decide) (by omega) rfl dX7_cameIn_57 ?_
        refine x_goto G 5 (by decide) dX7_cameIn_60 ?_
        refine x_sub [(0, xR 195), (1, xI f), (2, xI t), (3, xI (q + 0)), (4, xI (k + 1))] [2, 3, 4, 1, 0] rfl ?_
        exact ih5 _ (by omega) (k + 1) (q + 0) rfl (by omega) (by first | exact si_y hk.1 hn ⟨by omega, by omega, by omega⟩ | (have h8 := si_n (p := fun j => V 9 j = 0 ∧ f ≤ V 8 j ∧ V 8 j ≤ f + t - 1) hk.1 hn (fun h => by have h1 := h.1; have h2 := h.2; omega); omega))
      · skip
        have c23 := b2i_eq0.mp c23
        refine x_aload_n G 0 rfl rfl dX7_cameIn_26 ?_
        refine x_iload G 4 rfl dX7_cameIn_27 ?_
        refine x_iconst G (by decide) dX7_cameIn_29 ?_
        refine x_callVp G [xI q] [xI k, xI 4] rfl (by decide) (ly_n hY 195 (by decide)) (ly_k hY 195 (by decide)) hy_X7_item hi_X7_item hs_X7_item ml_X7_58 rfl rfl (kX7_item_4 _ _ V k hY hN hv (by omega)) (by decide) (by decide) (Nat.le_of_ble_eq_true rfl) dX7_cameIn_30 ?_
        refine x_iload_n G 1 rfl rfl dX7_cameIn_33 ?_
        refine x_icmp_lt G 54 (by decide) dX7_cameIn_34 (fun c34 => ?_) (fun c34 => ?_)
        · skip
          refine x_iconst G (by decide) dX7_cameIn_54 ?_
          refine x_iadd G (by omega) dX7_cameIn_55 ?_
          refine x_istore_n G [(3, xI (q + 0)), (0, xR 195), (1, xI f), (2, xI t), (4, xI k)] rfl (by decide) rfl dX7_cameIn_56 ?_
          refine x_iinc G [(4, xI (k + 1)), (3, xI (q + 0)), (0, xR 195), (1, xI f), (2, xI t)] 4 rfl (by decide) (by omega) rfl dX7_cameIn_57 ?_
          refine x_goto G 5 (by decide) dX7_cameIn_60 ?_
          refine x_sub [(0, xR 195), (1, xI f), (2, xI t), (3, xI (q + 0)), (4, xI (k + 1))] [2, 3, 4, 1, 0] rfl ?_
          exact ih5 _ (by omega) (k + 1) (q + 0) rfl (by omega) (by first | exact si_y hk.1 hn ⟨by omega, by omega, by omega⟩ | (have h8 := si_n (p := fun j => V 9 j = 0 ∧ f ≤ V 8 j ∧ V 8 j ≤ f + t - 1) hk.1 hn (fun h => by have h1 := h.1; have h2 := h.2; omega); omega))
        · skip
          refine x_aload_n G 0 rfl rfl dX7_cameIn_37 ?_
          refine x_iload G 4 rfl dX7_cameIn_38 ?_
          refine x_iconst G (by decide) dX7_cameIn_40 ?_
          refine x_callVp G [xI q] [xI k, xI 4] rfl (by decide) (ly_n hY 195 (by decide)) (ly_k hY 195 (by decide)) hy_X7_item hi_X7_item hs_X7_item ml_X7_58 rfl rfl (kX7_item_4 _ _ V k hY hN hv (by omega)) (by decide) (by decide) (Nat.le_of_ble_eq_true rfl) dX7_cameIn_41 ?_
          refine x_iload_n G 1 rfl rfl dX7_cameIn_44 ?_
          refine x_iload_n G 2 rfl rfl dX7_cameIn_45 ?_
          refine x_iadd G (by omega) dX7_cameIn_46 ?_
          refine x_icmp_ge G 54 (by decide) dX7_cameIn_47 (fun c47 => ?_) (fun c47 => ?_)
          · skip
            refine x_iconst G (by decide) dX7_cameIn_54 ?_
            refine x_iadd G (by omega) dX7_cameIn_55 ?_
            refine x_istore_n G [(3, xI (q + 0)), (0, xR 195), (1, xI f), (2, xI t), (4, xI k)] rfl (by decide) rfl dX7_cameIn_56 ?_
            refine x_iinc G [(4, xI (k + 1)), (3, xI (q + 0)), (0, xR 195), (1, xI f), (2, xI t)] 4 rfl (by decide) (by omega) rfl dX7_cameIn_57 ?_
            refine x_goto G 5 (by decide) dX7_cameIn_60 ?_
            refine x_sub [(0, xR 195), (1, xI f), (2, xI t), (3, xI (q + 0)), (4, xI (k + 1))] [2, 3, 4, 1, 0] rfl ?_
            exact ih5 _ (by omega) (k + 1) (q + 0) rfl (by omega) (by first | exact si_y hk.1 hn ⟨by omega, by omega, by omega⟩ | (have h8 := si_n (p := fun j => V 9 j = 0 ∧ f ≤ V 8 j ∧ V 8 j ≤ f + t - 1) hk.1 hn (fun h => by have h1 := h.1; have h2 := h.2; omega); omega))
          · skip
            refine x_iconst G (by decide) dX7_cameIn_50 ?_
            refine x_goto G 55 (by decide) dX7_cameIn_51 ?_
            refine x_iadd G (by omega) dX7_cameIn_55 ?_
            refine x_istore_n G [(3, xI (q + 1)), (0, xR 195), (1, xI f), (2, xI t), (4, xI k)] rfl (by decide) rfl dX7_cameIn_56 ?_
            refine x_iinc G [(4, xI (k + 1)), (3, xI (q + 1)), (0, xR 195), (1, xI f), (2, xI t)] 4 rfl (by decide) (by omega) rfl dX7_cameIn_57 ?_
            refine x_goto G 5 (by decide) dX7_cameIn_60 ?_
            refine x_sub [(0, xR 195), (1, xI f), (2, xI t), (3, xI (q + 1)), (4, xI (k + 1))] [2, 3, 4, 1, 0] rfl ?_
            exact ih5 _ (by omega) (k + 1) (q + 1) rfl (by omega) (by first | exact si_y hk.1 hn ⟨by omega, by omega, by omega⟩ | (have h8 := si_n (p := fun j => V 9 j = 0 ∧ f ≤ V 8 j ∧ V 8 j ≤ f + t - 1) hk.1 hn (fun h => by have h1 := h.1; have h2 := h.2; omega); omega))
  refine x_sub [(0, xR 195), (1, xI f), (2, xI t), (3, xI 0), (4, xI 0)] [2, 3, 4, 1, 0] rfl ?_
  exact loop5 _ 0 0 rfl (by omega) (rfl)
set_option maxRecDepth 100000 in
set_option maxHeartbeats 4000000 in
theorem kX7_busiest (D : xD) (l : Launch) {n : Nat} {T : xT} {M : xM} (V : xM) (t what : Int) (hY : LayOK n T) (hN : mrel (M 196) V) (hv : VOK V) (hs : Srt V (V 10) (V 0 10).toNat) (hR : Rk M V) : xC D l uX7_busiest 4 88 0 0 [xR 195, xI t, xI what] n T M (xPI n T (fun z M2 => z = qBusiest V t what ∧ mfr M M2 ∧ Rk M2 V)) := by
  refine x_met uX7_busiest (by decide) (Nat.le_of_ble_eq_true rfl) ?_
  intro Γ G Rt _
  have G : xG Γ RX7 cX7_busiest 7 4 88 0 0 := G
  have Rt : xRt Γ (xPI n T (fun z M2 => z = qBusiest V t what ∧ mfr M M2 ∧ Rk M2 V)) (some .int) 0 0 := Rt
  show xX Γ 0 0 n T 0 [(0, xR 195), (1, xI t), (2, xI what)] [] M
  have hc := ok_c hv
  have hsc := hv.1
  refine x_iload_n G 1 rfl rfl dX7_busiest_0 ?_
  refine x_i2l G dX7_busiest_1 ?_
  refine x_lconst G dX7_busiest_2 ?_
  show xX Γ 0 0 n T 3 [(0, xR 195), (1, xI t), (2, xI what)] [xL 1, xL t] M
  refine x_ldc2 G (z := 9999) (by decide) kc_X7_181 dX7_busiest_3 ?_
  refine x_callSp G [] [xL t, xL 1, xL 9999] hy_X7_in ht_X7_in ml_X7_54 rfl rfl (kX7_in _ _ t 1 9999) (by decide) (by decide) (Nat.le_of_ble_eq_true rfl) dX7_busiest_6 ?_
  refine x_if_eq G 22 (by decide) dX7_busiest_9 (fun c9 => ?_) (fun c9 => ?_)
  · skip
    have c9 := b2i_eq0.mp c9
    refine x_iconst G (by decide) dX7_busiest_22 ?_
    exact x_iret G Rt dX7_busiest_23 ⟨rfl, rfl, _, rfl, ⟨(by unfold qBusiest; (repeat (first | rw [if_pos (by omega)] | rw [if_neg (by omega)])) <;> try rfl), (mfr_refl _), hR⟩⟩
  · skip
    have c9 := b2i_ne0.mp c9
    refine x_iload_n G 2 rfl rfl dX7_busiest_12 ?_
    refine x_i2l G dX7_busiest_13 ?_
    refine x_lconst G dX7_busiest_14 ?_
    show xX Γ 0 0 n T 15 [(0, xR 195), (1, xI t), (2, xI what)] [xL 0, xL what] M
    refine x_lconst G dX7_busiest_15 ?_
    show xX Γ 0 0 n T 16 [(0, xR 195), (1, xI t), (2, xI what)] [xL 1, xL 0, xL what] M
    refine x_callSp G [] [xL what, xL 0, xL 1] hy_X7_in ht_X7_in ml_X7_54 rfl rfl (kX7_in _ _ what 0 1) (by decide) (by decide) (Nat.le_of_ble_eq_true rfl) dX7_busiest_16 ?_
    refine x_if_ne G 24 (by decide) dX7_busiest_19 (fun c19 => ?_) (fun c19 => ?_)
    · skip
      have c19 := b2i_ne0.mp c19
      refine x_iconst G (by decide) dX7_busiest_24 ?_
      refine x_istore_n G [(3, xI 0), (0, xR 195), (1, xI t), (2, xI what)] rfl (by decide) rfl dX7_busiest_25 ?_
      refine x_bipush G (by decide) dX7_busiest_26 ?_
      refine x_istore G [(4, xI (-2)), (3, xI 0), (0, xR 195), (1, xI t), (2, xI what)] (by decide) rfl dX7_busiest_28 ?_
      refine x_iconst G (by decide) dX7_busiest_30 ?_
      refine x_istore G [(5, xI 0), (4, xI (-2)), (3, xI 0), (0, xR 195), (1, xI t), (2, xI what)] (by decide) rfl dX7_busiest_31 ?_
      have loop33 : ∀ (d : Nat) (k : Int) (m : Int) (f : Int), (V 0 10 - k).toNat = d → (0 ≤ k ∧ k ≤ V 0 10) → (m = (bus V t k.toNat).1) → (f = (bus V t k.toNat).2) → (0 ≤ m ∧ m ≤ 100) → xX Γ 0 0 n T 33 [(0, xR 195), (1, xI t), (2, xI what), (3, xI m), (4, xI f), (5, xI k)] [] M := by
        intro d
        induction d using Nat.strongRecOn with
        | ind d ih33 =>
        intro k m f hd33 hk hb1 hb2 hm
        refine x_iload G 5 rfl dX7_busiest_33 ?_
        refine x_aload_n G 0 rfl rfl dX7_busiest_35 ?_
        refine x_get G (xR 196) xf7_0 lk_X7_7 (ly_n hY 195 (by decide)) (ly_k hY 195 (by decide)) (Or.inr ⟨rfl, _, (ly_r hY 195 0 (by decide) (by decide)), rfl⟩) dX7_busiest_36 ?_
        refine x_iconst G (by decide) dX7_busiest_39 ?_
        refine x_iald G (ly_n hY 196 (by decide)) (ly_k hY 196 (by decide)) (show _ = 511 from ly_l hY 196 (by decide)) (by omega) (by omega) dX7_busiest_40 ?_
        show xX Γ 0 0 n T 41 [(0, xR 195), (1, xI t), (2, xI what), (3, xI m), (4, xI f), (5, xI k)] [xI (M 196 2), xI k] M
        rw [show M 196 2 = (V 0 10) from hN.1.2.2]
        refine x_icmp_ge G 98 (by decide) dX7_busiest_41 (fun c41 => ?_) (fun c41 => ?_)
        · skip
          refine x_iload_n G 2 rfl rfl dX7_busiest_98 ?_
          refine x_if_ne G 106 (by decide) dX7_busiest_99 (fun c99 => ?_) (fun c99 => ?_)
          · skip
            refine x_iload G 4 rfl dX7_busiest_106 ?_
            exact x_iret G Rt dX7_busiest_108 ⟨rfl, rfl, _, rfl, ⟨(by unfold qBusiest; rw [if_pos (by omega)]; rw [if_neg (by omega), hb2, show k = V 0 10 by omega]), (mfr_refl _), hR⟩⟩
          · skip
            refine x_iload_n G 3 rfl rfl dX7_busiest_102 ?_
            refine x_goto G 108 (by decide) dX7_busiest_103 ?_
            exact x_iret G Rt dX7_busiest_108 ⟨rfl, rfl, _, rfl, ⟨(by unfold qBusiest; rw [if_pos (by omega)]; rw [if_pos (by omega), hb1, show k = V 0 10 by omega]), (mfr_refl _), hR⟩⟩
        · skip
          have hit := ok_i hv hk.1 (by omega)
          refine x_aload_n G 0 rfl rfl dX7_busiest_44 ?_
          refine x_iload G 5 rfl dX7_busiest_45 ?_
          refine x_callVp G [] [xI k] rfl (by decide) (ly_n hY 195 (by decide)) (ly_k hY 195 (by decide)) hy_X7_isDropped hi_X7_isDropped hs_X7_isDropped ml_X7_70 rfl rfl (kX7_isDropped _ _ V k hY hN hv (by omega)) (by decide) (by decide) (Nat.le_of_ble_eq_true rfl) dX7_busiest_47 ?_
          refine x_if_eq G 57 (by decide) dX7_busiest_50 (fun c50 => ?_) (fun c50 => ?_)
          · skip
            have c50 := b2i_eq0.mp c50
            refine x_aload_n G 0 rfl rfl dX7_busiest_57 ?_
            refine x_aload_n G 0 rfl rfl dX7_busiest_58 ?_
            refine x_iload G 5 rfl dX7_busiest_59 ?_
            refine x_iconst G (by decide) dX7_busiest_61 ?_
            refine x_callVp G [xR 195] [xI k, xI 4] rfl (by decide) (ly_n hY 195 (by decide)) (ly_k hY 195 (by decide)) hy_X7_item hi_X7_item hs_X7_item ml_X7_58 rfl rfl (kX7_item_4 _ _ V k hY hN hv (by omega)) (by decide) (by decide) (Nat.le_of_ble_eq_true rfl) dX7_busiest_62 ?_
            refine x_iload_n G 1 rfl rfl dX7_busiest_65 ?_
            refine x_callVp G [] [xI (V 8 k.toNat), xI t] rfl (by decide) (ly_n hY 195 (by decide)) (ly_k hY 195 (by decide)) hy_X7_cameIn hi_X7_cameIn hs_X7_cameIn ml_X7_364 rfl rfl (kX7_cameIn _ _ V (V 8 k.toNat) t hY hN hv (by omega) (by omega)) (by decide) (by decide) (Nat.le_of_ble_eq_true rfl) dX7_busiest_66 ?_
            refine x_istore G [(6, xI (fb_si (fun j => b2i (V 9 j = 0 ∧ (V 8 k.toNat) ≤ V 8 j ∧ V 8 j ≤ (V 8 k.toNat) + t - 1)) (V 0 10).toNat)), (0, xR 195), (1, xI t), (2, xI what), (3, xI m), (4, xI f), (5, xI k)] (by decide) rfl dX7_busiest_69 ?_
            have hbn := si_b (fun j => V 9 j = 0 ∧ V 8 k.toNat ≤ V 8 j ∧ V 8 j ≤ V 8 k.toNat + t - 1) (V 0 10).toNat
            have hbe : busN V t k.toNat = fb_si (fun j => b2i (V 9 j = 0 ∧ V 8 k.toNat ≤ V 8 j ∧ V 8 j ≤ V 8 k.toNat + t - 1)) (V 0 10).toNat := rfl
            refine x_iload G 0 rfl dX7_busiest_71 ?_
            refine x_iload_n G 4 rfl rfl dX7_busiest_73 ?_
            refine x_icmp_gt G 80 (by decide) dX7_busiest_74 (fun c74 => ?_) (fun c74 => ?_)
            · skip
              refine x_iload G 0 rfl dX7_busiest_80 ?_
              refine x_istore_n G [(3, xI (fb_si (fun j => b2i (V 9 j = 0 ∧ (V 8 k.toNat) ≤ V 8 j ∧ V 8 j ≤ (V 8 k.toNat) + t - 1)) (V 0 10).toNat)), (6, xI (fb_si (fun j => b2i (V 9 j = 0 ∧ (V 8 k.toNat) ≤ V 8 j ∧ V 8 j ≤ (V 8 k.toNat) + t - 1)) (V 0 10).toNat)), (0, xR 195), (1, xI t), (2, xI what), (4, xI f), (5, xI k)] rfl (by decide) rfl dX7_busiest_82 ?_
              refine x_aload_n G 2 rfl rfl dX7_busiest_83 ?_
              refine x_iload G 6 rfl dX7_busiest_84 ?_
              refine x_iconst G (by decide) dX7_busiest_86 ?_
              refine x_callVp G [] [xI k, xI 4] rfl (by decide) (ly_n hY 195 (by decide)) (ly_k hY 195 (by decide)) hy_X7_item hi_X7_item hs_X7_item ml_X7_58 rfl rfl (kX7_item_4 _ _ V k hY hN hv (by omega)) (by decide) (by decide) (Nat.le_of_ble_eq_true rfl) dX7_busiest_87 ?_
              refine x_istore G [(4, xI (V 8 k.toNat)), (3, xI (fb_si (fun j => b2i (V 9 j = 0 ∧ (V 8 k.toNat) ≤ V 8 j ∧ V 8 j ≤ (V 8 k.toNat) + t - 1)) (V 0 10).toNat)), (6, xI (fb_si (fun j => b2i (V 9 j = 0 ∧ (V 8 k.toNat) ≤ V 8 j ∧ V 8 j ≤ (V 8 k.toNat) + t - 1)) (V 0 10).toNat)), (0, xR 195), (1, xI t), (2, xI what), (5, xI k)] (by decide) rfl dX7_busiest_90 ?_
              refine x_iinc G [(5, xI (k + 1)), (4, xI (V 8 k.toNat)), (3, xI (fb_si (fun j => b2i (V 9 j = 0 ∧ (V 8 k.toNat) ≤ V 8 j ∧ V 8 j ≤ (V 8 k.toNat) + t - 1)) (V 0 10).toNat)), (6, xI (fb_si (fun j => b2i (V 9 j = 0 ∧ (V 8 k.toNat) ≤ V 8 j ∧ V 8 j ≤ (V 8 k.toNat) + t - 1)) (V 0 10).toNat)), (0, xR 195), (1, xI t), (2, xI what)] 6 rfl (by decide) (by omega) rfl dX7_busiest_92 ?_
              refine x_goto G 33 (by decide) dX7_busiest_95 ?_
              refine x_sub [(0, xR 195), (1, xI t), (2, xI what), (3, xI (fb_si (fun j => b2i (V 9 j = 0 ∧ (V 8 k.toNat) ≤ V 8 j ∧ V 8 j ≤ (V 8 k.toNat) + t - 1)) (V 0 10).toNat)), (4, xI (V 8 k.toNat)), (5, xI (k + 1))] [4, 5, 6, 2, 1, 0] rfl ?_
              exact ih33 _ (by omega) (k + 1) (fb_si (fun j => b2i (V 9 j = 0 ∧ (V 8 k.toNat) ≤ V 8 j ∧ V 8 j ≤ (V 8 k.toNat) + t - 1)) (V 0 10).toNat) (V 8 k.toNat) rfl (by omega) (by rw [show (k + 1).toNat = k.toNat + 1 by omega]; unfold bus; rw [if_pos (by rw [← hb1]; omega)] <;> rfl) (by rw [show (k + 1).toNat = k.toNat + 1 by omega]; unfold bus; rw [if_pos (by rw [← hb1]; omega)] <;> rfl) (by omega)
            · skip
              refine x_goto G 92 (by decide) dX7_busiest_77 ?_
              refine x_iinc G [(5, xI (k + 1)), (6, xI (fb_si (fun j => b2i (V 9 j = 0 ∧ (V 8 k.toNat) ≤ V 8 j ∧ V 8 j ≤ (V 8 k.toNat) + t - 1)) (V 0 10).toNat)), (0, xR 195), (1, xI t), (2, xI what), (3, xI m), (4, xI f)] 6 rfl (by decide) (by omega) rfl dX7_busiest_92 ?_
              refine x_goto G 33 (by decide) dX7_busiest_95 ?_
              refine x_sub [(0, xR 195), (1, xI t), (2, xI what), (3, xI m), (4, xI f), (5, xI (k + 1))] [2, 3, 4, 5, 6, 0] rfl ?_
              exact ih33 _ (by omega) (k + 1) m f rfl (by omega) (by rw [show (k + 1).toNat = k.toNat + 1 by omega]; unfold bus; rw [if_neg (by rw [← hb1]; omega)]; exact hb1) (by rw [show (k + 1).toNat = k.toNat + 1 by omega]; unfold bus; rw [if_neg (by rw [← hb1]; omega)]; exact hb2) (by omega)
          · skip
            have c50 := b2i_ne0.mp c50
            refine x_iconst G (by decide) dX7_busiest_53 ?_
            refine x_goto G 69 (by decide) dX7_busiest_54 ?_
            refine x_istore G [(6, xI 0), (0, xR 195), (1, xI t), (2, xI what), (3, xI m), (4, xI f), (5, xI k)] (by decide) rfl dX7_busiest_69 ?_
            have hbn := si_b (fun j => V 9 j = 0 ∧ V 8 k.toNat ≤ V 8 j ∧ V 8 j ≤ V 8 k.toNat + t - 1) (V 0 10).toNat
            have hbe : busN V t k.toNat = fb_si (fun j => b2i (V 9 j = 0 ∧ V 8 k.toNat ≤ V 8 j ∧ V 8 j ≤ V 8 k.toNat + t - 1)) (V 0 10).toNat := rfl
            refine x_iload G 0 rfl dX7_busiest_71 ?_
            refine x_iload_n G 4 rfl rfl dX7_busiest_73 ?_
            refine x_icmp_gt G 80 (by decide) dX7_busiest_74 (fun c74 => ?_) (fun c74 => ?_)
            · skip
              exfalso; omega
            · skip
              refine x_goto G 92 (by decide) dX7_busiest_77 ?_
              refine x_iinc G [(5, xI (k + 1)), (6, xI 0), (0, xR 195), (1, xI t), (2, xI what), (3, xI m), (4, xI f)] 6 rfl (by decide) (by omega) rfl dX7_busiest_92 ?_
              refine x_goto G 33 (by decide) dX7_busiest_95 ?_
              refine x_sub [(0, xR 195), (1, xI t), (2, xI what), (3, xI m), (4, xI f), (5, xI (k + 1))] [2, 3, 4, 5, 6, 0] rfl ?_
              exact ih33 _ (by omega) (k + 1) m f rfl (by omega) (by rw [show (k + 1).toNat = k.toNat + 1 by omega]; unfold bus; rw [if_neg (by rw [← hb1]; omega)]; exact hb1) (by rw [show (k + 1).toNat = k.toNat + 1 by omega]; unfold bus; rw [if_neg (by rw [← hb1]; omega)]; exact hb2) (by omega)
      refine x_sub [(0, xR 195), (1, xI t), (2, xI what), (3, xI 0), (4, xI (-2)), (5, xI 0)] [3, 4, 5, 2, 1, 0] rfl ?_
      exact loop33 _ 0 0 (-2) rfl (by omega) (rfl) (rfl) (by omega)
    · skip
      have c19 := b2i_eq0.mp c19
      refine x_iconst G (by decide) dX7_busiest_22 ?_
      exact x_iret G Rt dX7_busiest_23 ⟨rfl, rfl, _, rfl, ⟨(by unfold qBusiest; (repeat (first | rw [if_pos (by omega)] | rw [if_neg (by omega)])) <;> try rfl), (mfr_refl _), hR⟩⟩
theorem filter_ne {i : Nat} : ∀ {A : List Nat}, A.Nodup → i ∈ A → (A.filter fun j => decide (j ≠ i)) = A.eraseIdx (A.idxOf i) := by
  intro A
  induction A with
  | nil => intro _ h; exact absurd h List.not_mem_nil
  | cons x A ih =>
    intro hn hi
    obtain ⟨h1, h2⟩ := List.nodup_cons.mp hn
    rw [List.idxOf_cons]
    by_cases e : x = i
    · subst e
      rw [List.filter_cons_of_neg (by simp), show (x == x) = true by simp, cond_true, List.eraseIdx_cons_zero]
      exact List.filter_eq_self.mpr (fun j hj => decide_eq_true (fun g => h1 (by rw [← g]; exact hj)))
    · have hi2 : i ∈ A := (List.mem_cons.mp hi).resolve_left (fun g => e g.symm)
      rw [List.filter_cons_of_pos (by simpa using e), show (x == i) = false by simpa using e, cond_false, List.eraseIdx_cons_succ, ih h2 hi2]
theorem filter_out {i : Nat} {A : List Nat} (h : i ∉ A) : (A.filter fun j => decide (j ≠ i)) = A := List.filter_eq_self.mpr (fun j hj => decide_eq_true (fun g => h (by rw [← g]; exact hj)))
theorem erase_get (A : List Nat) (p j : Nat) : (A.eraseIdx p).getD j 0 = if j < p then A.getD j 0 else A.getD (j + 1) 0 := by
  simp only [List.getD, List.getElem?_eraseIdx]
  split <;> rfl
theorem al_nodup {V : xM} (hs : Srt V (V 10) (V 0 10).toNat) (sh t w up : Int) : (alL V sh t w up).Nodup := (rkl_nodup hs).filter _
set_option maxRecDepth 100000 in
set_option maxHeartbeats 4000000 in
theorem kX7_without (D : xD) (l : Launch) {n : Nat} {T : xT} {M : xM} (V : xM) (i k : Int) (hY : LayOK n T) (hN : mrel (M 196) V) (hv : VOK V) (hs : Srt V (V 10) (V 0 10).toNat) (hR : Rk M V) : xC D l uX7_without 8 191 0 0 [xR 195, xI i, xI k] n T M (xPI n T (fun z M2 => z = qWithout V i k ∧ mfr M M2 ∧ Rk M2 V)) := by
  refine x_met uX7_without (by decide) (Nat.le_of_ble_eq_true rfl) ?_
  intro Γ G Rt _
  have G : xG Γ RX7 cX7_without 6 8 191 0 0 := G
  have Rt : xRt Γ (xPI n T (fun z M2 => z = qWithout V i k ∧ mfr M M2 ∧ Rk M2 V)) (some .int) 0 0 := Rt
  show xX Γ 0 0 n T 0 [(0, xR 195), (1, xI i), (2, xI k)] [] M
  have hc := ok_c hv
  refine x_aload_n G 0 rfl rfl dX7_without_0 ?_
  refine x_iload_n G 1 rfl rfl dX7_without_1 ?_
  refine x_callVp G [] [xI i] rfl (by decide) (ly_n hY 195 (by decide)) (ly_k hY 195 (by decide)) hy_X7_isItem hi_X7_isItem hs_X7_isItem ml_X7_66 rfl rfl (kX7_isItem _ _ V i hY hN hv) (by decide) (by decide) (Nat.le_of_ble_eq_true rfl) dX7_without_2 ?_
  refine x_if_eq G 13 (by decide) dX7_without_5 (fun c5 => ?_) (fun c5 => ?_)
  · skip
    have c5 := b2i_eq0.mp c5
    refine x_iconst G (by decide) dX7_without_13 ?_
    exact x_iret G Rt dX7_without_14 ⟨rfl, rfl, _, rfl, ⟨(by unfold qWithout; (repeat (first | rw [if_pos (by omega)] | rw [if_neg (by omega)])) <;> try rfl), (mfr_refl _), hR⟩⟩
  · skip
    have c5 := b2i_ne0.mp c5
    refine x_iload_n G 2 rfl rfl dX7_without_8 ?_
    refine x_iconst G (by decide) dX7_without_9 ?_
    refine x_icmp_ge G 15 (by decide) dX7_without_10 (fun c10 => ?_) (fun c10 => ?_)
    · skip
      refine x_aload_n G 0 rfl rfl dX7_without_15 ?_
      refine x_iload_n G 1 rfl rfl dX7_without_16 ?_
      refine x_callVp G [] [xI i] rfl (by decide) (ly_n hY 195 (by decide)) (ly_k hY 195 (by decide)) hy_X7_isDropped hi_X7_isDropped hs_X7_isDropped ml_X7_70 rfl rfl (kX7_isDropped _ _ V i hY hN hv (by omega)) (by decide) (by decide) (Nat.le_of_ble_eq_true rfl) dX7_without_17 ?_
      refine x_if_eq G 26 (by decide) dX7_without_20 (fun c20 => ?_) (fun c20 => ?_)
      · skip
        have c20 := b2i_eq0.mp c20
        have hit := ok_i hv (i := i) (by omega) (by omega)
        have hsw := ok_s hv hit.1.1 hit.1.2
        refine x_aload_n G 0 rfl rfl dX7_without_26 ?_
        refine x_iload_n G 1 rfl rfl dX7_without_27 ?_
        refine x_callVp G [] [xI i] rfl (by decide) (ly_n hY 195 (by decide)) (ly_k hY 195 (by decide)) hy_X7_shardOf hi_X7_shardOf hs_X7_shardOf ml_X7_62 rfl rfl (kX7_shardOf_u _ _ V i hY hN hv (by omega) (show V 9 i.toNat = 0 by omega)) (by decide) (by decide) (Nat.le_of_ble_eq_true rfl) dX7_without_28 ?_
        refine x_istore_n G [(3, xI (V 4 i.toNat)), (0, xR 195), (1, xI i), (2, xI k)] rfl (by decide) rfl dX7_without_31 ?_
        refine x_aload_n G 1 rfl rfl dX7_without_32 ?_
        refine x_iload_n G 0 rfl rfl dX7_without_33 ?_
        refine x_callVV G [] [xI (V 4 i.toNat)] rfl (by decide) (ly_n hY 195 (by decide)) (ly_k hY 195 (by decide)) hy_X7_laysAlive hi_X7_laysAlive hs_X7_laysAlive ml_X7_128 rfl rfl (kX7_laysAlive _ _ V (V 4 i.toNat) hY hN hv hs hR (by omega)) (by decide) (by decide) (Nat.le_of_ble_eq_true rfl) dX7_without_34 (fun M34 h34 => ?_)
        have hn34 := h34.1.1
        have hl34 : (alN V (V 4 i.toNat)).length ≤ 100 := alL_len hv _ _ _ _
        refine x_aload_n G 1 rfl rfl dX7_without_37 ?_
        refine x_iload_n G 2 rfl rfl dX7_without_38 ?_
        refine x_callVp G [] [xI i] rfl (by decide) (ly_n hY 195 (by decide)) (ly_k hY 195 (by decide)) hy_X7_placeOf hi_X7_placeOf hs_X7_placeOf ml_X7_140 rfl rfl (kX7_placeOf _ _ (alN V (V 4 i.toNat)) i hY h34.1 hl34 (by omega)) (by decide) (by decide) (Nat.le_of_ble_eq_true rfl) dX7_without_39 ?_
        refine x_istore G [(4, xI (qPl (alN V (V 4 i.toNat)) i.toNat)), (3, xI (V 4 i.toNat)), (0, xR 195), (1, xI i), (2, xI k)] (by decide) rfl dX7_without_42 ?_
        have hlA : (alN V (V 4 i.toNat)).length ≤ 100 := hl34
        have hpb : (qPl (alN V (V 4 i.toNat)) i.toNat) < (alN V (V 4 i.toNat)).length := by (unfold qPl; split; (next g => have := List.idxOf_lt_length_of_mem g; omega); omega)
        refine x_iload G 0 rfl dX7_without_44 ?_
        refine x_istore G [(5, xI (qPl (alN V (V 4 i.toNat)) i.toNat)), (4, xI (qPl (alN V (V 4 i.toNat)) i.toNat)), (3, xI (V 4 i.toNat)), (0, xR 195), (1, xI i), (2, xI k)] (by decide) rfl dX7_without_46 ?_
        have loop48 : ∀ (d : Nat) (q : Int) (N1 : xM), ((alN V (V 4 i.toNat)).length - q).toNat = d → (((qPl (alN V (V 4 i.toNat)) i.toNat) < 0 ∧ q = (qPl (alN V (V 4 i.toNat)) i.toNat)) ∨ (0 ≤ (qPl (alN V (V 4 i.toNat)) i.toNat) ∧ (qPl (alN V (V 4 i.toNat)) i.toNat) ≤ q ∧ q < (alN V (V 4 i.toNat)).length)) → (mfr M N1) → (Rk N1 V) → (N1 195 8 = ((alN V (V 4 i.toNat)).length : Int)) → (0 ≤ (qPl (alN V (V 4 i.toNat)) i.toNat) → ∀ j : Nat, (j : Int) < q → N1 202 j = ((((alN V (V 4 i.toNat)).eraseIdx (qPl (alN V (V 4 i.toNat)) i.toNat).toNat).getD j 0 : Nat) : Int)) → (∀ j : Nat, q ≤ j → j < (alN V (V 4 i.toNat)).length → N1 202 j = (((alN V (V 4 i.toNat)).getD j 0 : Nat) : Int)) → xX Γ 0 0 n T 48 [(0, xR 195), (1, xI i), (2, xI k), (3, xI (V 4 i.toNat)), (4, xI (qPl (alN V (V 4 i.toNat)) i.toNat)), (5, xI q)] [] N1 := by
          intro d
          induction d using Nat.strongRecOn with
          | ind d ih48 =>
          intro q N1 hd48 hq hf1 hR1 hrw hlo hhi
          skip
          refine x_iload G 4 rfl dX7_without_48 ?_
          refine x_if_lt G 86 (by decide) dX7_without_50 (fun c50 => ?_) (fun c50 => ?_)
          · skip
            refine x_aload_n G 0 rfl rfl dX7_without_86 ?_
            refine x_dup G rfl dX7_without_87 ?_
            refine x_get G (xI (N1 195 8)) xf7_8 lk_X7_103 (ly_n hY 195 (by decide)) (ly_k hY 195 (by decide)) (Or.inl ⟨rfl, rfl⟩) dX7_without_88 ?_
            refine x_iload G 4 rfl dX7_without_91 ?_
            refine x_if_lt G 100 (by decide) dX7_without_93 (fun c93 => ?_) (fun c93 => ?_)
            · skip
              refine x_iconst G (by decide) dX7_without_100 ?_
              refine x_isub G (by omega) dX7_without_101 ?_
              refine x_put G  xf7_8 lk_X7_103 (ly_n hY 195 (by decide)) (ly_k hY 195 (by decide)) rfl dX7_without_102 ?_
              have hw9 : Rw (xst N1 195 8 ((N1 195 8) - 0)) ((alN V (V 4 i.toNat)).filter fun j => decide (j ≠ i.toNat)) := by (have hni : i.toNat ∉ (alN V (V 4 i.toNat)) := fun g => by have := qpl_ge.mpr g; omega); rw [filter_out hni]; exact ⟨(xst_same ..).trans (by omega), fun j hj => by rw [xst_row (by decide)]; exact hhi j (by omega) hj⟩
              have hw9l : ((alN V (V 4 i.toNat)).filter fun j => decide (j ≠ i.toNat)).length ≤ 100 := Nat.le_trans (List.length_filter_le _ _) hlA
              refine x_aload_n G 0 rfl rfl dX7_without_105 ?_
              refine x_aload_n G 0 rfl rfl dX7_without_106 ?_
              refine x_get G (xR 196) xf7_0 lk_X7_7 (ly_n hY 195 (by decide)) (ly_k hY 195 (by decide)) (Or.inr ⟨rfl, _, (ly_r hY 195 0 (by decide) (by decide)), rfl⟩) dX7_without_107 ?_
              refine x_iconst G (by decide) dX7_without_110 ?_
              refine x_iload_n G 3 rfl rfl dX7_without_111 ?_
              refine x_iadd G (by omega) dX7_without_112 ?_
              refine x_iald G (ly_n hY 196 (by decide)) (ly_k hY 196 (by decide)) (show _ = 511 from ly_l hY 196 (by decide)) (by omega) (by omega) dX7_without_113 ?_
              rw [show (xst N1 195 8 ((N1 195 8) - 0)) 196 (3 + (V 4 i.toNat)).toNat = (V 11 (V 4 i.toNat).toNat) from (mr_sz (mr_cg (mr_cg hN (hf1.1 196 (by omega))) (xst_row (by omega))) (by omega))]
              refine x_callVV G [] [xI (V 11 (V 4 i.toNat).toNat)] rfl (by decide) (ly_n hY 195 (by decide)) (ly_k hY 195 (by decide)) hy_X7_cuts hi_X7_cuts hs_X7_cuts ml_X7_131 rfl rfl (kX7_cuts _ _ ((alN V (V 4 i.toNat)).filter fun j => decide (j ≠ i.toNat)) (V 11 (V 4 i.toNat).toNat) hY hw9 hw9l (by omega)) (by decide) (by decide) (Nat.le_of_ble_eq_true rfl) dX7_without_114 (fun M114 h114 => ?_)
              subst h114
              show xX Γ 0 0 n T 117 [(0, xR 195), (1, xI i), (2, xI k), (3, xI (V 4 i.toNat)), (4, xI (qPl (alN V (V 4 i.toNat)) i.toNat)), (5, xI q)] [] (xst (xst N1 195 8 ((N1 195 8) - 0)) 195 8 ((((alN V (V 4 i.toNat)).filter fun j => decide (j ≠ i.toNat)).take (V 11 (V 4 i.toNat).toNat).toNat).length : Int))
              refine x_aload_n G 0 rfl rfl dX7_without_117 ?_
              refine x_iload_n G 2 rfl rfl dX7_without_118 ?_
              refine x_callVp G [] [xI k] rfl (by decide) (ly_n hY 195 (by decide)) (ly_k hY 195 (by decide)) hy_X7_toldOf hi_X7_toldOf hs_X7_toldOf ml_X7_146 rfl rfl (kX7_toldOf _ _ (((alN V (V 4 i.toNat)).filter fun j => decide (j ≠ i.toNat)).take (V 11 (V 4 i.toNat).toNat).toNat) k hY (rw_take hw9 (xst_same ..) (xst_row (by decide))) (take_len hw9l) (by omega)) (by decide) (by decide) (Nat.le_of_ble_eq_true rfl) dX7_without_119 ?_
              exact x_iret G Rt dX7_without_122 ⟨rfl, rfl, _, rfl, ⟨(by unfold qWithout; (repeat (first | rw [if_pos (by omega)] | rw [if_neg (by omega)])) <;> try rfl), (mfr_st (mfr_st hf1 (by omega)) (by omega)), (rk_cg (rk_cg hR1 (xst_nq (by omega)) (xst_row (by omega))) (xst_nq (by omega)) (xst_row (by omega)))⟩⟩
            · skip
              exfalso; omega
          · skip
            refine x_iload G 5 rfl dX7_without_53 ?_
            refine x_iconst G (by decide) dX7_without_55 ?_
            refine x_iadd G (by omega) dX7_without_56 ?_
            refine x_aload_n G 0 rfl rfl dX7_without_57 ?_
            refine x_get G (xI (N1 195 8)) xf7_8 lk_X7_103 (ly_n hY 195 (by decide)) (ly_k hY 195 (by decide)) (Or.inl ⟨rfl, rfl⟩) dX7_without_58 ?_
            refine x_icmp_ge G 86 (by decide) dX7_without_61 (fun c61 => ?_) (fun c61 => ?_)
            · skip
              refine x_aload_n G 0 rfl rfl dX7_without_86 ?_
              refine x_dup G rfl dX7_without_87 ?_
              refine x_get G (xI (N1 195 8)) xf7_8 lk_X7_103 (ly_n hY 195 (by decide)) (ly_k hY 195 (by decide)) (Or.inl ⟨rfl, rfl⟩) dX7_without_88 ?_
              refine x_iload G 4 rfl dX7_without_91 ?_
              refine x_if_lt G 100 (by decide) dX7_without_93 (fun c93 => ?_) (fun c93 => ?_)
              · skip
                exfalso; omega
              · skip
                refine x_iconst G (by decide) dX7_without_96 ?_
                refine x_goto G 101 (by decide) dX7_without_97 ?_
                refine x_isub G (by omega) dX7_without_101 ?_
                refine x_put G  xf7_8 lk_X7_103 (ly_n hY 195 (by decide)) (ly_k hY 195 (by decide)) rfl dX7_without_102 ?_
                have hin9 : i.toNat ∈ (alN V (V 4 i.toNat)) := qpl_ge.mp (by omega)
                have hpe : (qPl (alN V (V 4 i.toNat)) i.toNat) = (((alN V (V 4 i.toNat)).idxOf i.toNat : Nat) : Int) := by unfold qPl; rw [if_pos hin9]
                have hfe : ((alN V (V 4 i.toNat)).filter fun j => decide (j ≠ i.toNat)) = ((alN V (V 4 i.toNat)).eraseIdx (qPl (alN V (V 4 i.toNat)) i.toNat).toNat) := by rw [filter_ne (A := (alN V (V 4 i.toNat))) (al_nodup hs _ _ _ _) hin9]; congr 1; omega
                have hel : ((alN V (V 4 i.toNat)).eraseIdx (qPl (alN V (V 4 i.toNat)) i.toNat).toNat).length = (alN V (V 4 i.toNat)).length - 1 := by rw [List.length_eraseIdx, if_pos (by have := List.idxOf_lt_length_of_mem hin9; omega)]
                have hw9 : Rw (xst N1 195 8 ((N1 195 8) - 1)) ((alN V (V 4 i.toNat)).filter fun j => decide (j ≠ i.toNat)) := by (rw [hfe]; exact ⟨(xst_same ..).trans (by omega), fun j hj => by rw [xst_row (by decide)]; rw [hel] at hj; rcases Nat.lt_or_ge j q.toNat with g | g; exact hlo (by omega) j (by omega); exact absurd g (by omega)⟩)
                have hw9l : ((alN V (V 4 i.toNat)).filter fun j => decide (j ≠ i.toNat)).length ≤ 100 := Nat.le_trans (List.length_filter_le _ _) hlA
                refine x_aload_n G 0 rfl rfl dX7_without_105 ?_
                refine x_aload_n G 0 rfl rfl dX7_without_106 ?_
                refine x_get G (xR 196) xf7_0 lk_X7_7 (ly_n hY 195 (by decide)) (ly_k hY 195 (by decide)) (Or.inr ⟨rfl, _, (ly_r hY 195 0 (by decide) (by decide)), rfl⟩) dX7_without_107 ?_
                refine x_iconst G (by decide) dX7_without_110 ?_
                refine x_iload_n G 3 rfl rfl dX7_without_111 ?_
                refine x_iadd G (by omega) dX7_without_112 ?_
                refine x_iald G (ly_n hY 196 (by decide)) (ly_k hY 196 (by decide)) (show _ = 511 from ly_l hY 196 (by decide)) (by omega) (by omega) dX7_without_113 ?_
                rw [show (xst N1 195 8 ((N1 195 8) - 1)) 196 (3 + (V 4 i.toNat)).toNat = (V 11 (V 4 i.toNat).toNat) from (mr_sz (mr_cg (mr_cg hN (hf1.1 196 (by omega))) (xst_row (by omega))) (by omega))]
                refine x_callVV G [] [xI (V 11 (V 4 i.toNat).toNat)] rfl (by decide) (ly_n hY 195 (by decide)) (ly_k hY 195 (by decide)) hy_X7_cuts hi_X7_cuts hs_X7_cuts ml_X7_131 rfl rfl (kX7_cuts _ _ ((alN V (V 4 i.toNat)).filter fun j => decide (j ≠ i.toNat)) (V 11 (V 4 i.toNat).toNat) hY hw9 hw9l (by omega)) (by decide) (by decide) (Nat.le_of_ble_eq_true rfl) dX7_without_114 (fun M114 h114 => ?_)
                subst h114
                show xX Γ 0 0 n T 117 [(0, xR 195), (1, xI i), (2, xI k), (3, xI (V 4 i.toNat)), (4, xI (qPl (alN V (V 4 i.toNat)) i.toNat)), (5, xI q)] [] (xst (xst N1 195 8 ((N1 195 8) - 1)) 195 8 ((((alN V (V 4 i.toNat)).filter fun j => decide (j ≠ i.toNat)).take (V 11 (V 4 i.toNat).toNat).toNat).length : Int))
                refine x_aload_n G 0 rfl rfl dX7_without_117 ?_
                refine x_iload_n G 2 rfl rfl dX7_without_118 ?_
                refine x_callVp G [] [xI k] rfl (by decide) (ly_n hY 195 (by decide)) (ly_k hY 195 (by decide)) hy_X7_toldOf hi_X7_toldOf hs_X7_toldOf ml_X7_146 rfl rfl (kX7_toldOf _ _ (((alN V (V 4 i.toNat)).filter fun j => decide (j ≠ i.toNat)).take (V 11 (V 4 i.toNat).toNat).toNat) k hY (rw_take hw9 (xst_same ..) (xst_row (by decide))) (take_len hw9l) (by omega)) (by decide) (by decide) (Nat.le_of_ble_eq_true rfl) dX7_without_119 ?_
                exact x_iret G Rt dX7_without_122 ⟨rfl, rfl, _, rfl, ⟨(by unfold qWithout; (repeat (first | rw [if_pos (by omega)] | rw [if_neg (by omega)])) <;> try rfl), (mfr_st (mfr_st hf1 (by omega)) (by omega)), (rk_cg (rk_cg hR1 (xst_nq (by omega)) (xst_row (by omega))) (xst_nq (by omega)) (xst_row (by omega)))⟩⟩
            · skip
              refine x_aload_n G 0 rfl rfl dX7_without_64 ?_
              refine x_get G (xR 202) xf7_7 lk_X7_29 (ly_n hY 195 (by decide)) (ly_k hY 195 (by decide)) (Or.inr ⟨rfl, _, (ly_r hY 195 7 (by decide) (by decide)), rfl⟩) dX7_without_65 ?_
              refine x_iload G 5 rfl dX7_without_68 ?_
              refine x_aload_n G 0 rfl rfl dX7_without_70 ?_
              refine x_get G (xR 202) xf7_7 lk_X7_29 (ly_n hY 195 (by decide)) (ly_k hY 195 (by decide)) (Or.inr ⟨rfl, _, (ly_r hY 195 7 (by decide) (by decide)), rfl⟩) dX7_without_71 ?_
              refine x_iload G 5 rfl dX7_without_74 ?_
              refine x_iconst G (by decide) dX7_without_76 ?_
              refine x_iadd G (by omega) dX7_without_77 ?_
              refine x_iald G (ly_n hY 202 (by decide)) (ly_k hY 202 (by decide)) (show _ = 100 from ly_l hY 202 (by decide)) (by omega) (by omega) dX7_without_78 ?_
              refine x_iast G (ly_n hY 202 (by decide)) (ly_k hY 202 (by decide)) (show _ = 100 from ly_l hY 202 (by decide)) (by omega) (by omega) dX7_without_79 ?_
              refine x_iinc G [(5, xI (q + 1)), (0, xR 195), (1, xI i), (2, xI k), (3, xI (V 4 i.toNat)), (4, xI (qPl (alN V (V 4 i.toNat)) i.toNat))] 5 rfl (by decide) (by omega) rfl dX7_without_80 ?_
              refine x_goto G 48 (by decide) dX7_without_83 ?_
              refine x_sub [(0, xR 195), (1, xI i), (2, xI k), (3, xI (V 4 i.toNat)), (4, xI (qPl (alN V (V 4 i.toNat)) i.toNat)), (5, xI (q + 1))] [1, 2, 3, 4, 5, 0] rfl ?_
              exact ih48 _ (by omega) (q + 1) (xst N1 202 q.toNat (N1 202 (q + 1).toNat)) rfl (by omega) ((mfr_st hf1 (by omega))) ((rk_cg hR1 (xst_nq (by omega)) (xst_row (by omega)))) ((xst_nq (by omega)).trans hrw) (fun g j hj => by rw [xst_eq]; by_cases e : j = q.toNat; (rw [if_pos ⟨rfl, e⟩, erase_get, if_neg (by omega), hhi (q + 1).toNat (by omega) (by omega)]; congr 2; omega); (rw [if_neg (fun h => e h.2)]; exact hlo g j (by omega))) (fun j h1 h2 => by rw [xst_nq (by omega)]; exact hhi j (by omega) h2)
        refine x_sub [(0, xR 195), (1, xI i), (2, xI k), (3, xI (V 4 i.toNat)), (4, xI (qPl (alN V (V 4 i.toNat)) i.toNat)), (5, xI (qPl (alN V (V 4 i.toNat)) i.toNat))] [3, 4, 5, 2, 1, 0] rfl ?_
        exact loop48 _ (qPl (alN V (V 4 i.toNat)) i.toNat) M34 rfl (by omega) ((mfr_tr (mfr_refl _) (mfx_w 207 h34.2.1 (by decide)))) (h34.2.2) (h34.1.1) (fun g j hj => by rw [erase_get, if_pos (by omega)]; exact h34.1.2 j (by omega)) (fun j _ hj => h34.1.2 j hj)
      · skip
        have c20 := b2i_ne0.mp c20
        refine x_bipush G (by decide) dX7_without_23 ?_
        exact x_iret G Rt dX7_without_25 ⟨rfl, rfl, _, rfl, ⟨(by unfold qWithout; (repeat (first | rw [if_pos (by omega)] | rw [if_neg (by omega)])) <;> try rfl), (mfr_refl _), hR⟩⟩
    · skip
      refine x_iconst G (by decide) dX7_without_13 ?_
      exact x_iret G Rt dX7_without_14 ⟨rfl, rfl, _, rfl, ⟨(by unfold qWithout; (repeat (first | rw [if_pos (by omega)] | rw [if_neg (by omega)])) <;> try rfl), (mfr_refl _), hR⟩⟩
set_option maxRecDepth 100000 in
set_option maxHeartbeats 4000000 in
theorem kX7_nextLot (D : xD) (l : Launch) {n : Nat} {T : xT} {M : xM} (V : xM) (k : Int) (hY : LayOK n T) (hN : mrel (M 196) V) (hv : VOK V) (hs : Srt V (V 10) (V 0 10).toNat) (hR : Rk M V) : xC D l uX7_nextLot 1 25 0 0 [xR 195, xI k] n T M (xPI n T (fun z M2 => z = qNext V k ∧ mfr M M2 ∧ Rk M2 V)) := by
  refine x_met uX7_nextLot (by decide) (Nat.le_of_ble_eq_true rfl) ?_
  intro Γ G Rt _
  have G : xG Γ RX7 cX7_nextLot 5 1 25 0 0 := G
  have Rt : xRt Γ (xPI n T (fun z M2 => z = qNext V k ∧ mfr M M2 ∧ Rk M2 V)) (some .int) 0 0 := Rt
  show xX Γ 0 0 n T 0 [(0, xR 195), (1, xI k)] [] M
  have hc := ok_c hv
  have hsc := hv.1
  refine x_iload_n G 1 rfl rfl dX7_nextLot_0 ?_
  refine x_i2l G dX7_nextLot_1 ?_
  refine x_lconst G dX7_nextLot_2 ?_
  show xX Γ 0 0 n T 3 [(0, xR 195), (1, xI k)] [xL 0, xL k] M
  refine x_ldc2 G (z := 999) (by decide) kc_X7_367 dX7_nextLot_3 ?_
  refine x_callSp G [] [xL k, xL 0, xL 999] hy_X7_in ht_X7_in ml_X7_54 rfl rfl (kX7_in _ _ k 0 999) (by decide) (by decide) (Nat.le_of_ble_eq_true rfl) dX7_nextLot_6 ?_
  refine x_if_ne G 14 (by decide) dX7_nextLot_9 (fun c9 => ?_) (fun c9 => ?_)
  · skip
    have c9 := b2i_ne0.mp c9
    refine x_aload_n G 0 rfl rfl dX7_nextLot_14 ?_
    refine x_get G (xR 196) xf7_0 lk_X7_7 (ly_n hY 195 (by decide)) (ly_k hY 195 (by decide)) (Or.inr ⟨rfl, _, (ly_r hY 195 0 (by decide) (by decide)), rfl⟩) dX7_nextLot_15 ?_
    refine x_iconst G (by decide) dX7_nextLot_18 ?_
    refine x_iald G (ly_n hY 196 (by decide)) (ly_k hY 196 (by decide)) (show _ = 511 from ly_l hY 196 (by decide)) (by omega) (by omega) dX7_nextLot_19 ?_
    show xX Γ 0 0 n T 20 [(0, xR 195), (1, xI k)] [xI (M 196 1)] M
    rw [show M 196 1 = (V 0 12) from hN.1.2.1]
    refine x_istore_n G [(2, xI (V 0 12)), (0, xR 195), (1, xI k)] rfl (by decide) rfl dX7_nextLot_20 ?_
    refine x_iconst G (by decide) dX7_nextLot_21 ?_
    refine x_istore_n G [(3, xI 0), (2, xI (V 0 12)), (0, xR 195), (1, xI k)] rfl (by decide) rfl dX7_nextLot_22 ?_
    refine x_iconst G (by decide) dX7_nextLot_23 ?_
    refine x_istore G [(4, xI 0), (3, xI 0), (2, xI (V 0 12)), (0, xR 195), (1, xI k)] (by decide) rfl dX7_nextLot_24 ?_
    have loop26 : ∀ (d : Nat) (j : Int) (sd : Int) (lt9 : Int) (N1 : xM), (k + 1 - j).toNat = d → (0 ≤ j ∧ j ≤ k + 1) → (sd = itd j.toNat (V 0 12)) → (0 ≤ sd ∧ sd < 65536) → (0 < j → lt9 = sd / 64) → (mfr (xst M 196 1 sd) N1) → (Rk N1 V) → xX Γ 0 0 n T 26 [(0, xR 195), (1, xI k), (2, xI (V 0 12)), (3, xI lt9), (4, xI j)] [] N1 := by
      intro d
      induction d using Nat.strongRecOn with
      | ind d ih26 =>
      intro j sd lt9 N1 hd26 hk hsd hsb hlt hf1 hR1
      have hsdb : (xst V 0 12 sd) 0 12 = sd := xst_same ..
      refine x_iload G 4 rfl dX7_nextLot_26 ?_
      refine x_iload_n G 1 rfl rfl dX7_nextLot_28 ?_
      refine x_icmp_gt G 47 (by decide) dX7_nextLot_29 (fun c29 => ?_) (fun c29 => ?_)
      · skip
        refine x_aload_n G 0 rfl rfl dX7_nextLot_47 ?_
        refine x_get G (xR 196) xf7_0 lk_X7_7 (ly_n hY 195 (by decide)) (ly_k hY 195 (by decide)) (Or.inr ⟨rfl, _, (ly_r hY 195 0 (by decide) (by decide)), rfl⟩) dX7_nextLot_48 ?_
        refine x_iconst G (by decide) dX7_nextLot_51 ?_
        refine x_iload_n G 2 rfl rfl dX7_nextLot_52 ?_
        refine x_iast G (ly_n hY 196 (by decide)) (ly_k hY 196 (by decide)) (show _ = 511 from ly_l hY 196 (by decide)) (by omega) (by omega) dX7_nextLot_53 ?_
        show xX Γ 0 0 n T 54 [(0, xR 195), (1, xI k), (2, xI (V 0 12)), (3, xI lt9), (4, xI j)] [] (xst N1 196 1 (V 0 12))
        skip
        refine x_iload_n G 3 rfl rfl dX7_nextLot_54 ?_
        exact x_iret G Rt dX7_nextLot_55 ⟨rfl, rfl, _, rfl, ⟨(by unfold qNext; rw [if_pos (by omega), hlt (by omega), hsd, show j.toNat = k.toNat + 1 by omega]), (mfr_back hf1 hN.1.2.1), (rk_cg hR1 (xst_nq (by omega)) (xst_row (by omega)))⟩⟩
      · skip
        refine x_aload_n G 0 rfl rfl dX7_nextLot_32 ?_
        refine x_aload_n G 0 rfl rfl dX7_nextLot_33 ?_
        refine x_get G (xR 196) xf7_0 lk_X7_7 (ly_n hY 195 (by decide)) (ly_k hY 195 (by decide)) (Or.inr ⟨rfl, _, (ly_r hY 195 0 (by decide) (by decide)), rfl⟩) dX7_nextLot_34 ?_
        refine x_callVI G [] [xR 196] rfl (by decide) (ly_n hY 195 (by decide)) (ly_k hY 195 (by decide)) hy_X7_drawn hi_X7_drawn hs_X7_drawn ml_X7_174 rfl rfl (kX7_drawn _ _ sd hY ((mr_cg (mr_sd hN) (hf1.1 196 (by omega))).1.2.1.trans hsdb) (by omega)) (by decide) (by decide) (Nat.le_of_ble_eq_true rfl) dX7_nextLot_37 (fun z37 M37 h37 => ?_)
        obtain ⟨hz37, rfl⟩ := h37
        have hdb := drw_b sd
        have hf2 : mfr (xst M 196 1 (drw sd)) (xst N1 196 1 (drw sd)) := mfr_more hf1
        rw [hz37]
        refine x_istore_n G [(3, xI (drw sd / 64)), (0, xR 195), (1, xI k), (2, xI (V 0 12)), (4, xI j)] rfl (by decide) rfl dX7_nextLot_40 ?_
        refine x_iinc G [(4, xI (j + 1)), (3, xI (drw sd / 64)), (0, xR 195), (1, xI k), (2, xI (V 0 12))] 4 rfl (by decide) (by omega) rfl dX7_nextLot_41 ?_
        refine x_goto G 26 (by decide) dX7_nextLot_44 ?_
        refine x_sub [(0, xR 195), (1, xI k), (2, xI (V 0 12)), (3, xI (drw sd / 64)), (4, xI (j + 1))] [2, 3, 4, 1, 0] rfl ?_
        exact ih26 _ (by omega) (j + 1) (drw sd) (drw sd / 64) (xst N1 196 1 (drw sd)) rfl (by omega) (by rw [show (j + 1).toNat = j.toNat + 1 by omega]; unfold itd; rw [← hsd]) (by omega) (fun _ => rfl) (hf2) ((rk_cg hR1 (xst_nq (by omega)) (xst_row (by omega))))
    refine x_sub [(0, xR 195), (1, xI k), (2, xI (V 0 12)), (3, xI 0), (4, xI 0)] [3, 4, 2, 1, 0] rfl ?_
    exact loop26 _ 0 (V 0 12) 0 M rfl (by omega) (rfl) (by omega) (by omega) ((by rw [xst_id hN.1.2.1]; exact (mfr_refl _))) (hR)
  · skip
    have c9 := b2i_eq0.mp c9
    refine x_iconst G (by decide) dX7_nextLot_12 ?_
    exact x_iret G Rt dX7_nextLot_13 ⟨rfl, rfl, _, rfl, ⟨(by unfold qNext; (repeat (first | rw [if_pos (by omega)] | rw [if_neg (by omega)])) <;> try rfl), (mfr_refl _), hR⟩⟩
set_option maxRecDepth 100000 in
set_option maxHeartbeats 4000000 in
theorem kX7_expired (D : xD) (l : Launch) {n : Nat} {T : xT} {M : xM} (V : xM) (sh k : Int) (hY : LayOK n T) (hN : mrel (M 196) V) (hv : VOK V) (hs : Srt V (V 10) (V 0 10).toNat) (hR : Rk M V) : xC D l uX7_expired 5 106 0 0 [xR 195, xI sh, xI k] n T M (xPI n T (fun z M2 => z = qExpired V sh k ∧ mfr M M2 ∧ Rk M2 V)) := by
  refine x_met uX7_expired (by decide) (Nat.le_of_ble_eq_true rfl) ?_
  intro Γ G Rt _
  have G : xG Γ RX7 cX7_expired 4 5 106 0 0 := G
  have Rt : xRt Γ (xPI n T (fun z M2 => z = qExpired V sh k ∧ mfr M M2 ∧ Rk M2 V)) (some .int) 0 0 := Rt
  show xX Γ 0 0 n T 0 [(0, xR 195), (1, xI sh), (2, xI k)] [] M
  have hc := ok_c hv
  refine x_iload_n G 1 rfl rfl dX7_expired_0 ?_
  refine x_callSp G [] [xI sh] hy_X7_isShard ht_X7_isShard ml_X7_143 rfl rfl (kX7_isShard _ _ sh) (by decide) (by decide) (Nat.le_of_ble_eq_true rfl) dX7_expired_1 ?_
  refine x_if_eq G 12 (by decide) dX7_expired_4 (fun c4 => ?_) (fun c4 => ?_)
  · skip
    have c4 := b2i_eq0.mp c4
    refine x_iconst G (by decide) dX7_expired_12 ?_
    exact x_iret G Rt dX7_expired_13 ⟨rfl, rfl, _, rfl, ⟨(by unfold qExpired; (repeat (first | rw [if_pos (by omega)] | rw [if_neg (by omega)])) <;> try rfl), (mfr_refl _), hR⟩⟩
  · skip
    have c4 := b2i_ne0.mp c4
    refine x_iload_n G 2 rfl rfl dX7_expired_7 ?_
    refine x_iconst G (by decide) dX7_expired_8 ?_
    refine x_icmp_ge G 14 (by decide) dX7_expired_9 (fun c9 => ?_) (fun c9 => ?_)
    · skip
      refine x_aload_n G 0 rfl rfl dX7_expired_14 ?_
      refine x_callVV G [] [] rfl (by decide) (ly_n hY 195 (by decide)) (ly_k hY 195 (by decide)) hy_X7_begins_ hi_X7_begins_ hs_X7_begins_ ml_X7_118 rfl rfl (kX7_begins_ _ _ hY) (by decide) (by decide) (Nat.le_of_ble_eq_true rfl) dX7_expired_15 (fun M15 h15 => ?_)
      subst h15
      show xX Γ 0 0 n T 18 [(0, xR 195), (1, xI sh), (2, xI k)] [] (xst M 195 8 0)
      refine x_iconst G (by decide) dX7_expired_18 ?_
      refine x_istore_n G [(3, xI 0), (0, xR 195), (1, xI sh), (2, xI k)] rfl (by decide) rfl dX7_expired_19 ?_
      have loop20 : ∀ (d : Nat) (k9 : Int) (N1 : xM), (V 0 10 - k9).toNat = d → (0 ≤ k9 ∧ k9 ≤ V 0 10) → (mfr M N1) → (Rk N1 V) → (Rw N1 ((List.range k9.toNat).filter fun i => decide (und V i sh (-1) ∧ ¬ alv V i (V 0 11)))) → xX Γ 0 0 n T 20 [(0, xR 195), (1, xI sh), (2, xI k), (3, xI k9)] [] N1 := by
        intro d
        induction d using Nat.strongRecOn with
        | ind d ih20 =>
        intro k9 N1 hd20 hk9 hf1 hR1 hw1
        have hrl := range_len (fun i => und V i sh (-1) ∧ ¬ alv V i (V 0 11)) k9.toNat
        refine x_iload_n G 3 rfl rfl dX7_expired_20 ?_
        refine x_aload_n G 0 rfl rfl dX7_expired_21 ?_
        refine x_get G (xR 196) xf7_0 lk_X7_7 (ly_n hY 195 (by decide)) (ly_k hY 195 (by decide)) (Or.inr ⟨rfl, _, (ly_r hY 195 0 (by decide) (by decide)), rfl⟩) dX7_expired_22 ?_
        refine x_iconst G (by decide) dX7_expired_25 ?_
        refine x_iald G (ly_n hY 196 (by decide)) (ly_k hY 196 (by decide)) (show _ = 511 from ly_l hY 196 (by decide)) (by omega) (by omega) dX7_expired_26 ?_
        show xX Γ 0 0 n T 27 [(0, xR 195), (1, xI sh), (2, xI k), (3, xI k9)] [xI (N1 196 2), xI k9] N1
        rw [show N1 196 2 = (V 0 10) from (mr_cg hN (hf1.1 196 (by omega))).1.2.2]
        refine x_icmp_ge G 58 (by decide) dX7_expired_27 (fun c27 => ?_) (fun c27 => ?_)
        · skip
          have hke : k9 = V 0 10 := by omega
          skip
          refine x_aload_n G 0 rfl rfl dX7_expired_58 ?_
          refine x_iload_n G 2 rfl rfl dX7_expired_59 ?_
          refine x_callVp G [] [xI k] rfl (by decide) (ly_n hY 195 (by decide)) (ly_k hY 195 (by decide)) hy_X7_toldOf hi_X7_toldOf hs_X7_toldOf ml_X7_146 rfl rfl (kX7_toldOf _ _ (exL V sh) k hY (show Rw _ (exL V sh) from (by have h9 := hw1; rw [hke] at h9; exact h9)) (range_len _ _ |> fun h => Nat.le_trans h (by omega)) (by omega)) (by decide) (by decide) (Nat.le_of_ble_eq_true rfl) dX7_expired_60 ?_
          exact x_iret G Rt dX7_expired_63 ⟨rfl, rfl, _, rfl, ⟨(by unfold qExpired; (repeat (first | rw [if_pos (by omega)] | rw [if_neg (by omega)])) <;> try rfl), hf1, hR1⟩⟩
        · skip
          have hit := ok_i hv hk9.1 (by omega)
          refine x_aload_n G 0 rfl rfl dX7_expired_30 ?_
          refine x_iload_n G 3 rfl rfl dX7_expired_31 ?_
          refine x_callVp G [] [xI k9] rfl (by decide) (ly_n hY 195 (by decide)) (ly_k hY 195 (by decide)) hy_X7_shardOf hi_X7_shardOf hs_X7_shardOf ml_X7_62 rfl rfl (kX7_shardOf _ _ V k9 hY (mr_cg hN (hf1.1 196 (by omega))) hv (by omega)) (by decide) (by decide) (Nat.le_of_ble_eq_true rfl) dX7_expired_32 ?_
          refine x_iload_n G 1 rfl rfl dX7_expired_35 ?_
          refine x_icmp_ne G 52 (by decide) dX7_expired_36 (fun c36 => ?_) (fun c36 => ?_)
          · skip
            refine x_iinc G [(3, xI (k9 + 1)), (0, xR 195), (1, xI sh), (2, xI k)] 3 rfl (by decide) (by omega) rfl dX7_expired_52 ?_
            refine x_goto G 20 (by decide) dX7_expired_55 ?_
            refine x_sub [(0, xR 195), (1, xI sh), (2, xI k), (3, xI (k9 + 1))] [1, 2, 3, 0] rfl ?_
            exact ih20 _ (by omega) (k9 + 1) N1 rfl (by omega) (hf1) (hR1) (by rw [show (k9 + 1).toNat = k9.toNat + 1 by omega, ex_add V sh (fun i => und V i sh (-1) ∧ ¬ alv V i (V 0 11))]; rw [if_neg (fun h => by have h1 := h.1.1; have h2 := h.1.2.1; omega), List.append_nil]; exact hw1)
          · skip
            refine x_aload_n G 0 rfl rfl dX7_expired_39 ?_
            refine x_iload_n G 3 rfl rfl dX7_expired_40 ?_
            refine x_callVp G [] [xI k9] rfl (by decide) (ly_n hY 195 (by decide)) (ly_k hY 195 (by decide)) hy_X7_isExpired hi_X7_isExpired hs_X7_isExpired ml_X7_355 rfl rfl (kX7_isExpired _ _ V k9 hY (mr_cg hN (hf1.1 196 (by omega))) hv (by omega)) (by decide) (by decide) (Nat.le_of_ble_eq_true rfl) dX7_expired_41 ?_
            refine x_if_eq G 52 (by decide) dX7_expired_44 (fun c44 => ?_) (fun c44 => ?_)
            · skip
              have c44 := b2i_eq0.mp c44
              refine x_iinc G [(3, xI (k9 + 1)), (0, xR 195), (1, xI sh), (2, xI k)] 3 rfl (by decide) (by omega) rfl dX7_expired_52 ?_
              refine x_goto G 20 (by decide) dX7_expired_55 ?_
              refine x_sub [(0, xR 195), (1, xI sh), (2, xI k), (3, xI (k9 + 1))] [1, 2, 3, 0] rfl ?_
              exact ih20 _ (by omega) (k9 + 1) N1 rfl (by omega) (hf1) (hR1) (by rw [show (k9 + 1).toNat = k9.toNat + 1 by omega, ex_add V sh (fun i => und V i sh (-1) ∧ ¬ alv V i (V 0 11))]; rw [if_neg (fun h => by have h1 := h.1.1; have h2 := h.1.2.1; exact c44 ⟨h1, h.2⟩), List.append_nil]; exact hw1)
            · skip
              have c44 := b2i_ne0.mp c44
              refine x_aload_n G 0 rfl rfl dX7_expired_47 ?_
              refine x_iload_n G 3 rfl rfl dX7_expired_48 ?_
              refine x_callVV G [] [xI k9] rfl (by decide) (ly_n hY 195 (by decide)) (ly_k hY 195 (by decide)) hy_X7_comesIn hi_X7_comesIn hs_X7_comesIn ml_X7_120 rfl rfl (kX7_comesIn _ _ ((List.range k9.toNat).filter fun i => decide (und V i sh (-1) ∧ ¬ alv V i (V 0 11))) k9 hY hw1 (by omega)) (by decide) (by decide) (Nat.le_of_ble_eq_true rfl) dX7_expired_49 (fun M49 h49 => ?_)
              subst h49
              show xX Γ 0 0 n T 52 [(0, xR 195), (1, xI sh), (2, xI k), (3, xI k9)] [] (xst (xst N1 202 ((List.range k9.toNat).filter fun i => decide (und V i sh (-1) ∧ ¬ alv V i (V 0 11))).length k9) 195 8 ((((List.range k9.toNat).filter fun i => decide (und V i sh (-1) ∧ ¬ alv V i (V 0 11))).length : Int) + 1))
              refine x_iinc G [(3, xI (k9 + 1)), (0, xR 195), (1, xI sh), (2, xI k)] 3 rfl (by decide) (by omega) rfl dX7_expired_52 ?_
              refine x_goto G 20 (by decide) dX7_expired_55 ?_
              refine x_sub [(0, xR 195), (1, xI sh), (2, xI k), (3, xI (k9 + 1))] [1, 2, 3, 0] rfl ?_
              exact ih20 _ (by omega) (k9 + 1) (xst (xst N1 202 ((List.range k9.toNat).filter fun i => decide (und V i sh (-1) ∧ ¬ alv V i (V 0 11))).length k9) 195 8 ((((List.range k9.toNat).filter fun i => decide (und V i sh (-1) ∧ ¬ alv V i (V 0 11))).length : Int) + 1)) rfl (by omega) ((mfr_st (mfr_st hf1 (by omega)) (by omega))) ((rk_cg (rk_cg hR1 (xst_nq (by omega)) (xst_row (by omega))) (xst_nq (by omega)) (xst_row (by omega)))) (by rw [show (k9 + 1).toNat = k9.toNat + 1 by omega, ex_add V sh (fun i => und V i sh (-1) ∧ ¬ alv V i (V 0 11))]; rw [if_pos ⟨⟨c44.1, Or.inr (by omega), Or.inl rfl⟩, c44.2⟩]; exact (rw_add hw1 (by omega) (xst_same ..) (fun j => by rw [xst_row (by decide), xst_eq]; by_cases e : j = ((List.range k9.toNat).filter fun i => decide (und V i sh (-1) ∧ ¬ alv V i (V 0 11))).length; rw [if_pos ⟨rfl, e⟩, if_pos e]; rw [if_neg (fun h => e h.2), if_neg e])))
      refine x_sub [(0, xR 195), (1, xI sh), (2, xI k), (3, xI 0)] [1, 2, 3, 0] rfl ?_
      exact loop20 _ 0 (xst M 195 8 0) rfl (by omega) ((mfr_st (mfr_refl _) (by omega))) ((rk_cg hR (xst_nq (by omega)) (xst_row (by omega)))) ((show Rw _ [] from (rw_nil (xst_same ..))))
    · skip
      refine x_iconst G (by decide) dX7_expired_12 ?_
      exact x_iret G Rt dX7_expired_13 ⟨rfl, rfl, _, rfl, ⟨(by unfold qExpired; (repeat (first | rw [if_pos (by omega)] | rw [if_neg (by omega)])) <;> try rfl), (mfr_refl _), hR⟩⟩
