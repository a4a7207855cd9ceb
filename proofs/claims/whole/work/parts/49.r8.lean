set_option maxRecDepth 100000 in
set_option maxHeartbeats 4000000 in
theorem kX7_played (D : xD) (l : Launch) {n : Nat} {T : xT} {M : xM} (V : xM) (sh what : Int) (hY : LayOK n T) (hN : mrel (M 196) V) (hv : VOK V) (hs : Srt V (V 10) (V 0 10).toNat) (hR : Rk M V) : xC D l uX7_played 9 217 0 0 [xR 195, xI sh, xI what] n T M (xPI n T (fun z M2 => z = qPlayed V sh what ∧ mfr M M2 ∧ Rk M2 V)) := by
  refine x_met uX7_played (by decide) (Nat.le_of_ble_eq_true rfl) ?_
  intro Γ G Rt _
  have G : xG Γ RX7 cX7_played 6 9 217 0 0 := G
  have Rt : xRt Γ (xPI n T (fun z M2 => z = qPlayed V sh what ∧ mfr M M2 ∧ Rk M2 V)) (some .int) 0 0 := Rt
  show xX Γ 0 0 n T 0 [(0, xR 195), (1, xI sh), (2, xI what)] [] M
  have hc := ok_c hv
  refine x_iload_n G 1 rfl rfl dX7_played_0 ?_
  refine x_callSp G [] [xI sh] hy_X7_isShard ht_X7_isShard ml_X7_143 rfl rfl (kX7_isShard _ _ sh) (by decide) (by decide) (Nat.le_of_ble_eq_true rfl) dX7_played_1 ?_
  refine x_if_eq G 17 (by decide) dX7_played_4 (fun c4 => ?_) (fun c4 => ?_)
  · skip
    have c4 := b2i_eq0.mp c4
    refine x_iconst G (by decide) dX7_played_17 ?_
    exact x_iret G Rt dX7_played_18 ⟨rfl, rfl, _, rfl, ⟨(by unfold qPlayed; (repeat (first | rw [if_pos (by omega)] | rw [if_neg (by omega)])) <;> try rfl), (mfr_refl _), hR⟩⟩
  · skip
    have c4 := b2i_ne0.mp c4
    refine x_iload_n G 2 rfl rfl dX7_played_7 ?_
    refine x_i2l G dX7_played_8 ?_
    refine x_lconst G dX7_played_9 ?_
    show xX Γ 0 0 n T 10 [(0, xR 195), (1, xI sh), (2, xI what)] [xL 0, xL what] M
    refine x_lconst G dX7_played_10 ?_
    show xX Γ 0 0 n T 11 [(0, xR 195), (1, xI sh), (2, xI what)] [xL 1, xL 0, xL what] M
    refine x_callSp G [] [xL what, xL 0, xL 1] hy_X7_in ht_X7_in ml_X7_54 rfl rfl (kX7_in _ _ what 0 1) (by decide) (by decide) (Nat.le_of_ble_eq_true rfl) dX7_played_11 ?_
    refine x_if_ne G 19 (by decide) dX7_played_14 (fun c14 => ?_) (fun c14 => ?_)
    · skip
      have c14 := b2i_ne0.mp c14
      refine x_iconst G (by decide) dX7_played_19 ?_
      refine x_istore_n G [(3, xI 0), (0, xR 195), (1, xI sh), (2, xI what)] rfl (by decide) rfl dX7_played_20 ?_
      refine x_iconst G (by decide) dX7_played_21 ?_
      refine x_istore G [(4, xI 0), (3, xI 0), (0, xR 195), (1, xI sh), (2, xI what)] (by decide) rfl dX7_played_22 ?_
      have loop24 : ∀ (d : Nat) (k : Int) (q : Int) (N1 : xM), (V 0 10 - k).toNat = d → (0 ≤ k ∧ k ≤ V 0 10) → (q = fb_si (fun j => b2i (und V j sh (-1) ∧ (0 ≤ putO V j ∨ (what = 0 ∧ putO V j = -2)))) k.toNat) → (mfr M N1) → (Rk N1 V) → xX Γ 0 0 n T 24 [(0, xR 195), (1, xI sh), (2, xI what), (3, xI q), (4, xI k)] [] N1 := by
        intro d
        induction d using Nat.strongRecOn with
        | ind d ih24 =>
        intro k q N1 hd24 hk hn hf1 hR1
        skip
        have hb := si_b (fun j => und V j sh (-1) ∧ (0 ≤ putO V j ∨ (what = 0 ∧ putO V j = -2))) k.toNat
        refine x_iload G 4 rfl dX7_played_24 ?_
        refine x_aload_n G 0 rfl rfl dX7_played_26 ?_
        refine x_get G (xR 196) xf7_0 lk_X7_7 (ly_n hY 195 (by decide)) (ly_k hY 195 (by decide)) (Or.inr ⟨rfl, _, (ly_r hY 195 0 (by decide) (by decide)), rfl⟩) dX7_played_27 ?_
        refine x_iconst G (by decide) dX7_played_30 ?_
        refine x_iald G (ly_n hY 196 (by decide)) (ly_k hY 196 (by decide)) (show _ = 511 from ly_l hY 196 (by decide)) (by omega) (by omega) dX7_played_31 ?_
        show xX Γ 0 0 n T 32 [(0, xR 195), (1, xI sh), (2, xI what), (3, xI q), (4, xI k)] [xI (N1 196 2), xI k] N1
        rw [show N1 196 2 = (V 0 10) from (mr_cg hN (hf1.1 196 (by omega))).1.2.2]
        refine x_icmp_ge G 108 (by decide) dX7_played_32 (fun c32 => ?_) (fun c32 => ?_)
        · skip
          refine x_iload_n G 3 rfl rfl dX7_played_108 ?_
          exact x_iret G Rt dX7_played_109 ⟨rfl, rfl, _, rfl, ⟨(by unfold qPlayed; rw [if_pos (by omega), hn, show k = V 0 10 by omega]), hf1, hR1⟩⟩
        · skip
          have hit := ok_i hv hk.1 (by omega)
          refine x_aload_n G 0 rfl rfl dX7_played_35 ?_
          refine x_iload G 4 rfl dX7_played_36 ?_
          refine x_callVp G [] [xI k] rfl (by decide) (ly_n hY 195 (by decide)) (ly_k hY 195 (by decide)) hy_X7_shardOf hi_X7_shardOf hs_X7_shardOf ml_X7_62 rfl rfl (kX7_shardOf _ _ V k hY (mr_cg hN (hf1.1 196 (by omega))) hv (by omega)) (by decide) (by decide) (Nat.le_of_ble_eq_true rfl) dX7_played_38 ?_
          refine x_iload_n G 1 rfl rfl dX7_played_41 ?_
          refine x_icmp_eq G 48 (by decide) dX7_played_42 (fun c42 => ?_) (fun c42 => ?_)
          · skip
            have hk9 : V 9 k.toNat = 0 := by omega
            have hun : und V k.toNat sh (-1) := ⟨hk9, Or.inr (by omega), Or.inl rfl⟩
            have hpk := po_key hv hs (i := k.toNat) (by omega) hk9
            rw [show ((k.toNat : Nat) : Int) = k by omega] at hpk
            refine x_iload_n G 2 rfl rfl dX7_played_48 ?_
            refine x_if_ne G 59 (by decide) dX7_played_49 (fun c49 => ?_) (fun c49 => ?_)
            · skip
              refine x_iload_n G 2 rfl rfl dX7_played_59 ?_
              refine x_if_ne G 80 (by decide) dX7_played_60 (fun c60 => ?_) (fun c60 => ?_)
              · skip
                refine x_aload_n G 0 rfl rfl dX7_played_80 ?_
                refine x_iload G 4 rfl dX7_played_81 ?_
                refine x_iconst G (by decide) dX7_played_83 ?_
                refine x_callVI G [] [xI k, xI (-1)] rfl (by decide) (ly_n hY 195 (by decide)) (ly_k hY 195 (by decide)) hy_X7_putsOut hi_X7_putsOut hs_X7_putsOut ml_X7_191 rfl rfl (kX7_putsOut _ _ V k (-1) hY (mr_cg hN (hf1.1 196 (by omega))) hv hs hR1 (by omega) (by omega)) (by decide) (by decide) (Nat.le_of_ble_eq_true rfl) dX7_played_84 (fun z84 M84 h84 => ?_)
                rw [h84.1]
                refine x_istore G [(5, xI (b2i (0 ≤ putO V k.toNat ∧ ((-1) = -1 ∨ putO V k.toNat = (-1))))), (0, xR 195), (1, xI sh), (2, xI what), (3, xI q), (4, xI k)] (by decide) rfl dX7_played_87 ?_
                refine x_iload_n G 4 rfl rfl dX7_played_89 ?_
                refine x_iload G 0 rfl dX7_played_90 ?_
                refine x_if_eq G 99 (by decide) dX7_played_92 (fun c92 => ?_) (fun c92 => ?_)
                · skip
                  have c92 := b2i_eq0.mp c92
                  refine x_iconst G (by decide) dX7_played_99 ?_
                  refine x_iadd G (by omega) dX7_played_100 ?_
                  refine x_istore_n G [(3, xI (q + 0)), (5, xI (b2i (0 ≤ putO V k.toNat ∧ ((-1) = -1 ∨ putO V k.toNat = (-1))))), (0, xR 195), (1, xI sh), (2, xI what), (4, xI k)] rfl (by decide) rfl dX7_played_101 ?_
                  refine x_iinc G [(4, xI (k + 1)), (3, xI (q + 0)), (5, xI (b2i (0 ≤ putO V k.toNat ∧ ((-1) = -1 ∨ putO V k.toNat = (-1))))), (0, xR 195), (1, xI sh), (2, xI what)] 5 rfl (by decide) (by omega) rfl dX7_played_102 ?_
                  refine x_goto G 24 (by decide) dX7_played_105 ?_
                  refine x_sub [(0, xR 195), (1, xI sh), (2, xI what), (3, xI (q + 0)), (4, xI (k + 1))] [3, 4, 5, 1, 0] rfl ?_
                  exact ih24 _ (by omega) (k + 1) (q + 0) M84 rfl (by omega) (by first | exact si_y hk.1 hn ⟨hun, by omega⟩ | (have h8 := si_n hk.1 hn (fun h => by have h9 := h.2; omega); omega)) ((mfr_tr hf1 h84.2.1)) (h84.2.2)
                · skip
                  have c92 := b2i_ne0.mp c92
                  refine x_iconst G (by decide) dX7_played_95 ?_
                  refine x_goto G 100 (by decide) dX7_played_96 ?_
                  refine x_iadd G (by omega) dX7_played_100 ?_
                  refine x_istore_n G [(3, xI (q + 1)), (5, xI (b2i (0 ≤ putO V k.toNat ∧ ((-1) = -1 ∨ putO V k.toNat = (-1))))), (0, xR 195), (1, xI sh), (2, xI what), (4, xI k)] rfl (by decide) rfl dX7_played_101 ?_
                  refine x_iinc G [(4, xI (k + 1)), (3, xI (q + 1)), (5, xI (b2i (0 ≤ putO V k.toNat ∧ ((-1) = -1 ∨ putO V k.toNat = (-1))))), (0, xR 195), (1, xI sh), (2, xI what)] 5 rfl (by decide) (by omega) rfl dX7_played_102 ?_
                  refine x_goto G 24 (by decide) dX7_played_105 ?_
                  refine x_sub [(0, xR 195), (1, xI sh), (2, xI what), (3, xI (q + 1)), (4, xI (k + 1))] [3, 4, 5, 1, 0] rfl ?_
                  exact ih24 _ (by omega) (k + 1) (q + 1) M84 rfl (by omega) (by first | exact si_y hk.1 hn ⟨hun, by omega⟩ | (have h8 := si_n hk.1 hn (fun h => by have h9 := h.2; omega); omega)) ((mfr_tr hf1 h84.2.1)) (h84.2.2)
              · skip
                exfalso; omega
            · skip
              refine x_aload_n G 0 rfl rfl dX7_played_52 ?_
              refine x_iload G 4 rfl dX7_played_53 ?_
              refine x_iconst G (by decide) dX7_played_55 ?_
              refine x_callVV G [] [xI k, xI 1] rfl (by decide) (ly_n hY 195 (by decide)) (ly_k hY 195 (by decide)) hy_X7_laysThen hi_X7_laysThen hs_X7_laysThen ml_X7_187 rfl rfl (kX7_laysThen _ _ V k 1 (k + 1) hY (mr_cg hN (hf1.1 196 (by omega))) hv hs hR1 (by omega) (show V 9 k.toNat = 0 by omega) (by omega)) (by decide) (by decide) (Nat.le_of_ble_eq_true rfl) dX7_played_56 (fun M56 h56 => ?_)
              have hn56 := h56.1.1
              have hl56 : (thL V k.toNat (k + 1)).length ≤ 100 := th_len hv _ _
              refine x_iload_n G 2 rfl rfl dX7_played_59 ?_
              refine x_if_ne G 80 (by decide) dX7_played_60 (fun c60 => ?_) (fun c60 => ?_)
              · skip
                exfalso; omega
              · skip
                refine x_aload_n G 0 rfl rfl dX7_played_63 ?_
                refine x_iload G 4 rfl dX7_played_64 ?_
                refine x_callVp G [] [xI k] rfl (by decide) (ly_n hY 195 (by decide)) (ly_k hY 195 (by decide)) hy_X7_placeOf hi_X7_placeOf hs_X7_placeOf ml_X7_140 rfl rfl (kX7_placeOf _ _ (thL V k.toNat (k + 1)) k hY h56.1 hl56 (by omega)) (by decide) (by decide) (Nat.le_of_ble_eq_true rfl) dX7_played_66 ?_
                refine x_if_lt G 76 (by decide) dX7_played_69 (fun c69 => ?_) (fun c69 => ?_)
                · skip
                  have hpo9 : ¬ (0 ≤ putO V k.toNat ∨ putO V k.toNat = -2) := fun h => by have h2 := qpl_ge.mpr (hpk.2.mpr h); omega
                  refine x_iconst G (by decide) dX7_played_76 ?_
                  refine x_goto G 87 (by decide) dX7_played_77 ?_
                  refine x_istore G [(5, xI 0), (0, xR 195), (1, xI sh), (2, xI what), (3, xI q), (4, xI k)] (by decide) rfl dX7_played_87 ?_
                  refine x_iload_n G 4 rfl rfl dX7_played_89 ?_
                  refine x_iload G 0 rfl dX7_played_90 ?_
                  refine x_if_eq G 99 (by decide) dX7_played_92 (fun _ => ?_) (fun c92 => absurd c92 (by decide))
                  refine x_iconst G (by decide) dX7_played_99 ?_
                  refine x_iadd G (by omega) dX7_played_100 ?_
                  refine x_istore_n G [(3, xI (q + 0)), (5, xI 0), (0, xR 195), (1, xI sh), (2, xI what), (4, xI k)] rfl (by decide) rfl dX7_played_101 ?_
                  refine x_iinc G [(4, xI (k + 1)), (3, xI (q + 0)), (5, xI 0), (0, xR 195), (1, xI sh), (2, xI what)] 5 rfl (by decide) (by omega) rfl dX7_played_102 ?_
                  refine x_goto G 24 (by decide) dX7_played_105 ?_
                  refine x_sub [(0, xR 195), (1, xI sh), (2, xI what), (3, xI (q + 0)), (4, xI (k + 1))] [3, 4, 5, 1, 0] rfl ?_
                  exact ih24 _ (by omega) (k + 1) (q + 0) M56 rfl (by omega) (by first | exact si_y hk.1 hn ⟨hun, by omega⟩ | (have h8 := si_n hk.1 hn (fun h => by have h9 := h.2; omega); omega)) ((mfr_tr hf1 (mfx_w 207 h56.2.1 (by decide)))) (h56.2.2)
                · skip
                  have hpo9 : 0 ≤ putO V k.toNat ∨ putO V k.toNat = -2 := hpk.2.mp (qpl_ge.mp (by omega))
                  refine x_iconst G (by decide) dX7_played_72 ?_
                  refine x_goto G 87 (by decide) dX7_played_73 ?_
                  refine x_istore G [(5, xI 1), (0, xR 195), (1, xI sh), (2, xI what), (3, xI q), (4, xI k)] (by decide) rfl dX7_played_87 ?_
                  refine x_iload_n G 4 rfl rfl dX7_played_89 ?_
                  refine x_iload G 0 rfl dX7_played_90 ?_
                  refine x_if_eq G 99 (by decide) dX7_played_92 (fun c92 => absurd c92 (by decide)) (fun _ => ?_)
                  refine x_iconst G (by decide) dX7_played_95 ?_
                  refine x_goto G 100 (by decide) dX7_played_96 ?_
                  refine x_iadd G (by omega) dX7_played_100 ?_
                  refine x_istore_n G [(3, xI (q + 1)), (5, xI 1), (0, xR 195), (1, xI sh), (2, xI what), (4, xI k)] rfl (by decide) rfl dX7_played_101 ?_
                  refine x_iinc G [(4, xI (k + 1)), (3, xI (q + 1)), (5, xI 1), (0, xR 195), (1, xI sh), (2, xI what)] 5 rfl (by decide) (by omega) rfl dX7_played_102 ?_
                  refine x_goto G 24 (by decide) dX7_played_105 ?_
                  refine x_sub [(0, xR 195), (1, xI sh), (2, xI what), (3, xI (q + 1)), (4, xI (k + 1))] [3, 4, 5, 1, 0] rfl ?_
                  exact ih24 _ (by omega) (k + 1) (q + 1) M56 rfl (by omega) (by first | exact si_y hk.1 hn ⟨hun, by omega⟩ | (have h8 := si_n hk.1 hn (fun h => by have h9 := h.2; omega); omega)) ((mfr_tr hf1 (mfx_w 207 h56.2.1 (by decide)))) (h56.2.2)
          · skip
            refine x_goto G 102 (by decide) dX7_played_45 ?_
            refine x_iinc G [(4, xI (k + 1)), (0, xR 195), (1, xI sh), (2, xI what), (3, xI q)] 4 rfl (by decide) (by omega) rfl dX7_played_102 ?_
            refine x_goto G 24 (by decide) dX7_played_105 ?_
            refine x_sub [(0, xR 195), (1, xI sh), (2, xI what), (3, xI q), (4, xI (k + 1))] [1, 2, 3, 4, 0] rfl ?_
            exact ih24 _ (by omega) (k + 1) q N1 rfl (by omega) (si_n hk.1 hn (fun h => by have h1 := h.1.1; have h2 := h.1.2.1; omega)) (hf1) (hR1)
      refine x_sub [(0, xR 195), (1, xI sh), (2, xI what), (3, xI 0), (4, xI 0)] [2, 3, 4, 1, 0] rfl ?_
      exact loop24 _ 0 0 M rfl (by omega) (rfl) ((mfr_refl _)) (hR)
    · skip
      have c14 := b2i_eq0.mp c14
      refine x_iconst G (by decide) dX7_played_17 ?_
      exact x_iret G Rt dX7_played_18 ⟨rfl, rfl, _, rfl, ⟨(by unfold qPlayed; (repeat (first | rw [if_pos (by omega)] | rw [if_neg (by omega)])) <;> try rfl), (mfr_refl _), hR⟩⟩
set_option maxRecDepth 100000 in
set_option maxHeartbeats 4000000 in
theorem kX7_outBy (D : xD) (l : Launch) {n : Nat} {T : xT} {M : xM} (V : xM) (i : Int) (hY : LayOK n T) (hN : mrel (M 196) V) (hv : VOK V) (hs : Srt V (V 10) (V 0 10).toNat) (hR : Rk M V) : xC D l uX7_outBy 9 217 0 0 [xR 195, xI i] n T M (xPI n T (fun z M2 => (qOutBy V i z) ∧ mfr M M2 ∧ Rk M2 V)) := by
  refine x_met uX7_outBy (by decide) (Nat.le_of_ble_eq_true rfl) ?_
  intro Γ G Rt _
  have G : xG Γ RX7 cX7_outBy 3 9 217 0 0 := G
  have Rt : xRt Γ (xPI n T (fun z M2 => (qOutBy V i z) ∧ mfr M M2 ∧ Rk M2 V)) (some .int) 0 0 := Rt
  show xX Γ 0 0 n T 0 [(0, xR 195), (1, xI i)] [] M
  have hc := ok_c hv
  refine x_aload_n G 0 rfl rfl dX7_outBy_0 ?_
  refine x_iload_n G 1 rfl rfl dX7_outBy_1 ?_
  refine x_callVp G [] [xI i] rfl (by decide) (ly_n hY 195 (by decide)) (ly_k hY 195 (by decide)) hy_X7_isItem hi_X7_isItem hs_X7_isItem ml_X7_66 rfl rfl (kX7_isItem _ _ V i hY hN hv) (by decide) (by decide) (Nat.le_of_ble_eq_true rfl) dX7_outBy_2 ?_
  refine x_if_ne G 10 (by decide) dX7_outBy_5 (fun c5 => ?_) (fun c5 => ?_)
  · skip
    have c5 := b2i_ne0.mp c5
    refine x_aload_n G 0 rfl rfl dX7_outBy_10 ?_
    refine x_iload_n G 1 rfl rfl dX7_outBy_11 ?_
    refine x_callVp G [] [xI i] rfl (by decide) (ly_n hY 195 (by decide)) (ly_k hY 195 (by decide)) hy_X7_isDropped hi_X7_isDropped hs_X7_isDropped ml_X7_70 rfl rfl (kX7_isDropped _ _ V i hY hN hv (by omega)) (by decide) (by decide) (Nat.le_of_ble_eq_true rfl) dX7_outBy_12 ?_
    refine x_if_eq G 21 (by decide) dX7_outBy_15 (fun c15 => ?_) (fun c15 => ?_)
    · skip
      have c15 := b2i_eq0.mp c15
      have hit := ok_i hv (i := i) (by omega) (by omega)
      have h9 : V 9 i.toNat = 0 := Decidable.not_not.mp c15
      refine x_iload_n G 1 rfl rfl dX7_outBy_21 ?_
      refine x_iconst G (by decide) dX7_outBy_22 ?_
      refine x_iadd G (by omega) dX7_outBy_23 ?_
      refine x_istore_n G [(2, xI (i + 1)), (0, xR 195), (1, xI i)] rfl (by decide) rfl dX7_outBy_24 ?_
      have loop25 : ∀ (d : Nat) (k : Int) (N1 : xM), (V 0 10 - k).toNat = d → (i + 1 ≤ k ∧ k ≤ V 0 10) → (mfr M N1) → (Rk N1 V) → (∀ x, i + 1 ≤ x → x < k → ¬ (und V x.toNat (V 4 i.toNat) (-1) ∧ putO V x.toNat = i)) → xX Γ 0 0 n T 25 [(0, xR 195), (1, xI i), (2, xI k)] [] N1 := by
        intro d
        induction d using Nat.strongRecOn with
        | ind d ih25 =>
        intro k N1 hd25 hk hf1 hR1 hno
        skip
        refine x_iload_n G 2 rfl rfl dX7_outBy_25 ?_
        refine x_aload_n G 0 rfl rfl dX7_outBy_26 ?_
        refine x_get G (xR 196) xf7_0 lk_X7_7 (ly_n hY 195 (by decide)) (ly_k hY 195 (by decide)) (Or.inr ⟨rfl, _, (ly_r hY 195 0 (by decide) (by decide)), rfl⟩) dX7_outBy_27 ?_
        refine x_iconst G (by decide) dX7_outBy_30 ?_
        refine x_iald G (ly_n hY 196 (by decide)) (ly_k hY 196 (by decide)) (show _ = 511 from ly_l hY 196 (by decide)) (by omega) (by omega) dX7_outBy_31 ?_
        show xX Γ 0 0 n T 32 [(0, xR 195), (1, xI i), (2, xI k)] [xI (N1 196 2), xI k] N1
        rw [show N1 196 2 = (V 0 10) from (mr_cg hN (hf1.1 196 (by omega))).1.2.2]
        refine x_icmp_ge G 65 (by decide) dX7_outBy_32 (fun c32 => ?_) (fun c32 => ?_)
        · skip
          refine x_bipush G (by decide) dX7_outBy_65 ?_
          exact x_iret G Rt dX7_outBy_67 ⟨rfl, rfl, _, rfl, ⟨Or.inr (Or.inr ⟨by omega, h9, Or.inr ⟨rfl, fun x a b => hno x a (by omega)⟩⟩), hf1, hR1⟩⟩
        · skip
          have hitk := ok_i hv (i := k) (by omega) (by omega)
          refine x_aload_n G 0 rfl rfl dX7_outBy_35 ?_
          refine x_iload_n G 2 rfl rfl dX7_outBy_36 ?_
          refine x_callVp G [] [xI k] rfl (by decide) (ly_n hY 195 (by decide)) (ly_k hY 195 (by decide)) hy_X7_shardOf hi_X7_shardOf hs_X7_shardOf ml_X7_62 rfl rfl (kX7_shardOf _ _ V k hY (mr_cg hN (hf1.1 196 (by omega))) hv (by omega)) (by decide) (by decide) (Nat.le_of_ble_eq_true rfl) dX7_outBy_37 ?_
          refine x_aload_n G 0 rfl rfl dX7_outBy_40 ?_
          refine x_iload_n G 1 rfl rfl dX7_outBy_41 ?_
          refine x_callVp G [xI (V 4 k.toNat + 4 * V 9 k.toNat)] [xI i] rfl (by decide) (ly_n hY 195 (by decide)) (ly_k hY 195 (by decide)) hy_X7_shardOf hi_X7_shardOf hs_X7_shardOf ml_X7_62 rfl rfl (kX7_shardOf_u _ _ V i hY (mr_cg hN (hf1.1 196 (by omega))) hv (by omega) (show V 9 i.toNat = 0 by omega)) (by decide) (by decide) (Nat.le_of_ble_eq_true rfl) dX7_outBy_42 ?_
          refine x_icmp_ne G 59 (by decide) dX7_outBy_45 (fun c45 => ?_) (fun c45 => ?_)
          · skip
            refine x_iinc G [(2, xI (k + 1)), (0, xR 195), (1, xI i)] 2 rfl (by decide) (by omega) rfl dX7_outBy_59 ?_
            refine x_goto G 25 (by decide) dX7_outBy_62 ?_
            refine x_sub [(0, xR 195), (1, xI i), (2, xI (k + 1))] [1, 2, 0] rfl ?_
            exact ih25 _ (by omega) (k + 1) N1 rfl (by omega) (hf1) (hR1) (by intro x a b; rcases Int.lt_or_le x k with g | g; exact hno x a g; have e : x = k := (by omega); rw [e]; intro h; (have h1 := h.1.1; have h2 := h.1.2.1; omega))
          · skip
            have hk9 : V 9 k.toNat = 0 := by omega
            have hun : und V k.toNat (V 4 i.toNat) (-1) := ⟨hk9, Or.inr (by omega), Or.inl rfl⟩
            refine x_aload_n G 0 rfl rfl dX7_outBy_48 ?_
            refine x_iload_n G 2 rfl rfl dX7_outBy_49 ?_
            refine x_iload_n G 1 rfl rfl dX7_outBy_50 ?_
            refine x_callVI G [] [xI k, xI i] rfl (by decide) (ly_n hY 195 (by decide)) (ly_k hY 195 (by decide)) hy_X7_putsOut hi_X7_putsOut hs_X7_putsOut ml_X7_191 rfl rfl (kX7_putsOut _ _ V k i hY (mr_cg hN (hf1.1 196 (by omega))) hv hs hR1 (by omega) (by omega)) (by decide) (by decide) (Nat.le_of_ble_eq_true rfl) dX7_outBy_51 (fun z51 M51 h51 => ?_)
            rw [h51.1]
            refine x_if_eq G 59 (by decide) dX7_outBy_54 (fun c54 => ?_) (fun c54 => ?_)
            · skip
              have c54 := b2i_eq0.mp c54
              refine x_iinc G [(2, xI (k + 1)), (0, xR 195), (1, xI i)] 2 rfl (by decide) (by omega) rfl dX7_outBy_59 ?_
              refine x_goto G 25 (by decide) dX7_outBy_62 ?_
              refine x_sub [(0, xR 195), (1, xI i), (2, xI (k + 1))] [1, 2, 0] rfl ?_
              exact ih25 _ (by omega) (k + 1) M51 rfl (by omega) ((mfr_tr hf1 h51.2.1)) (h51.2.2) (by intro x a b; rcases Int.lt_or_le x k with g | g; exact hno x a g; have e : x = k := (by omega); rw [e]; intro h; exact c54 ⟨by omega, Or.inr h.2⟩)
            · skip
              have c54 := b2i_ne0.mp c54
              refine x_iload_n G 2 rfl rfl dX7_outBy_57 ?_
              exact x_iret G Rt dX7_outBy_58 ⟨rfl, rfl, _, rfl, ⟨Or.inr (Or.inr ⟨by omega, h9, Or.inl ⟨by omega, ⟨hun, by omega⟩, hno⟩⟩), (mfr_tr hf1 h51.2.1), h51.2.2⟩⟩
      refine x_sub [(0, xR 195), (1, xI i), (2, xI (i + 1))] [1, 2, 0] rfl ?_
      exact loop25 _ (i + 1) M rfl (by omega) ((mfr_refl _)) (hR) (by intro x a b; omega)
    · skip
      have c15 := b2i_ne0.mp c15
      refine x_bipush G (by decide) dX7_outBy_18 ?_
      exact x_iret G Rt dX7_outBy_20 ⟨rfl, rfl, _, rfl, ⟨Or.inr (Or.inl ⟨by omega, c15, rfl⟩), (mfr_refl _), hR⟩⟩
  · skip
    have c5 := b2i_eq0.mp c5
    refine x_iconst G (by decide) dX7_outBy_8 ?_
    exact x_iret G Rt dX7_outBy_9 ⟨rfl, rfl, _, rfl, ⟨Or.inl ⟨by omega, rfl⟩, (mfr_refl _), hR⟩⟩
theorem sum_perm {f : Nat → Int} {L K : List Nat} (h : L.Perm K) : (L.map f).sum = (K.map f).sum := by
  induction h with
  | nil => rfl
  | cons x _ ih => simp [ih]
  | swap x y l => simp; omega
  | trans _ _ h1 h2 => exact h1.trans h2
theorem sum_range (f : Nat → Int) (n : Nat) : ((List.range n).map f).sum = fb_si f n := by
  induction n with
  | zero => rfl
  | succ n ih => rw [List.range_succ, List.map_append, List.sum_append, ih, fb_si_succ]; simp
theorem sum_filter {p : Nat → Bool} {f : Nat → Int} : ∀ L : List Nat, ((L.filter p).map f).sum = (L.map fun i => if p i = true then f i else 0).sum := by
  intro L
  induction L with
  | nil => rfl
  | cons x L ih =>
    by_cases h : p x = true
    · rw [List.filter_cons_of_pos h]; simp [ih, h]
    · rw [List.filter_cons_of_neg h]; simp [ih, h]
theorem sum_cg {f g : Nat → Int} : ∀ {L : List Nat}, (∀ i ∈ L, f i = g i) → (L.map f).sum = (L.map g).sum := fun {L} h => by rw [List.map_congr_left h]
/-- a sum over those of whom a thing holds, over all numbers -/
theorem sum_rkl {V : xM} (hs : Srt V (V 10) (V 0 10).toNat) (P : Nat → Prop) [DecidablePred P] (f : Nat → Int) : (((rkl V).filter fun i => decide (P i)).map f).sum = fb_si (fun j => b2i (P j) * f j) (V 0 10).toNat := by
  rw [sum_filter, sum_perm (rkl_perm hs), sum_range]
  apply fb_si_cong
  intro j _
  by_cases h : P j
  · rw [if_pos (decide_eq_true h), b2i_t h]; omega
  · rw [if_neg (fun g => h (of_decide_eq_true g)), b2i_f h]; omega
theorem lb_si {V : xM} (hs : Srt V (V 10) (V 0 10).toNat) (P : Nat → Prop) [DecidablePred P] (b : Int) : lb1 V ((rkl V).filter fun i => decide (P i)) b = fb_si (fun j => b2i (P j ∧ V 5 j = b)) (V 0 10).toNat := by
  unfold lb1
  rw [List.countP_filter, ← si_rkl hs (fun j => P j ∧ V 5 j = b)]
  congr 1
  apply List.countP_congr
  intro j _
  simp [and_comm]
theorem len_si {V : xM} (hs : Srt V (V 10) (V 0 10).toNat) (P : Nat → Prop) [DecidablePred P] : (((rkl V).filter fun i => decide (P i)).length : Int) = fb_si (fun j => b2i (P j)) (V 0 10).toNat := by
  rw [← si_rkl hs P, List.countP_eq_length_filter]
theorem al_if {V : xM} {sh : Int} (j : Nat) (hj : (j : Int) < V 0 10) : ((j : Int) < V 0 10 ∧ V 9 j = 0 ∧ V 4 j = sh ∧ (V 12 sh.toNat = 0 ∨ V 0 11 - V 12 sh.toNat < V 8 j)) ↔ (V 9 j = 0 ∧ V 4 j = sh ∧ alv V j (V 0 11)) := by
  constructor
  · rintro ⟨_, g1, g2, g3⟩
    refine ⟨g1, g2, g1, ?_⟩
    rw [g2]; exact g3
  · rintro ⟨g1, g2, _, g3⟩
    rw [g2] at g3
    exact ⟨hj, g1, g2, g3⟩
theorem lab_al {V : xM} (hs : Srt V (V 10) (V 0 10).toNat) {sh lab : Int} (h : okS sh) (hl : 0 ≤ lab) : lb1 V (alN V sh) lab = cntA V sh lab := by
  unfold alN alL cntA
  rw [lb_si hs (fun j : Nat => (j : Int) < V 0 10 ∧ V 9 j = 0 ∧ V 4 j = sh ∧ (V 12 sh.toNat = 0 ∨ V 0 11 - V 12 sh.toNat < V 8 j))]
  apply si_cg
  intro j hj
  rw [al_if j (by omega)]
  constructor
  · rintro ⟨⟨g1, g2, g3⟩, g4⟩; exact ⟨⟨g1, Or.inr g2, Or.inr g4⟩, g3⟩
  · rintro ⟨⟨g1, g2, g4⟩, g3⟩; exact ⟨⟨g1, g2.resolve_left (by omega), g3⟩, g4.resolve_left (by omega)⟩
theorem lab_un {V : xM} (hs : Srt V (V 10) (V 0 10).toNat) {sh lab : Int} (h : okS sh) (hl : 0 ≤ lab) : lb1 V (alL V sh (V 0 11) 0 (V 0 10)) lab = cntU V sh lab := by
  unfold alL cntU
  rw [lb_si hs (fun j : Nat => (j : Int) < V 0 10 ∧ V 9 j = 0 ∧ V 4 j = sh ∧ ((0 : Int) = 0 ∨ V 0 11 - 0 < V 8 j))]
  apply si_cg
  intro j hj
  constructor
  · rintro ⟨⟨_, g1, g2, g3⟩, g4⟩; exact ⟨g1, Or.inr g2, Or.inr g4⟩
  · rintro ⟨g1, g2, g4⟩; exact ⟨⟨by omega, g1, g2.resolve_left (by omega), Or.inl rfl⟩, g4.resolve_left (by omega)⟩
theorem al_cnt {V : xM} (hs : Srt V (V 10) (V 0 10).toNat) {sh : Int} (h : okS sh) : ((alN V sh).length : Int) = cntA V sh (-1) := by
  unfold alN alL cntA
  rw [len_si hs (fun j : Nat => (j : Int) < V 0 10 ∧ V 9 j = 0 ∧ V 4 j = sh ∧ (V 12 sh.toNat = 0 ∨ V 0 11 - V 12 sh.toNat < V 8 j))]
  apply si_cg
  intro j hj
  rw [al_if j (by omega)]
  constructor
  · rintro ⟨g1, g2, g3⟩; exact ⟨⟨g1, Or.inr g2, Or.inl rfl⟩, g3⟩
  · rintro ⟨⟨g1, g2, g4⟩, g3⟩; exact ⟨g1, g2.resolve_left (by omega), g3⟩
theorem al_wt {V : xM} (hs : Srt V (V 10) (V 0 10).toNat) {sh : Int} (h : okS sh) : wtL V (alN V sh) = sumA V sh (-1) := by
  unfold alN alL sumA wtL
  rw [sum_rkl hs (fun j : Nat => (j : Int) < V 0 10 ∧ V 9 j = 0 ∧ V 4 j = sh ∧ (V 12 sh.toNat = 0 ∨ V 0 11 - V 12 sh.toNat < V 8 j))]
  apply fb_si_cong
  intro j hj
  rw [b2i_cg (al_if j (by omega)), b2i_cg (p := V 9 j = 0 ∧ V 4 j = sh ∧ alv V j (V 0 11)) (q := und V j sh (-1) ∧ alv V j (V 0 11)) ⟨fun g => ⟨⟨g.1, Or.inr g.2.1, Or.inl rfl⟩, g.2.2⟩, fun g => ⟨g.1.1, g.1.2.1.resolve_left (by omega), g.2⟩⟩]
theorem al_lw {V : xM} (hs : Srt V (V 10) (V 0 10).toNat) {sh lab : Int} (h : okS sh) (hl : 0 ≤ lab) : ((alN V sh).map fun i => if V 5 i = lab then V 6 i else 0).sum = sumA V sh lab := by
  unfold alN alL sumA
  rw [sum_rkl hs (fun j : Nat => (j : Int) < V 0 10 ∧ V 9 j = 0 ∧ V 4 j = sh ∧ (V 12 sh.toNat = 0 ∨ V 0 11 - V 12 sh.toNat < V 8 j))]
  apply fb_si_cong
  intro j hj
  rw [b2i_cg (al_if j (by omega))]
  by_cases e : V 5 j = lab
  · rw [if_pos e, b2i_cg (p := V 9 j = 0 ∧ V 4 j = sh ∧ alv V j (V 0 11)) (q := und V j sh lab ∧ alv V j (V 0 11)) ⟨fun g => ⟨⟨g.1, Or.inr g.2.1, Or.inr e⟩, g.2.2⟩, fun g => ⟨g.1.1, g.1.2.1.resolve_left (by omega), g.2⟩⟩]
  · rw [if_neg e, b2i_f (p := und V j sh lab ∧ alv V j (V 0 11)) (fun g => e (g.1.2.2.resolve_left (by omega)))]; omega
theorem sum_take (f : Nat → Int) {L : List Nat} {k : Nat} (hk : k < L.length) : ((L.take (k + 1)).map f).sum = ((L.take k).map f).sum + f (L.getD k 0) := by
  have e : L.take (k + 1) = L.take k ++ [L.getD k 0] := by
    rw [List.take_succ]
    congr 1
    simp [List.getD, hk]
  rw [e, List.map_append, List.sum_append]
  simp
theorem sum_b {f : Nat → Int} : ∀ {L : List Nat}, (∀ i ∈ L, 0 ≤ f i ∧ f i ≤ 20) → 0 ≤ (L.map f).sum ∧ (L.map f).sum ≤ 20 * L.length := by
  intro L
  induction L with
  | nil => intro _; exact ⟨Int.le_refl _, Int.le_refl _⟩
  | cons x L ih =>
    intro h
    have h1 := ih (fun i hi => h i (List.mem_cons_of_mem _ hi))
    have h2 := h x List.mem_cons_self
    rw [List.map_cons, List.sum_cons, List.length_cons]
    omega
theorem lb_pos {V : xM} {L : List Nat} {x : Nat} (h : x ∈ L) : 1 ≤ lb1 V L (V 5 x) := by
  unfold lb1
  have : 0 < L.countP fun i => decide (V 5 i = V 5 x) := List.countP_pos_iff.mpr ⟨x, h, decide_eq_true rfl⟩
  omega
set_option maxRecDepth 100000 in
set_option maxHeartbeats 4000000 in
theorem kX7_labels (D : xD) (l : Launch) {n : Nat} {T : xT} {M : xM} (V : xM) (sh lab what : Int) (hY : LayOK n T) (hN : mrel (M 196) V) (hv : VOK V) (hs : Srt V (V 10) (V 0 10).toNat) (hR : Rk M V) : xC D l uX7_labels 9 212 0 0 [xR 195, xI sh, xI lab, xI what] n T M (xPI n T (fun z M2 => z = qLabels V sh lab what ∧ mfr M M2 ∧ Rk M2 V)) := by
  refine x_met uX7_labels (by decide) (Nat.le_of_ble_eq_true rfl) ?_
  intro Γ G Rt _
  have G : xG Γ RX7 cX7_labels 6 9 212 0 0 := G
  have Rt : xRt Γ (xPI n T (fun z M2 => z = qLabels V sh lab what ∧ mfr M M2 ∧ Rk M2 V)) (some .int) 0 0 := Rt
  show xX Γ 0 0 n T 0 [(0, xR 195), (1, xI sh), (2, xI lab), (3, xI what)] [] M
  have hc := ok_c hv
  refine x_iload_n G 1 rfl rfl dX7_labels_0 ?_
  refine x_callSp G [] [xI sh] hy_X7_isShard ht_X7_isShard ml_X7_143 rfl rfl (kX7_isShard _ _ sh) (by decide) (by decide) (Nat.le_of_ble_eq_true rfl) dX7_labels_1 ?_
  refine x_if_eq G 31 (by decide) dX7_labels_4 (fun c4 => ?_) (fun c4 => ?_)
  · skip
    have c4 := b2i_eq0.mp c4
    refine x_iconst G (by decide) dX7_labels_31 ?_
    exact x_iret G Rt dX7_labels_32 ⟨rfl, rfl, _, rfl, ⟨(by unfold qLabels; (repeat (first | rw [if_pos (by omega)] | rw [if_neg (by omega)])) <;> try rfl), (mfr_refl _), hR⟩⟩
  · skip
    have c4 := b2i_ne0.mp c4
    refine x_iload_n G 2 rfl rfl dX7_labels_7 ?_
    refine x_i2l G dX7_labels_8 ?_
    refine x_lconst G dX7_labels_9 ?_
    show xX Γ 0 0 n T 10 [(0, xR 195), (1, xI sh), (2, xI lab), (3, xI what)] [xL 0, xL lab] M
    refine x_ldc2 G (z := 25) (by decide) kc_X7_194 dX7_labels_10 ?_
    refine x_callSp G [] [xL lab, xL 0, xL 25] hy_X7_in ht_X7_in ml_X7_54 rfl rfl (kX7_in _ _ lab 0 25) (by decide) (by decide) (Nat.le_of_ble_eq_true rfl) dX7_labels_13 ?_
    refine x_if_eq G 31 (by decide) dX7_labels_16 (fun c16 => ?_) (fun c16 => ?_)
    · skip
      have c16 := b2i_eq0.mp c16
      refine x_iconst G (by decide) dX7_labels_31 ?_
      exact x_iret G Rt dX7_labels_32 ⟨rfl, rfl, _, rfl, ⟨(by unfold qLabels; (repeat (first | rw [if_pos (by omega)] | rw [if_neg (by omega)])) <;> try rfl), (mfr_refl _), hR⟩⟩
    · skip
      have c16 := b2i_ne0.mp c16
      refine x_iload_n G 3 rfl rfl dX7_labels_19 ?_
      refine x_i2l G dX7_labels_20 ?_
      refine x_lconst G dX7_labels_21 ?_
      show xX Γ 0 0 n T 22 [(0, xR 195), (1, xI sh), (2, xI lab), (3, xI what)] [xL 0, xL what] M
      refine x_ldc2 G (z := 3) (by decide) kc_X7_52 dX7_labels_22 ?_
      refine x_callSp G [] [xL what, xL 0, xL 3] hy_X7_in ht_X7_in ml_X7_54 rfl rfl (kX7_in _ _ what 0 3) (by decide) (by decide) (Nat.le_of_ble_eq_true rfl) dX7_labels_25 ?_
      refine x_if_ne G 33 (by decide) dX7_labels_28 (fun c28 => ?_) (fun c28 => ?_)
      · skip
        have c28 := b2i_ne0.mp c28
        have hsc := hv.1
        refine x_iload_n G 3 rfl rfl dX7_labels_33 ?_
        refine x_iconst G (by decide) dX7_labels_34 ?_
        refine x_icmp_ne G 46 (by decide) dX7_labels_35 (fun c35 => ?_) (fun c35 => ?_)
        · skip
          refine x_iload_n G 3 rfl rfl dX7_labels_46 ?_
          refine x_iconst G (by decide) dX7_labels_47 ?_
          refine x_icmp_ne G 72 (by decide) dX7_labels_48 (fun c48 => ?_) (fun c48 => ?_)
          · skip
            refine x_aload_n G 0 rfl rfl dX7_labels_72 ?_
            refine x_iload_n G 1 rfl rfl dX7_labels_73 ?_
            refine x_callVV G [] [xI sh] rfl (by decide) (ly_n hY 195 (by decide)) (ly_k hY 195 (by decide)) hy_X7_laysAlive hi_X7_laysAlive hs_X7_laysAlive ml_X7_128 rfl rfl (kX7_laysAlive _ _ V sh hY hN hv hs hR (by omega)) (by decide) (by decide) (Nat.le_of_ble_eq_true rfl) dX7_labels_74 (fun M74 h74 => ?_)
            have hn74 := h74.1.1
            have hl74 : (alN V sh).length ≤ 100 := alL_len hv _ _ _ _
            refine x_iload_n G 3 rfl rfl dX7_labels_77 ?_
            refine x_iconst G (by decide) dX7_labels_78 ?_
            refine x_icmp_eq G 88 (by decide) dX7_labels_79 (fun c79 => ?_) (fun c79 => ?_)
            · skip
              refine x_iconst G (by decide) dX7_labels_88 ?_
              refine x_istore G [(4, xI 0), (0, xR 195), (1, xI sh), (2, xI lab), (3, xI what)] (by decide) rfl dX7_labels_89 ?_
              refine x_iconst G (by decide) dX7_labels_91 ?_
              refine x_istore G [(5, xI 0), (4, xI 0), (0, xR 195), (1, xI sh), (2, xI lab), (3, xI what)] (by decide) rfl dX7_labels_92 ?_
              have loop94 : ∀ (d : Nat) (k : Int) (q : Int), ((alN V sh).length - k).toNat = d → (0 ≤ k ∧ k ≤ (alN V sh).length) → (q = (((alN V sh).take k.toNat).map (fun i => if V 5 i = lab then V 6 i else 0)).sum) → xX Γ 0 0 n T 94 [(0, xR 195), (1, xI sh), (2, xI lab), (3, xI what), (4, xI q), (5, xI k)] [] M74 := by
                intro d
                induction d using Nat.strongRecOn with
                | ind d ih94 =>
                intro k q hd94 hk hn
                have hwb := sum_b (f := (fun i => if V 5 i = lab then V 6 i else 0)) (L := (alN V sh).take k.toNat) (fun i hi => by have h := hv.2.2.1 i (al_it hs (List.mem_of_mem_take hi)); show 0 ≤ (if V 5 i = lab then V 6 i else 0) ∧ (if V 5 i = lab then V 6 i else 0) ≤ 20; split <;> omega)
                have hwl := List.length_take_le k.toNat (alN V sh)
                refine x_iload G 5 rfl dX7_labels_94 ?_
                refine x_aload_n G 0 rfl rfl dX7_labels_96 ?_
                refine x_get G (xI (M74 195 8)) xf7_8 lk_X7_103 (ly_n hY 195 (by decide)) (ly_k hY 195 (by decide)) (Or.inl ⟨rfl, rfl⟩) dX7_labels_97 ?_
                rw [show M74 195 8 = ((alN V sh).length : Int) from h74.1.1]
                refine x_icmp_ge G 146 (by decide) dX7_labels_100 (fun c100 => ?_) (fun c100 => ?_)
                · skip
                  refine x_iload G 4 rfl dX7_labels_146 ?_
                  exact x_iret G Rt dX7_labels_148 ⟨rfl, rfl, _, rfl, ⟨(by unfold qLabels; rw [if_pos (by omega), if_neg (by omega), if_pos (by omega), hn, List.take_of_length_le (by omega)]; exact al_lw hs (by omega) (by omega)), (mfr_tr (mfr_refl _) (mfx_w 207 h74.2.1 (by decide))), h74.2.2⟩⟩
                · skip
                  refine x_iload G 4 rfl dX7_labels_103 ?_
                  refine x_aload_n G 0 rfl rfl dX7_labels_105 ?_
                  refine x_aload_n G 0 rfl rfl dX7_labels_106 ?_
                  refine x_get G (xR 202) xf7_7 lk_X7_29 (ly_n hY 195 (by decide)) (ly_k hY 195 (by decide)) (Or.inr ⟨rfl, _, (ly_r hY 195 7 (by decide) (by decide)), rfl⟩) dX7_labels_107 ?_
                  have hin := getD_in (L := (alN V sh)) (j := k.toNat) (by omega)
                  have hin2 := al_it hs hin
                  have hit := hv.2.2.1 ((alN V sh).getD k.toNat 0) hin2
                  refine x_iload G 5 rfl dX7_labels_110 ?_
                  refine x_iald G (ly_n hY 202 (by decide)) (ly_k hY 202 (by decide)) (show _ = 100 from ly_l hY 202 (by decide)) (by omega) (by omega) dX7_labels_112 ?_
                  rw [show M74 202 k.toNat = (((alN V sh).getD k.toNat 0 : Nat) : Int) from (h74.1.2 k.toNat (by omega))]
                  refine x_iconst G (by decide) dX7_labels_113 ?_
                  refine x_callVp G [xI q] [xI (((alN V sh).getD k.toNat 0 : Nat) : Int), xI 1] rfl (by decide) (ly_n hY 195 (by decide)) (ly_k hY 195 (by decide)) hy_X7_item hi_X7_item hs_X7_item ml_X7_58 rfl rfl (kX7_item_1 _ _ V (((alN V sh).getD k.toNat 0 : Nat) : Int) hY (mr_cg hN (h74.2.1.1 196 (by omega))) hv (by omega)) (by decide) (by decide) (Nat.le_of_ble_eq_true rfl) dX7_labels_114 ?_
                  show xX Γ 0 0 n T 117 [(0, xR 195), (1, xI sh), (2, xI lab), (3, xI what), (4, xI q), (5, xI k)] [xI (V 5 ((alN V sh).getD k.toNat 0)), xI q] M74
                  refine x_iload_n G 2 rfl rfl dX7_labels_117 ?_
                  refine x_icmp_ne G 136 (by decide) dX7_labels_118 (fun c118 => ?_) (fun c118 => ?_)
                  · skip
                    refine x_iconst G (by decide) dX7_labels_136 ?_
                    refine x_iadd G (by omega) dX7_labels_137 ?_
                    refine x_istore G [(4, xI (q + 0)), (0, xR 195), (1, xI sh), (2, xI lab), (3, xI what), (5, xI k)] (by decide) rfl dX7_labels_138 ?_
                    refine x_iinc G [(5, xI (k + 1)), (4, xI (q + 0)), (0, xR 195), (1, xI sh), (2, xI lab), (3, xI what)] 5 rfl (by decide) (by omega) rfl dX7_labels_140 ?_
                    refine x_goto G 94 (by decide) dX7_labels_143 ?_
                    refine x_sub [(0, xR 195), (1, xI sh), (2, xI lab), (3, xI what), (4, xI (q + 0)), (5, xI (k + 1))] [2, 3, 4, 5, 1, 0] rfl ?_
                    exact ih94 _ (by omega) (k + 1) (q + 0) rfl (by omega) (by rw [show (k + 1).toNat = k.toNat + 1 by omega, sum_take _ (by omega), ← hn]; first | rw [if_pos (by omega)] | (rw [if_neg (by omega)]; try omega))
                  · skip
                    refine x_aload_n G 0 rfl rfl dX7_labels_121 ?_
                    refine x_aload_n G 0 rfl rfl dX7_labels_122 ?_
                    refine x_get G (xR 202) xf7_7 lk_X7_29 (ly_n hY 195 (by decide)) (ly_k hY 195 (by decide)) (Or.inr ⟨rfl, _, (ly_r hY 195 7 (by decide) (by decide)), rfl⟩) dX7_labels_123 ?_
                    refine x_iload G 5 rfl dX7_labels_126 ?_
                    refine x_iald G (ly_n hY 202 (by decide)) (ly_k hY 202 (by decide)) (show _ = 100 from ly_l hY 202 (by decide)) (by omega) (by omega) dX7_labels_128 ?_
                    rw [show M74 202 k.toNat = (((alN V sh).getD k.toNat 0 : Nat) : Int) from (h74.1.2 k.toNat (by omega))]
                    refine x_iconst G (by decide) dX7_labels_129 ?_
                    refine x_callVp G [xI q] [xI (((alN V sh).getD k.toNat 0 : Nat) : Int), xI 2] rfl (by decide) (ly_n hY 195 (by decide)) (ly_k hY 195 (by decide)) hy_X7_item hi_X7_item hs_X7_item ml_X7_58 rfl rfl (kX7_item_2 _ _ V (((alN V sh).getD k.toNat 0 : Nat) : Int) hY (mr_cg hN (h74.2.1.1 196 (by omega))) hv (by omega)) (by decide) (by decide) (Nat.le_of_ble_eq_true rfl) dX7_labels_130 ?_
                    show xX Γ 0 0 n T 133 [(0, xR 195), (1, xI sh), (2, xI lab), (3, xI what), (4, xI q), (5, xI k)] [xI (V 6 ((alN V sh).getD k.toNat 0)), xI q] M74
                    refine x_goto G 137 (by decide) dX7_labels_133 ?_
                    refine x_iadd G (by omega) dX7_labels_137 ?_
                    refine x_istore G [(4, xI (q + (V 6 ((alN V sh).getD k.toNat 0)))), (0, xR 195), (1, xI sh), (2, xI lab), (3, xI what), (5, xI k)] (by decide) rfl dX7_labels_138 ?_
                    refine x_iinc G [(5, xI (k + 1)), (4, xI (q + (V 6 ((alN V sh).getD k.toNat 0)))), (0, xR 195), (1, xI sh), (2, xI lab), (3, xI what)] 5 rfl (by decide) (by omega) rfl dX7_labels_140 ?_
                    refine x_goto G 94 (by decide) dX7_labels_143 ?_
                    refine x_sub [(0, xR 195), (1, xI sh), (2, xI lab), (3, xI what), (4, xI (q + (V 6 ((alN V sh).getD k.toNat 0)))), (5, xI (k + 1))] [2, 3, 4, 5, 1, 0] rfl ?_
                    exact ih94 _ (by omega) (k + 1) (q + (V 6 ((alN V sh).getD k.toNat 0))) rfl (by omega) (by rw [show (k + 1).toNat = k.toNat + 1 by omega, sum_take _ (by omega), ← hn]; first | rw [if_pos (by omega)] | (rw [if_neg (by omega)]; try omega))
              refine x_sub [(0, xR 195), (1, xI sh), (2, xI lab), (3, xI what), (4, xI 0), (5, xI 0)] [2, 3, 4, 5, 1, 0] rfl ?_
              exact loop94 _ 0 0 rfl (by omega) (rfl)
            · skip
              refine x_aload_n G 0 rfl rfl dX7_labels_82 ?_
              refine x_iload_n G 2 rfl rfl dX7_labels_83 ?_
              refine x_callVp G [] [xI lab] rfl (by decide) (ly_n hY 195 (by decide)) (ly_k hY 195 (by decide)) hy_X7_labelled hi_X7_labelled hs_X7_labelled ml_X7_158 rfl rfl (kX7_labelled _ _ V (alN V sh) lab hY (mr_cg hN (h74.2.1.1 196 (by omega))) hv h74.1 hl74 (fun i hi => al_it hs hi)) (by decide) (by decide) (Nat.le_of_ble_eq_true rfl) dX7_labels_84 ?_
              exact x_iret G Rt dX7_labels_87 ⟨rfl, rfl, _, rfl, ⟨(by unfold qLabels; rw [if_pos (by omega)]; (repeat (first | rw [if_pos (by omega)] | rw [if_neg (by omega)])) <;> first | rfl | exact lab_al hs (by omega) (by omega) | exact lab_un hs (by omega) (by omega) | (exfalso; omega)), (mfr_tr (mfr_refl _) (mfx_w 207 h74.2.1 (by decide))), h74.2.2⟩⟩
          · skip
            refine x_aload_n G 0 rfl rfl dX7_labels_51 ?_
            refine x_iload_n G 1 rfl rfl dX7_labels_52 ?_
            refine x_aload_n G 0 rfl rfl dX7_labels_53 ?_
            refine x_get G (xR 196) xf7_0 lk_X7_7 (ly_n hY 195 (by decide)) (ly_k hY 195 (by decide)) (Or.inr ⟨rfl, _, (ly_r hY 195 0 (by decide) (by decide)), rfl⟩) dX7_labels_54 ?_
            refine x_iconst G (by decide) dX7_labels_57 ?_
            refine x_iald G (ly_n hY 196 (by decide)) (ly_k hY 196 (by decide)) (show _ = 511 from ly_l hY 196 (by decide)) (by omega) (by omega) dX7_labels_58 ?_
            show xX Γ 0 0 n T 59 [(0, xR 195), (1, xI sh), (2, xI lab), (3, xI what)] [xI (M 196 0), xI sh, xR 195] M
            rw [show M 196 0 = (V 0 11) from hN.1.1]
            refine x_iconst G (by decide) dX7_labels_59 ?_
            refine x_aload_n G 0 rfl rfl dX7_labels_60 ?_
            refine x_get G (xR 196) xf7_0 lk_X7_7 (ly_n hY 195 (by decide)) (ly_k hY 195 (by decide)) (Or.inr ⟨rfl, _, (ly_r hY 195 0 (by decide) (by decide)), rfl⟩) dX7_labels_61 ?_
            refine x_iconst G (by decide) dX7_labels_64 ?_
            refine x_iald G (ly_n hY 196 (by decide)) (ly_k hY 196 (by decide)) (show _ = 511 from ly_l hY 196 (by decide)) (by omega) (by omega) dX7_labels_65 ?_
            show xX Γ 0 0 n T 66 [(0, xR 195), (1, xI sh), (2, xI lab), (3, xI what)] [xI (M 196 2), xI 0, xI (V 0 11), xI sh, xR 195] M
            rw [show M 196 2 = (V 0 10) from hN.1.2.2]
            refine x_callVV G [] [xI sh, xI (V 0 11), xI 0, xI (V 0 10)] rfl (by decide) (ly_n hY 195 (by decide)) (ly_k hY 195 (by decide)) hy_X7_lays hi_X7_lays hs_X7_lays ml_X7_124 rfl rfl (kX7_lays _ _ V sh (V 0 11) 0 (V 0 10) hY hN hv hs hR (by omega) (by omega) (by omega)) (by decide) (by decide) (Nat.le_of_ble_eq_true rfl) dX7_labels_66 (fun M66 h66 => ?_)
            have hn66 := h66.1.1
            have hl66 : (alL V sh (V 0 11) 0 (V 0 10)).length ≤ 100 := alL_len hv _ _ _ _
            refine x_goto G 77 (by decide) dX7_labels_69 ?_
            refine x_iload_n G 3 rfl rfl dX7_labels_77 ?_
            refine x_iconst G (by decide) dX7_labels_78 ?_
            refine x_icmp_eq G 88 (by decide) dX7_labels_79 (fun c79 => ?_) (fun c79 => ?_)
            · skip
              exfalso; omega
            · skip
              refine x_aload_n G 0 rfl rfl dX7_labels_82 ?_
              refine x_iload_n G 2 rfl rfl dX7_labels_83 ?_
              refine x_callVp G [] [xI lab] rfl (by decide) (ly_n hY 195 (by decide)) (ly_k hY 195 (by decide)) hy_X7_labelled hi_X7_labelled hs_X7_labelled ml_X7_158 rfl rfl (kX7_labelled _ _ V (alL V sh (V 0 11) 0 (V 0 10)) lab hY (mr_cg hN (h66.2.1.1 196 (by omega))) hv h66.1 hl66 (fun i hi => al_it hs hi)) (by decide) (by decide) (Nat.le_of_ble_eq_true rfl) dX7_labels_84 ?_
              exact x_iret G Rt dX7_labels_87 ⟨rfl, rfl, _, rfl, ⟨(by unfold qLabels; rw [if_pos (by omega)]; (repeat (first | rw [if_pos (by omega)] | rw [if_neg (by omega)])) <;> first | rfl | exact lab_al hs (by omega) (by omega) | exact lab_un hs (by omega) (by omega) | (exfalso; omega)), (mfr_tr (mfr_refl _) (mfx_w 207 h66.2.1 (by decide))), h66.2.2⟩⟩
        · skip
          refine x_aload_n G 0 rfl rfl dX7_labels_38 ?_
          refine x_iload_n G 1 rfl rfl dX7_labels_39 ?_
          refine x_callVV G [] [xI sh] rfl (by decide) (ly_n hY 195 (by decide)) (ly_k hY 195 (by decide)) hy_X7_laysSample hi_X7_laysSample hs_X7_laysSample ml_X7_137 rfl rfl (kX7_laysSample _ _ V sh hY hN hv hs hR (by omega)) (by decide) (by decide) (Nat.le_of_ble_eq_true rfl) dX7_labels_40 (fun M40 h40 => ?_)
          have hn40 := h40.1.1
          have hl40 : (smL V sh).length ≤ 100 := take_len (alL_len hv _ _ _ _)
          refine x_goto G 77 (by decide) dX7_labels_43 ?_
          refine x_iload_n G 3 rfl rfl dX7_labels_77 ?_
          refine x_iconst G (by decide) dX7_labels_78 ?_
          refine x_icmp_eq G 88 (by decide) dX7_labels_79 (fun c79 => ?_) (fun c79 => ?_)
          · skip
            exfalso; omega
          · skip
            refine x_aload_n G 0 rfl rfl dX7_labels_82 ?_
            refine x_iload_n G 2 rfl rfl dX7_labels_83 ?_
            refine x_callVp G [] [xI lab] rfl (by decide) (ly_n hY 195 (by decide)) (ly_k hY 195 (by decide)) hy_X7_labelled hi_X7_labelled hs_X7_labelled ml_X7_158 rfl rfl (kX7_labelled _ _ V (smL V sh) lab hY (mr_cg hN (h40.2.1.1 196 (by omega))) hv h40.1 hl40 (fun i hi => sm_it hs hi)) (by decide) (by decide) (Nat.le_of_ble_eq_true rfl) dX7_labels_84 ?_
            exact x_iret G Rt dX7_labels_87 ⟨rfl, rfl, _, rfl, ⟨(by unfold qLabels; rw [if_pos (by omega)]; (repeat (first | rw [if_pos (by omega)] | rw [if_neg (by omega)])) <;> first | rfl | exact lab_al hs (by omega) (by omega) | exact lab_un hs (by omega) (by omega) | (exfalso; omega)), (mfr_tr (mfr_refl _) (mfx_w 207 h40.2.1 (by decide))), h40.2.2⟩⟩
      · skip
        have c28 := b2i_eq0.mp c28
        refine x_iconst G (by decide) dX7_labels_31 ?_
        exact x_iret G Rt dX7_labels_32 ⟨rfl, rfl, _, rfl, ⟨(by unfold qLabels; (repeat (first | rw [if_pos (by omega)] | rw [if_neg (by omega)])) <;> try rfl), (mfr_refl _), hR⟩⟩
set_option maxRecDepth 100000 in
set_option maxHeartbeats 4000000 in
theorem kX7_weights (D : xD) (l : Launch) {n : Nat} {T : xT} {M : xM} (V : xM) (L : List Nat) (hY : LayOK n T) (hN : mrel (M 196) V) (hv : VOK V) (hw : Rw M L) (hl : L.length ≤ 100) (hin : ∀ i ∈ L, (i : Int) < V 0 10) : xC D l uX7_weights 1 22 0 0 [xR 195] n T M (xPp n T M (wtL V L)) := by
  refine x_met uX7_weights (by decide) (Nat.le_of_ble_eq_true rfl) ?_
  intro Γ G Rt _
  have G : xG Γ RX7 cX7_weights 3 1 22 0 0 := G
  have Rt : xRt Γ (xPp n T M (wtL V L)) (some .int) 0 0 := Rt
  show xX Γ 0 0 n T 0 [(0, xR 195)] [] M
  have hwn := hw.1
  have hc := ok_c hv
  refine x_iconst G (by decide) dX7_weights_0 ?_
  refine x_istore_n G [(1, xI 0), (0, xR 195)] rfl (by decide) rfl dX7_weights_1 ?_
  refine x_iconst G (by decide) dX7_weights_2 ?_
  refine x_istore_n G [(2, xI 0), (1, xI 0), (0, xR 195)] rfl (by decide) rfl dX7_weights_3 ?_
  have loop4 : ∀ (d : Nat) (k : Int) (q : Int), (L.length - k).toNat = d → (0 ≤ k ∧ k ≤ L.length) → (q = wtL V (L.take k.toNat)) → xX Γ 0 0 n T 4 [(0, xR 195), (1, xI q), (2, xI k)] [] M := by
    intro d
    induction d using Nat.strongRecOn with
    | ind d ih4 =>
    intro k q hd4 hk hn
    have hwb := wt_b hv (L := L.take k.toNat) (fun i hi => hin i (List.mem_of_mem_take hi))
    have hwl := List.length_take_le k.toNat L
    refine x_iload_n G 2 rfl rfl dX7_weights_4 ?_
    refine x_aload_n G 0 rfl rfl dX7_weights_5 ?_
    refine x_get G (xI (M 195 8)) xf7_8 lk_X7_103 (ly_n hY 195 (by decide)) (ly_k hY 195 (by decide)) (Or.inl ⟨rfl, rfl⟩) dX7_weights_6 ?_
    rw [show M 195 8 = (L.length : Int) from hw.1]
    refine x_icmp_ge G 32 (by decide) dX7_weights_9 (fun c9 => ?_) (fun c9 => ?_)
    · skip
      refine x_iload_n G 1 rfl rfl dX7_weights_32 ?_
      exact x_iret G Rt dX7_weights_33 ⟨rfl, rfl, congrArg (fun z => some (xI z)) ((by rw [hn, List.take_of_length_le (by omega)])), rfl⟩
    · skip
      refine x_iload_n G 1 rfl rfl dX7_weights_12 ?_
      refine x_aload_n G 0 rfl rfl dX7_weights_13 ?_
      refine x_aload_n G 0 rfl rfl dX7_weights_14 ?_
      refine x_get G (xR 202) xf7_7 lk_X7_29 (ly_n hY 195 (by decide)) (ly_k hY 195 (by decide)) (Or.inr ⟨rfl, _, (ly_r hY 195 7 (by decide) (by decide)), rfl⟩) dX7_weights_15 ?_
      refine x_iload_n G 2 rfl rfl dX7_weights_18 ?_
      refine x_iald G (ly_n hY 202 (by decide)) (ly_k hY 202 (by decide)) (show _ = 100 from ly_l hY 202 (by decide)) (by omega) (by omega) dX7_weights_19 ?_
      rw [show M 202 k.toNat = ((L.getD k.toNat 0 : Nat) : Int) from (hw.2 k.toNat (by omega))]
      have hi9 := hin _ (getD_in (L := L) (j := k.toNat) (by omega))
      have hit := hv.2.2.1 (L.getD k.toNat 0) hi9
      refine x_iconst G (by decide) dX7_weights_20 ?_
      refine x_callVp G [xI q] [xI ((L.getD k.toNat 0 : Nat) : Int), xI 2] rfl (by decide) (ly_n hY 195 (by decide)) (ly_k hY 195 (by decide)) hy_X7_item hi_X7_item hs_X7_item ml_X7_58 rfl rfl (kX7_item_2 _ _ V ((L.getD k.toNat 0 : Nat) : Int) hY hN hv (by omega)) (by decide) (by decide) (Nat.le_of_ble_eq_true rfl) dX7_weights_21 ?_
      show xX Γ 0 0 n T 24 [(0, xR 195), (1, xI q), (2, xI k)] [xI (V 6 (L.getD k.toNat 0)), xI q] M
      refine x_iadd G (by omega) dX7_weights_24 ?_
      refine x_istore_n G [(1, xI (q + (V 6 (L.getD k.toNat 0)))), (0, xR 195), (2, xI k)] rfl (by decide) rfl dX7_weights_25 ?_
      refine x_iinc G [(2, xI (k + 1)), (1, xI (q + (V 6 (L.getD k.toNat 0)))), (0, xR 195)] 2 rfl (by decide) (by omega) rfl dX7_weights_26 ?_
      refine x_goto G 4 (by decide) dX7_weights_29 ?_
      refine x_sub [(0, xR 195), (1, xI (q + (V 6 (L.getD k.toNat 0)))), (2, xI (k + 1))] [2, 1, 0] rfl ?_
      exact ih4 _ (by omega) (k + 1) (q + (V 6 (L.getD k.toNat 0))) rfl (by omega) (by rw [show (k + 1).toNat = k.toNat + 1 by omega, wt_add V (by omega), ← hn])
  refine x_sub [(0, xR 195), (1, xI 0), (2, xI 0)] [2, 1, 0] rfl ?_
  exact loop4 _ 0 0 rfl (by omega) (rfl)
set_option maxRecDepth 100000 in
set_option maxHeartbeats 4000000 in
theorem kX7_thereIn (D : xD) (l : Launch) {n : Nat} {T : xT} {M : xM} (V : xM) (sh : Int) (hY : LayOK n T) (hN : mrel (M 196) V) (hv : VOK V) (hsh : okS sh) : xC D l uX7_thereIn 2 43 0 0 [xR 195, xI sh] n T M (xPp n T M (cntU V sh (-1))) := by
  refine x_met uX7_thereIn (by decide) (Nat.le_of_ble_eq_true rfl) ?_
  intro Γ G Rt _
  have G : xG Γ RX7 cX7_thereIn 4 2 43 0 0 := G
  have Rt : xRt Γ (xPp n T M (cntU V sh (-1))) (some .int) 0 0 := Rt
  show xX Γ 0 0 n T 0 [(0, xR 195), (1, xI sh)] [] M
  have hc := ok_c hv
  refine x_iconst G (by decide) dX7_thereIn_0 ?_
  refine x_istore_n G [(2, xI 0), (0, xR 195), (1, xI sh)] rfl (by decide) rfl dX7_thereIn_1 ?_
  refine x_iconst G (by decide) dX7_thereIn_2 ?_
  refine x_istore_n G [(3, xI 0), (2, xI 0), (0, xR 195), (1, xI sh)] rfl (by decide) rfl dX7_thereIn_3 ?_
  have loop4 : ∀ (d : Nat) (k : Int) (q : Int), (V 0 10 - k).toNat = d → (0 ≤ k ∧ k ≤ V 0 10) → (q = fb_si (fun j => b2i (und V j sh (-1))) k.toNat) → xX Γ 0 0 n T 4 [(0, xR 195), (1, xI sh), (2, xI q), (3, xI k)] [] M := by
    intro d
    induction d using Nat.strongRecOn with
    | ind d ih4 =>
    intro k q hd4 hk hn
    have hb := si_b (fun j => und V j sh (-1)) k.toNat
    refine x_iload_n G 3 rfl rfl dX7_thereIn_4 ?_
    refine x_aload_n G 0 rfl rfl dX7_thereIn_5 ?_
    refine x_get G (xR 196) xf7_0 lk_X7_7 (ly_n hY 195 (by decide)) (ly_k hY 195 (by decide)) (Or.inr ⟨rfl, _, (ly_r hY 195 0 (by decide) (by decide)), rfl⟩) dX7_thereIn_6 ?_
    refine x_iconst G (by decide) dX7_thereIn_9 ?_
    refine x_iald G (ly_n hY 196 (by decide)) (ly_k hY 196 (by decide)) (show _ = 511 from ly_l hY 196 (by decide)) (by omega) (by omega) dX7_thereIn_10 ?_
    show xX Γ 0 0 n T 11 [(0, xR 195), (1, xI sh), (2, xI q), (3, xI k)] [xI (M 196 2), xI k] M
    rw [show M 196 2 = (V 0 10) from hN.1.2.2]
    refine x_icmp_ge G 37 (by decide) dX7_thereIn_11 (fun c11 => ?_) (fun c11 => ?_)
    · skip
      refine x_iload_n G 2 rfl rfl dX7_thereIn_37 ?_
      exact x_iret G Rt dX7_thereIn_38 ⟨rfl, rfl, congrArg (fun z => some (xI z)) (by unfold cntU; rw [hn, show k = V 0 10 by omega]), rfl⟩
    · skip
      have hit := ok_i hv hk.1 (by omega)
      refine x_iload_n G 2 rfl rfl dX7_thereIn_14 ?_
      refine x_aload_n G 0 rfl rfl dX7_thereIn_15 ?_
      refine x_iload_n G 3 rfl rfl dX7_thereIn_16 ?_
      refine x_callVp G [xI q] [xI k] rfl (by decide) (ly_n hY 195 (by decide)) (ly_k hY 195 (by decide)) hy_X7_shardOf hi_X7_shardOf hs_X7_shardOf ml_X7_62 rfl rfl (kX7_shardOf _ _ V k hY hN hv (by omega)) (by decide) (by decide) (Nat.le_of_ble_eq_true rfl) dX7_thereIn_17 ?_
      refine x_iload_n G 1 rfl rfl dX7_thereIn_20 ?_
      refine x_icmp_ne G 28 (by decide) dX7_thereIn_21 (fun c21 => ?_) (fun c21 => ?_)
      · skip
        refine x_iconst G (by decide) dX7_thereIn_28 ?_
        refine x_iadd G (by omega) dX7_thereIn_29 ?_
        refine x_istore_n G [(2, xI (q + 0)), (0, xR 195), (1, xI sh), (3, xI k)] rfl (by decide) rfl dX7_thereIn_30 ?_
        refine x_iinc G [(3, xI (k + 1)), (2, xI (q + 0)), (0, xR 195), (1, xI sh)] 3 rfl (by decide) (by omega) rfl dX7_thereIn_31 ?_
        refine x_goto G 4 (by decide) dX7_thereIn_34 ?_
        refine x_sub [(0, xR 195), (1, xI sh), (2, xI (q + 0)), (3, xI (k + 1))] [2, 3, 1, 0] rfl ?_
        exact ih4 _ (by omega) (k + 1) (q + 0) rfl (by omega) (by first | exact si_y hk.1 hn ⟨by omega, Or.inr (by omega), Or.inl rfl⟩ | (have h8 := si_n hk.1 hn (fun h => by have h1 := h.1; have h2 := h.2.1; omega); omega))
      · skip
        refine x_iconst G (by decide) dX7_thereIn_24 ?_
        refine x_goto G 29 (by decide) dX7_thereIn_25 ?_
        refine x_iadd G (by omega) dX7_thereIn_29 ?_
        refine x_istore_n G [(2, xI (q + 1)), (0, xR 195), (1, xI sh), (3, xI k)] rfl (by decide) rfl dX7_thereIn_30 ?_
        refine x_iinc G [(3, xI (k + 1)), (2, xI (q + 1)), (0, xR 195), (1, xI sh)] 3 rfl (by decide) (by omega) rfl dX7_thereIn_31 ?_
        refine x_goto G 4 (by decide) dX7_thereIn_34 ?_
        refine x_sub [(0, xR 195), (1, xI sh), (2, xI (q + 1)), (3, xI (k + 1))] [2, 3, 1, 0] rfl ?_
        exact ih4 _ (by omega) (k + 1) (q + 1) rfl (by omega) (by first | exact si_y hk.1 hn ⟨by omega, Or.inr (by omega), Or.inl rfl⟩ | (have h8 := si_n hk.1 hn (fun h => by have h1 := h.1; have h2 := h.2.1; omega); omega))
  refine x_sub [(0, xR 195), (1, xI sh), (2, xI 0), (3, xI 0)] [2, 3, 1, 0] rfl ?_
  exact loop4 _ 0 0 rfl (by omega) (rfl)
set_option maxRecDepth 100000 in
set_option maxHeartbeats 4000000 in
theorem kX7_total (D : xD) (l : Launch) {n : Nat} {T : xT} {M : xM} (V : xM) (sh what : Int) (hY : LayOK n T) (hN : mrel (M 196) V) (hv : VOK V) (hs : Srt V (V 10) (V 0 10).toNat) (hR : Rk M V) : xC D l uX7_total 8 191 0 0 [xR 195, xI sh, xI what] n T M (xPI n T (fun z M2 => z = qTotal V sh what ∧ mfr M M2 ∧ Rk M2 V)) := by
  refine x_met uX7_total (by decide) (Nat.le_of_ble_eq_true rfl) ?_
  intro Γ G Rt _
  have G : xG Γ RX7 cX7_total 3 8 191 0 0 := G
  have Rt : xRt Γ (xPI n T (fun z M2 => z = qTotal V sh what ∧ mfr M M2 ∧ Rk M2 V)) (some .int) 0 0 := Rt
  show xX Γ 0 0 n T 0 [(0, xR 195), (1, xI sh), (2, xI what)] [] M
  have hc := ok_c hv
  refine x_iload_n G 1 rfl rfl dX7_total_0 ?_
  refine x_callSp G [] [xI sh] hy_X7_isShard ht_X7_isShard ml_X7_143 rfl rfl (kX7_isShard _ _ sh) (by decide) (by decide) (Nat.le_of_ble_eq_true rfl) dX7_total_1 ?_
  refine x_if_ne G 9 (by decide) dX7_total_4 (fun c4 => ?_) (fun c4 => ?_)
  · skip
    have c4 := b2i_ne0.mp c4
    have hsw := ok_s hv (s := sh) (by omega) (by omega)
    refine x_aload_n G 0 rfl rfl dX7_total_9 ?_
    refine x_iload_n G 1 rfl rfl dX7_total_10 ?_
    refine x_callVV G [] [xI sh] rfl (by decide) (ly_n hY 195 (by decide)) (ly_k hY 195 (by decide)) hy_X7_laysAlive hi_X7_laysAlive hs_X7_laysAlive ml_X7_128 rfl rfl (kX7_laysAlive _ _ V sh hY hN hv hs hR (by omega)) (by decide) (by decide) (Nat.le_of_ble_eq_true rfl) dX7_total_11 (fun M11 h11 => ?_)
    have hn11 := h11.1.1
    have hl11 : (alN V sh).length ≤ 100 := alL_len hv _ _ _ _
    refine x_iload_n G 2 rfl rfl dX7_total_14 ?_
    by_cases k15_0 : what = 0
    · refine x_tabIn G 52 (by omega) (by omega) (by rw [k15_0]; rfl) (by decide) dX7_total_15 ?_
      refine x_aload_n G 0 rfl rfl dX7_total_52 ?_
      refine x_get G (xI (M11 195 8)) xf7_8 lk_X7_103 (ly_n hY 195 (by decide)) (ly_k hY 195 (by decide)) (Or.inl ⟨rfl, rfl⟩) dX7_total_53 ?_
      rw [show M11 195 8 = ((alN V sh).length : Int) from h11.1.1]
      exact x_iret G Rt dX7_total_56 ⟨rfl, rfl, _, rfl, ⟨(by unfold qTotal; rw [if_pos (by omega), if_pos k15_0]; exact al_cnt hs (by omega)), (mfr_tr (mfr_refl _) (mfx_w 207 h11.2.1 (by decide))), h11.2.2⟩⟩
    by_cases k15_1 : what = 1
    · refine x_tabIn G 57 (by omega) (by omega) (by rw [k15_1]; rfl) (by decide) dX7_total_15 ?_
      refine x_aload_n G 0 rfl rfl dX7_total_57 ?_
      refine x_callVp G [] [] rfl (by decide) (ly_n hY 195 (by decide)) (ly_k hY 195 (by decide)) hy_X7_weights hi_X7_weights hs_X7_weights ml_X7_196 rfl rfl (kX7_weights _ _ V (alN V sh) hY (mr_cg hN (h11.2.1.1 196 (by omega))) hv h11.1 hl11 (fun i hi => al_it hs hi)) (by decide) (by decide) (Nat.le_of_ble_eq_true rfl) dX7_total_58 ?_
      exact x_iret G Rt dX7_total_61 ⟨rfl, rfl, _, rfl, ⟨(by unfold qTotal; rw [if_pos (by omega), if_neg k15_0, if_pos k15_1]; exact al_wt hs (by omega)), (mfr_tr (mfr_refl _) (mfx_w 207 h11.2.1 (by decide))), h11.2.2⟩⟩
    by_cases k15_2 : what = 2
    · refine x_tabIn G 62 (by omega) (by omega) (by rw [k15_2]; rfl) (by decide) dX7_total_15 ?_
      refine x_aload_n G 0 rfl rfl dX7_total_62 ?_
      refine x_aload_n G 0 rfl rfl dX7_total_63 ?_
      refine x_get G (xR 196) xf7_0 lk_X7_7 (ly_n hY 195 (by decide)) (ly_k hY 195 (by decide)) (Or.inr ⟨rfl, _, (ly_r hY 195 0 (by decide) (by decide)), rfl⟩) dX7_total_64 ?_
      refine x_iconst G (by decide) dX7_total_67 ?_
      refine x_iload_n G 1 rfl rfl dX7_total_68 ?_
      refine x_iadd G (by omega) dX7_total_69 ?_
      refine x_iald G (ly_n hY 196 (by decide)) (ly_k hY 196 (by decide)) (show _ = 511 from ly_l hY 196 (by decide)) (by omega) (by omega) dX7_total_70 ?_
      rw [show M11 196 (3 + sh).toNat = (V 11 sh.toNat) from (mr_sz (mr_cg hN (h11.2.1.1 196 (by omega))) (by omega))]
      refine x_callVV G [] [xI (V 11 sh.toNat)] rfl (by decide) (ly_n hY 195 (by decide)) (ly_k hY 195 (by decide)) hy_X7_cuts hi_X7_cuts hs_X7_cuts ml_X7_131 rfl rfl (kX7_cuts _ _ (alN V sh) (V 11 sh.toNat) hY h11.1 hl11 (by omega)) (by decide) (by decide) (Nat.le_of_ble_eq_true rfl) dX7_total_71 (fun M71 h71 => ?_)
      subst h71
      show xX Γ 0 0 n T 74 [(0, xR 195), (1, xI sh), (2, xI what)] [] (xst M11 195 8 (((alN V sh).take (V 11 sh.toNat).toNat).length : Int))
      refine x_aload_n G 0 rfl rfl dX7_total_74 ?_
      refine x_callVp G [] [] rfl (by decide) (ly_n hY 195 (by decide)) (ly_k hY 195 (by decide)) hy_X7_weights hi_X7_weights hs_X7_weights ml_X7_196 rfl rfl (kX7_weights _ _ V ((alN V sh).take (V 11 sh.toNat).toNat) hY (mr_cg (mr_cg hN (h11.2.1.1 196 (by omega))) (xst_row (by omega))) hv (rw_take h11.1 (xst_same ..) (xst_row (by decide))) (take_len hl11) (fun i hi => al_it hs (List.mem_of_mem_take hi))) (by decide) (by decide) (Nat.le_of_ble_eq_true rfl) dX7_total_75 ?_
      exact x_iret G Rt dX7_total_78 ⟨rfl, rfl, _, rfl, ⟨(by unfold qTotal; (repeat (first | rw [if_pos (by omega)] | rw [if_neg (by omega)])) <;> try rfl), (mfr_st (mfr_tr (mfr_refl _) (mfx_w 207 h11.2.1 (by decide))) (by omega)), (rk_cg h11.2.2 (xst_nq (by omega)) (xst_row (by omega)))⟩⟩
    by_cases k15_3 : what = 3
    · refine x_tabIn G 79 (by omega) (by omega) (by rw [k15_3]; rfl) (by decide) dX7_total_15 ?_
      refine x_aload_n G 0 rfl rfl dX7_total_79 ?_
      refine x_iload_n G 1 rfl rfl dX7_total_80 ?_
      refine x_callVp G [] [xI sh] rfl (by decide) (ly_n hY 195 (by decide)) (ly_k hY 195 (by decide)) hy_X7_thereIn hi_X7_thereIn hs_X7_thereIn ml_X7_199 rfl rfl (kX7_thereIn _ _ V sh hY (mr_cg hN (h11.2.1.1 196 (by omega))) hv (by omega)) (by decide) (by decide) (Nat.le_of_ble_eq_true rfl) dX7_total_81 ?_
      exact x_iret G Rt dX7_total_84 ⟨rfl, rfl, _, rfl, ⟨(by unfold qTotal; (repeat (first | rw [if_pos (by omega)] | rw [if_neg (by omega)])) <;> try rfl), (mfr_tr (mfr_refl _) (mfx_w 207 h11.2.1 (by decide))), h11.2.2⟩⟩
    by_cases k15_4 : what = 4
    · refine x_tabIn G 85 (by omega) (by omega) (by rw [k15_4]; rfl) (by decide) dX7_total_15 ?_
      refine x_aload_n G 0 rfl rfl dX7_total_85 ?_
      refine x_get G (xR 196) xf7_0 lk_X7_7 (ly_n hY 195 (by decide)) (ly_k hY 195 (by decide)) (Or.inr ⟨rfl, _, (ly_r hY 195 0 (by decide) (by decide)), rfl⟩) dX7_total_86 ?_
      refine x_iconst G (by decide) dX7_total_89 ?_
      refine x_iload_n G 1 rfl rfl dX7_total_90 ?_
      refine x_iadd G (by omega) dX7_total_91 ?_
      refine x_iald G (ly_n hY 196 (by decide)) (ly_k hY 196 (by decide)) (show _ = 511 from ly_l hY 196 (by decide)) (by omega) (by omega) dX7_total_92 ?_
      rw [show M11 196 (3 + sh).toNat = (V 11 sh.toNat) from (mr_sz (mr_cg hN (h11.2.1.1 196 (by omega))) (by omega))]
      exact x_iret G Rt dX7_total_93 ⟨rfl, rfl, _, rfl, ⟨(by unfold qTotal; (repeat (first | rw [if_pos (by omega)] | rw [if_neg (by omega)])) <;> try rfl), (mfr_tr (mfr_refl _) (mfx_w 207 h11.2.1 (by decide))), h11.2.2⟩⟩
    by_cases k15_5 : what = 5
    · refine x_tabIn G 94 (by omega) (by omega) (by rw [k15_5]; rfl) (by decide) dX7_total_15 ?_
      refine x_aload_n G 0 rfl rfl dX7_total_94 ?_
      refine x_get G (xR 196) xf7_0 lk_X7_7 (ly_n hY 195 (by decide)) (ly_k hY 195 (by decide)) (Or.inr ⟨rfl, _, (ly_r hY 195 0 (by decide) (by decide)), rfl⟩) dX7_total_95 ?_
      refine x_bipush G (by decide) dX7_total_98 ?_
      refine x_iload_n G 1 rfl rfl dX7_total_100 ?_
      refine x_iadd G (by omega) dX7_total_101 ?_
      refine x_iald G (ly_n hY 196 (by decide)) (ly_k hY 196 (by decide)) (show _ = 511 from ly_l hY 196 (by decide)) (by omega) (by omega) dX7_total_102 ?_
      rw [show M11 196 (7 + sh).toNat = (V 12 sh.toNat) from (mr_wd (mr_cg hN (h11.2.1.1 196 (by omega))) (by omega))]
      exact x_iret G Rt dX7_total_103 ⟨rfl, rfl, _, rfl, ⟨(by unfold qTotal; (repeat (first | rw [if_pos (by omega)] | rw [if_neg (by omega)])) <;> try rfl), (mfr_tr (mfr_refl _) (mfx_w 207 h11.2.1 (by decide))), h11.2.2⟩⟩
    refine x_tabOut G 104 (by omega) (by decide) dX7_total_15 ?_
    refine x_iconst G (by decide) dX7_total_104 ?_
    exact x_iret G Rt dX7_total_105 ⟨rfl, rfl, _, rfl, ⟨(by unfold qTotal; (repeat (first | rw [if_pos (by omega)] | rw [if_neg (by omega)])) <;> try rfl), (mfr_tr (mfr_refl _) (mfx_w 207 h11.2.1 (by decide))), h11.2.2⟩⟩
  · skip
    have c4 := b2i_eq0.mp c4
    refine x_iconst G (by decide) dX7_total_7 ?_
    exact x_iret G Rt dX7_total_8 ⟨rfl, rfl, _, rfl, ⟨(by unfold qTotal; (repeat (first | rw [if_pos (by omega)] | rw [if_neg (by omega)])) <;> try rfl), (mfr_refl _), hR⟩⟩
set_option maxRecDepth 100000 in
set_option maxHeartbeats 4000000 in
theorem kX7_mode (D : xD) (l : Launch) {n : Nat} {T : xT} {M : xM} (V : xM) (sh : Int) (hY : LayOK n T) (hN : mrel (M 196) V) (hv : VOK V) (hs : Srt V (V 10) (V 0 10).toNat) (hR : Rk M V) : xC D l uX7_mode 9 212 0 0 [xR 195, xI sh] n T M (xPI n T (fun z M2 => (qMode V sh z) ∧ mfr M M2 ∧ Rk M2 V)) := by
  refine x_met uX7_mode (by decide) (Nat.le_of_ble_eq_true rfl) ?_
  intro Γ G Rt _
  have G : xG Γ RX7 cX7_mode 4 9 212 0 0 := G
  have Rt : xRt Γ (xPI n T (fun z M2 => (qMode V sh z) ∧ mfr M M2 ∧ Rk M2 V)) (some .int) 0 0 := Rt
  show xX Γ 0 0 n T 0 [(0, xR 195), (1, xI sh)] [] M
  have hc := ok_c hv
  refine x_iload_n G 1 rfl rfl dX7_mode_0 ?_
  refine x_callSp G [] [xI sh] hy_X7_isShard ht_X7_isShard ml_X7_143 rfl rfl (kX7_isShard _ _ sh) (by decide) (by decide) (Nat.le_of_ble_eq_true rfl) dX7_mode_1 ?_
  refine x_if_ne G 9 (by decide) dX7_mode_4 (fun c4 => ?_) (fun c4 => ?_)
  · skip
    have c4 := b2i_ne0.mp c4
    refine x_aload_n G 0 rfl rfl dX7_mode_9 ?_
    refine x_iload_n G 1 rfl rfl dX7_mode_10 ?_
    refine x_callVV G [] [xI sh] rfl (by decide) (ly_n hY 195 (by decide)) (ly_k hY 195 (by decide)) hy_X7_laysSample hi_X7_laysSample hs_X7_laysSample ml_X7_137 rfl rfl (kX7_laysSample _ _ V sh hY hN hv hs hR (by omega)) (by decide) (by decide) (Nat.le_of_ble_eq_true rfl) dX7_mode_11 (fun M11 h11 => ?_)
    have hn11 := h11.1.1
    have hl11 : (smL V sh).length ≤ 100 := take_len (alL_len hv _ _ _ _)
    refine x_aload_n G 0 rfl rfl dX7_mode_14 ?_
    refine x_get G (xI (M11 195 8)) xf7_8 lk_X7_103 (ly_n hY 195 (by decide)) (ly_k hY 195 (by decide)) (Or.inl ⟨rfl, rfl⟩) dX7_mode_15 ?_
    rw [show M11 195 8 = ((smL V sh).length : Int) from h11.1.1]
    refine x_if_ne G 24 (by decide) dX7_mode_18 (fun c18 => ?_) (fun c18 => ?_)
    · skip
      refine x_iconst G (by decide) dX7_mode_24 ?_
      refine x_istore_n G [(2, xI 0), (0, xR 195), (1, xI sh)] rfl (by decide) rfl dX7_mode_25 ?_
      refine x_iconst G (by decide) dX7_mode_26 ?_
      refine x_istore_n G [(3, xI 1), (2, xI 0), (0, xR 195), (1, xI sh)] rfl (by decide) rfl dX7_mode_27 ?_
      have loop28 : ∀ (d : Nat) (k : Int) (b : Int), (26 - k).toNat = d → (1 ≤ k ∧ k ≤ 26) → (0 ≤ b ∧ b < k) → (∀ q : Nat, (q : Int) < k → lb1 V (smL V sh) q ≤ lb1 V (smL V sh) b) → (∀ q : Nat, (q : Int) < b → lb1 V (smL V sh) q < lb1 V (smL V sh) b) → xX Γ 0 0 n T 28 [(0, xR 195), (1, xI sh), (2, xI b), (3, xI k)] [] M11 := by
        intro d
        induction d using Nat.strongRecOn with
        | ind d ih28 =>
        intro k b hd28 hk hb hmx hms
        refine x_iload_n G 3 rfl rfl dX7_mode_28 ?_
        refine x_bipush G (by decide) dX7_mode_29 ?_
        refine x_icmp_ge G 59 (by decide) dX7_mode_31 (fun c31 => ?_) (fun c31 => ?_)
        · skip
          refine x_iload_n G 2 rfl rfl dX7_mode_59 ?_
          exact x_iret G Rt dX7_mode_60 ⟨rfl, rfl, _, rfl, ⟨Or.inr (Or.inr ⟨by omega, by omega, by have h1 := getD_in (L := smL V sh) (j := 0) (by omega); have h2 := lb_pos (V := V) h1; have h3 := hv.2.2.1 _ (sm_it hs h1); have h4 := hmx (V 5 ((smL V sh).getD 0 0)).toNat (by omega); rw [show (((V 5 ((smL V sh).getD 0 0)).toNat : Nat) : Int) = V 5 ((smL V sh).getD 0 0) by omega] at h4; omega, fun q hq => hmx q (by omega), hms⟩), (mfr_tr (mfr_refl _) (mfx_w 207 h11.2.1 (by decide))), h11.2.2⟩⟩
        · skip
          refine x_aload_n G 0 rfl rfl dX7_mode_34 ?_
          refine x_iload_n G 3 rfl rfl dX7_mode_35 ?_
          refine x_callVp G [] [xI k] rfl (by decide) (ly_n hY 195 (by decide)) (ly_k hY 195 (by decide)) hy_X7_labelled hi_X7_labelled hs_X7_labelled ml_X7_158 rfl rfl (kX7_labelled _ _ V (smL V sh) k hY (mr_cg hN (h11.2.1.1 196 (by omega))) hv h11.1 hl11 (fun i hi => sm_it hs hi)) (by decide) (by decide) (Nat.le_of_ble_eq_true rfl) dX7_mode_36 ?_
          refine x_aload_n G 0 rfl rfl dX7_mode_39 ?_
          refine x_iload_n G 2 rfl rfl dX7_mode_40 ?_
          refine x_callVp G [xI (lb1 V (smL V sh) k)] [xI b] rfl (by decide) (ly_n hY 195 (by decide)) (ly_k hY 195 (by decide)) hy_X7_labelled hi_X7_labelled hs_X7_labelled ml_X7_158 rfl rfl (kX7_labelled _ _ V (smL V sh) b hY (mr_cg hN (h11.2.1.1 196 (by omega))) hv h11.1 hl11 (fun i hi => sm_it hs hi)) (by decide) (by decide) (Nat.le_of_ble_eq_true rfl) dX7_mode_41 ?_
          refine x_icmp_le G 51 (by decide) dX7_mode_44 (fun c44 => ?_) (fun c44 => ?_)
          · skip
            refine x_iload_n G 2 rfl rfl dX7_mode_51 ?_
            refine x_istore_n G [(2, xI b), (0, xR 195), (1, xI sh), (3, xI k)] rfl (by decide) rfl dX7_mode_52 ?_
            refine x_iinc G [(3, xI (k + 1)), (2, xI b), (0, xR 195), (1, xI sh)] 3 rfl (by decide) (by omega) rfl dX7_mode_53 ?_
            refine x_goto G 28 (by decide) dX7_mode_56 ?_
            refine x_sub [(0, xR 195), (1, xI sh), (2, xI b), (3, xI (k + 1))] [2, 3, 1, 0] rfl ?_
            exact ih28 _ (by omega) (k + 1) b rfl (by omega) (by omega) (by intro q hq; rcases Int.lt_or_le (q : Int) k with g | g; (have := hmx q g; omega); (have e : (q : Int) = k := (by omega); rw [e]; omega)) (by intro q hq; (first | exact hms q hq | (have := hmx q (by omega); omega)))
          · skip
            refine x_iload_n G 3 rfl rfl dX7_mode_47 ?_
            refine x_goto G 52 (by decide) dX7_mode_48 ?_
            refine x_istore_n G [(2, xI k), (0, xR 195), (1, xI sh), (3, xI k)] rfl (by decide) rfl dX7_mode_52 ?_
            refine x_iinc G [(3, xI (k + 1)), (2, xI k), (0, xR 195), (1, xI sh)] 3 rfl (by decide) (by omega) rfl dX7_mode_53 ?_
            refine x_goto G 28 (by decide) dX7_mode_56 ?_
            refine x_sub [(0, xR 195), (1, xI sh), (2, xI k), (3, xI (k + 1))] [2, 3, 1, 0] rfl ?_
            exact ih28 _ (by omega) (k + 1) k rfl (by omega) (by omega) (by intro q hq; rcases Int.lt_or_le (q : Int) k with g | g; (have := hmx q g; omega); (have e : (q : Int) = k := (by omega); rw [e]; omega)) (by intro q hq; (first | exact hms q hq | (have := hmx q (by omega); omega)))
      refine x_sub [(0, xR 195), (1, xI sh), (2, xI 0), (3, xI 1)] [2, 3, 1, 0] rfl ?_
      exact loop28 _ 1 0 rfl (by omega) (by omega) (fun q hq => by rw [show q = 0 by omega]; exact Int.le_refl _) (fun q hq => by omega)
    · skip
      refine x_bipush G (by decide) dX7_mode_21 ?_
      exact x_iret G Rt dX7_mode_23 ⟨rfl, rfl, _, rfl, ⟨Or.inr (Or.inl ⟨by omega, rfl, fun q hq => by have h := (lb1_b V (smL V sh) q).2; omega⟩), (mfr_tr (mfr_refl _) (mfx_w 207 h11.2.1 (by decide))), h11.2.2⟩⟩
  · skip
    have c4 := b2i_eq0.mp c4
    refine x_iconst G (by decide) dX7_mode_7 ?_
    exact x_iret G Rt dX7_mode_8 ⟨rfl, rfl, _, rfl, ⟨Or.inl ⟨by omega, rfl⟩, (mfr_refl _), hR⟩⟩
set_option maxRecDepth 100000 in
set_option maxHeartbeats 4000000 in
theorem kX7_unlike (D : xD) (l : Launch) {n : Nat} {T : xT} {M : xM} (V : xM) (sh sh2 : Int) (hY : LayOK n T) (hN : mrel (M 196) V) (hv : VOK V) (hs : Srt V (V 10) (V 0 10).toNat) (hR : Rk M V) : xC D l uX7_unlike 9 212 0 0 [xR 195, xI sh, xI sh2] n T M (xPI n T (fun z M2 => z = qUnlike V sh sh2 ∧ mfr M M2 ∧ Rk M2 V)) := by
  refine x_met uX7_unlike (by decide) (Nat.le_of_ble_eq_true rfl) ?_
  intro Γ G Rt _
  have G : xG Γ RX7 cX7_unlike 6 9 212 0 0 := G
  have Rt : xRt Γ (xPI n T (fun z M2 => z = qUnlike V sh sh2 ∧ mfr M M2 ∧ Rk M2 V)) (some .int) 0 0 := Rt
  show xX Γ 0 0 n T 0 [(0, xR 195), (1, xI sh), (2, xI sh2)] [] M
  have hc := ok_c hv
  refine x_iload_n G 1 rfl rfl dX7_unlike_0 ?_
  refine x_callSp G [] [xI sh] hy_X7_isShard ht_X7_isShard ml_X7_143 rfl rfl (kX7_isShard _ _ sh) (by decide) (by decide) (Nat.le_of_ble_eq_true rfl) dX7_unlike_1 ?_
  refine x_if_eq G 14 (by decide) dX7_unlike_4 (fun c4 => ?_) (fun c4 => ?_)
  · skip
    have c4 := b2i_eq0.mp c4
    refine x_iconst G (by decide) dX7_unlike_14 ?_
    exact x_iret G Rt dX7_unlike_15 ⟨rfl, rfl, _, rfl, ⟨(by unfold qUnlike; (repeat (first | rw [if_pos (by omega)] | rw [if_neg (by omega)])) <;> try rfl), (mfr_refl _), hR⟩⟩
  · skip
    have c4 := b2i_ne0.mp c4
    refine x_iload_n G 2 rfl rfl dX7_unlike_7 ?_
    refine x_callSp G [] [xI sh2] hy_X7_isShard ht_X7_isShard ml_X7_143 rfl rfl (kX7_isShard _ _ sh2) (by decide) (by decide) (Nat.le_of_ble_eq_true rfl) dX7_unlike_8 ?_
    refine x_if_ne G 16 (by decide) dX7_unlike_11 (fun c11 => ?_) (fun c11 => ?_)
    · skip
      have c11 := b2i_ne0.mp c11
      refine x_aload_n G 0 rfl rfl dX7_unlike_16 ?_
      refine x_iload_n G 1 rfl rfl dX7_unlike_17 ?_
      refine x_callVV G [] [xI sh] rfl (by decide) (ly_n hY 195 (by decide)) (ly_k hY 195 (by decide)) hy_X7_laysSample hi_X7_laysSample hs_X7_laysSample ml_X7_137 rfl rfl (kX7_laysSample _ _ V sh hY hN hv hs hR (by omega)) (by decide) (by decide) (Nat.le_of_ble_eq_true rfl) dX7_unlike_18 (fun M18 h18 => ?_)
      have hn18 := h18.1.1
      have hl18 : (smL V sh).length ≤ 100 := take_len (alL_len hv _ _ _ _)
      refine x_iconst G (by decide) dX7_unlike_21 ?_
      refine x_istore_n G [(3, xI 0), (0, xR 195), (1, xI sh), (2, xI sh2)] rfl (by decide) rfl dX7_unlike_22 ?_
      have loop23 : ∀ (d : Nat) (k : Int) (N2 : xM), (26 - k).toNat = d → (0 ≤ k ∧ k ≤ 26) → (mfr M N2) → (Rk N2 V) → (Rw N2 (smL V sh)) → (∀ j : Nat, (j : Int) < k → N2 205 j = lb1 V (smL V sh) j) → xX Γ 0 0 n T 23 [(0, xR 195), (1, xI sh), (2, xI sh2), (3, xI k)] [] N2 := by
        intro d
        induction d using Nat.strongRecOn with
        | ind d ih23 =>
        intro k N2 hd23 hk hf1 hR1 hw1 hof
        skip
        refine x_iload_n G 3 rfl rfl dX7_unlike_23 ?_
        refine x_bipush G (by decide) dX7_unlike_24 ?_
        refine x_icmp_ge G 46 (by decide) dX7_unlike_26 (fun c26 => ?_) (fun c26 => ?_)
        · skip
          have hofA : ∀ j : Nat, (j : Int) < 26 → N2 205 j = lb1 V (smL V sh) j := fun j hj => hof j (by omega)
          refine x_aload_n G 0 rfl rfl dX7_unlike_46 ?_
          refine x_iload_n G 2 rfl rfl dX7_unlike_47 ?_
          refine x_callVV G [] [xI sh2] rfl (by decide) (ly_n hY 195 (by decide)) (ly_k hY 195 (by decide)) hy_X7_laysSample hi_X7_laysSample hs_X7_laysSample ml_X7_137 rfl rfl (kX7_laysSample _ _ V sh2 hY (mr_cg hN (hf1.1 196 (by omega))) hv hs hR1 (by omega)) (by decide) (by decide) (Nat.le_of_ble_eq_true rfl) dX7_unlike_48 (fun M48 h48 => ?_)
          have hn48 := h48.1.1
          have hl48 : (smL V sh2).length ≤ 100 := take_len (alL_len hv _ _ _ _)
          refine x_iconst G (by decide) dX7_unlike_51 ?_
          refine x_istore_n G [(3, xI 0), (0, xR 195), (1, xI sh), (2, xI sh2)] rfl (by decide) rfl dX7_unlike_52 ?_
          refine x_iconst G (by decide) dX7_unlike_53 ?_
          refine x_istore G [(4, xI 0), (3, xI 0), (0, xR 195), (1, xI sh), (2, xI sh2)] (by decide) rfl dX7_unlike_54 ?_
          have loop56 : ∀ (d : Nat) (k : Int) (q : Int), (26 - k).toNat = d → (0 ≤ k ∧ k ≤ 26) → (q = fb_si (fun j : Nat => (if 0 ≤ lb1 V (smL V sh) j - lb1 V (smL V sh2) j then lb1 V (smL V sh) j - lb1 V (smL V sh2) j else -(lb1 V (smL V sh) j - lb1 V (smL V sh2) j))) k.toNat) → (0 ≤ q ∧ q ≤ 200 * k) → xX Γ 0 0 n T 56 [(0, xR 195), (1, xI sh), (2, xI sh2), (3, xI q), (4, xI k)] [] M48 := by
            intro d
            induction d using Nat.strongRecOn with
            | ind d ih56 =>
            intro k q hd56 hk hn hq
            refine x_iload G 4 rfl dX7_unlike_56 ?_
            refine x_bipush G (by decide) dX7_unlike_58 ?_
            refine x_icmp_ge G 101 (by decide) dX7_unlike_60 (fun c60 => ?_) (fun c60 => ?_)
            · skip
              refine x_iload_n G 3 rfl rfl dX7_unlike_101 ?_
              exact x_iret G Rt dX7_unlike_102 ⟨rfl, rfl, _, rfl, ⟨(by unfold qUnlike ulk; rw [if_pos (by omega), hn, show k.toNat = 26 by omega]), (mfr_tr hf1 (mfx_w 207 h48.2.1 (by decide))), h48.2.2⟩⟩
            · skip
              have hok := hofA k.toNat (by omega)
              rw [show ((k.toNat : Nat) : Int) = k by omega] at hok
              have hb1 := lb1_b V (smL V sh) k
              have hb2 := lb1_b V (smL V sh2) k
              have hsl1 : (smL V sh).length ≤ 100 := hl18
              refine x_aload_n G 0 rfl rfl dX7_unlike_63 ?_
              refine x_get G (xR 205) xf7_12 lk_X7_38 (ly_n hY 195 (by decide)) (ly_k hY 195 (by decide)) (Or.inr ⟨rfl, _, (ly_r hY 195 12 (by decide) (by decide)), rfl⟩) dX7_unlike_64 ?_
              refine x_iload G 4 rfl dX7_unlike_67 ?_
              refine x_iald G (ly_n hY 205 (by decide)) (ly_k hY 205 (by decide)) (show _ = 26 from ly_l hY 205 (by decide)) (by omega) (by omega) dX7_unlike_69 ?_
              rw [show M48 205 k.toNat = (N2 205 k.toNat) from (congrFun (h48.2.1.1 205 (by omega)) k.toNat)]
              refine x_aload_n G 0 rfl rfl dX7_unlike_70 ?_
              refine x_iload G 4 rfl dX7_unlike_71 ?_
              refine x_callVp G [xI (N2 205 k.toNat)] [xI k] rfl (by decide) (ly_n hY 195 (by decide)) (ly_k hY 195 (by decide)) hy_X7_labelled hi_X7_labelled hs_X7_labelled ml_X7_158 rfl rfl (kX7_labelled _ _ V (smL V sh2) k hY (mr_cg (mr_cg hN (hf1.1 196 (by omega))) (h48.2.1.1 196 (by omega))) hv h48.1 hl48 (fun i hi => sm_it hs hi)) (by decide) (by decide) (Nat.le_of_ble_eq_true rfl) dX7_unlike_73 ?_
              refine x_isub G (by omega) dX7_unlike_76 ?_
              refine x_istore G [(5, xI ((N2 205 k.toNat) - (lb1 V (smL V sh2) k))), (0, xR 195), (1, xI sh), (2, xI sh2), (3, xI q), (4, xI k)] (by decide) rfl dX7_unlike_77 ?_
              refine x_iload_n G 4 rfl rfl dX7_unlike_79 ?_
              refine x_iload G 0 rfl dX7_unlike_80 ?_
              refine x_if_ge G 91 (by decide) dX7_unlike_82 (fun c82 => ?_) (fun c82 => ?_)
              · skip
                refine x_iload G 0 rfl dX7_unlike_91 ?_
                refine x_iadd G (by omega) dX7_unlike_93 ?_
                refine x_istore_n G [(3, xI (q + ((N2 205 k.toNat) - (lb1 V (smL V sh2) k)))), (5, xI ((N2 205 k.toNat) - (lb1 V (smL V sh2) k))), (0, xR 195), (1, xI sh), (2, xI sh2), (4, xI k)] rfl (by decide) rfl dX7_unlike_94 ?_
                refine x_iinc G [(4, xI (k + 1)), (3, xI (q + ((N2 205 k.toNat) - (lb1 V (smL V sh2) k)))), (5, xI ((N2 205 k.toNat) - (lb1 V (smL V sh2) k))), (0, xR 195), (1, xI sh), (2, xI sh2)] 5 rfl (by decide) (by omega) rfl dX7_unlike_95 ?_
                refine x_goto G 56 (by decide) dX7_unlike_98 ?_
                refine x_sub [(0, xR 195), (1, xI sh), (2, xI sh2), (3, xI (q + ((N2 205 k.toNat) - (lb1 V (smL V sh2) k)))), (4, xI (k + 1))] [3, 4, 5, 1, 0] rfl ?_
                exact ih56 _ (by omega) (k + 1) (q + ((N2 205 k.toNat) - (lb1 V (smL V sh2) k))) rfl (by omega) (si_r hk.1 hn (by show (if 0 ≤ lb1 V (smL V sh) k.toNat - lb1 V (smL V sh2) k.toNat then lb1 V (smL V sh) k.toNat - lb1 V (smL V sh2) k.toNat else -(lb1 V (smL V sh) k.toNat - lb1 V (smL V sh2) k.toNat)) = _; rw [show ((k.toNat : Nat) : Int) = k by omega, ← hok]; first | rw [if_pos (by omega)] | rw [if_neg (by omega)])) (by omega)
              · skip
                refine x_iload G 0 rfl dX7_unlike_85 ?_
                refine x_ineg G (by omega) dX7_unlike_87 ?_
                refine x_goto G 93 (by decide) dX7_unlike_88 ?_
                refine x_iadd G (by omega) dX7_unlike_93 ?_
                refine x_istore_n G [(3, xI (q + (-((N2 205 k.toNat) - (lb1 V (smL V sh2) k))))), (5, xI ((N2 205 k.toNat) - (lb1 V (smL V sh2) k))), (0, xR 195), (1, xI sh), (2, xI sh2), (4, xI k)] rfl (by decide) rfl dX7_unlike_94 ?_
                refine x_iinc G [(4, xI (k + 1)), (3, xI (q + (-((N2 205 k.toNat) - (lb1 V (smL V sh2) k))))), (5, xI ((N2 205 k.toNat) - (lb1 V (smL V sh2) k))), (0, xR 195), (1, xI sh), (2, xI sh2)] 5 rfl (by decide) (by omega) rfl dX7_unlike_95 ?_
                refine x_goto G 56 (by decide) dX7_unlike_98 ?_
                refine x_sub [(0, xR 195), (1, xI sh), (2, xI sh2), (3, xI (q + (-((N2 205 k.toNat) - (lb1 V (smL V sh2) k))))), (4, xI (k + 1))] [3, 4, 5, 1, 0] rfl ?_
                exact ih56 _ (by omega) (k + 1) (q + (-((N2 205 k.toNat) - (lb1 V (smL V sh2) k)))) rfl (by omega) (si_r hk.1 hn (by show (if 0 ≤ lb1 V (smL V sh) k.toNat - lb1 V (smL V sh2) k.toNat then lb1 V (smL V sh) k.toNat - lb1 V (smL V sh2) k.toNat else -(lb1 V (smL V sh) k.toNat - lb1 V (smL V sh2) k.toNat)) = _; rw [show ((k.toNat : Nat) : Int) = k by omega, ← hok]; first | rw [if_pos (by omega)] | rw [if_neg (by omega)])) (by omega)
          refine x_sub [(0, xR 195), (1, xI sh), (2, xI sh2), (3, xI 0), (4, xI 0)] [2, 3, 4, 1, 0] rfl ?_
          exact loop56 _ 0 0 rfl (by omega) (rfl) (by omega)
        · skip
          refine x_aload_n G 0 rfl rfl dX7_unlike_29 ?_
          refine x_get G (xR 205) xf7_12 lk_X7_38 (ly_n hY 195 (by decide)) (ly_k hY 195 (by decide)) (Or.inr ⟨rfl, _, (ly_r hY 195 12 (by decide) (by decide)), rfl⟩) dX7_unlike_30 ?_
          refine x_iload_n G 3 rfl rfl dX7_unlike_33 ?_
          refine x_aload_n G 0 rfl rfl dX7_unlike_34 ?_
          refine x_iload_n G 3 rfl rfl dX7_unlike_35 ?_
          refine x_callVp G [xI k, xR 205] [xI k] rfl (by decide) (ly_n hY 195 (by decide)) (ly_k hY 195 (by decide)) hy_X7_labelled hi_X7_labelled hs_X7_labelled ml_X7_158 rfl rfl (kX7_labelled _ _ V (smL V sh) k hY (mr_cg hN (hf1.1 196 (by omega))) hv hw1 hl18 (fun i hi => sm_it hs hi)) (by decide) (by decide) (Nat.le_of_ble_eq_true rfl) dX7_unlike_36 ?_
          refine x_iast G (ly_n hY 205 (by decide)) (ly_k hY 205 (by decide)) (show _ = 26 from ly_l hY 205 (by decide)) (by omega) (by omega) dX7_unlike_39 ?_
          refine x_iinc G [(3, xI (k + 1)), (0, xR 195), (1, xI sh), (2, xI sh2)] 3 rfl (by decide) (by omega) rfl dX7_unlike_40 ?_
          refine x_goto G 23 (by decide) dX7_unlike_43 ?_
          refine x_sub [(0, xR 195), (1, xI sh), (2, xI sh2), (3, xI (k + 1))] [1, 2, 3, 0] rfl ?_
          exact ih23 _ (by omega) (k + 1) (xst N2 205 k.toNat (lb1 V (smL V sh) k)) rfl (by omega) ((mfr_st hf1 (by omega))) ((rk_cg hR1 (xst_nq (by omega)) (xst_row (by omega)))) ((rw_cg hw1 (xst_nq (by omega)) (xst_row (by omega)))) (by intro j hj; by_cases e : j = k.toNat; (rw [e, xst_same, show ((k.toNat : Nat) : Int) = k by omega]); (rw [xst_nq (Or.inr e)]; exact hof j (by omega)))
      refine x_sub [(0, xR 195), (1, xI sh), (2, xI sh2), (3, xI 0)] [1, 2, 3, 0] rfl ?_
      exact loop23 _ 0 M18 rfl (by omega) ((mfr_tr (mfr_refl _) (mfx_w 207 h18.2.1 (by decide)))) (h18.2.2) (h18.1) (fun j hj => by omega)
    · skip
      have c11 := b2i_eq0.mp c11
      refine x_iconst G (by decide) dX7_unlike_14 ?_
      exact x_iret G Rt dX7_unlike_15 ⟨rfl, rfl, _, rfl, ⟨(by unfold qUnlike; (repeat (first | rw [if_pos (by omega)] | rw [if_neg (by omega)])) <;> try rfl), (mfr_refl _), hR⟩⟩
