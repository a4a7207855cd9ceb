theorem th_len {V : xM} (hv : VOK V) (i : Nat) (up : Int) : (thL V i up).length ≤ 100 := take_len (alL_len hv _ _ _ _)
theorem putO_b {V : xM} (hs : Srt V (V 10) (V 0 10).toNat) (i : Nat) : -2 ≤ putO V i ∧ putO V i < V 0 10 ∨ putO V i = -1 ∨ putO V i = -2 := by
  unfold putO
  split
  · exact Or.inr (Or.inr rfl)
  · split
    · by_cases h : 0 < (thL V i i).length
      · have h1 := lst_in h
        have h2 := th_it hs h1.1
        exact Or.inl (by omega)
      · refine Or.inr (Or.inr ?_)
        unfold lst; rw [if_neg h]
    · exact Or.inr (Or.inl rfl)
set_option maxRecDepth 100000 in
set_option maxHeartbeats 4000000 in
theorem kX6_then (D : xD) (l : Launch) {n : Nat} {T : xT} {M : xM} (V : xM) (i k : Int) (hY : LayOK n T) (hV : shw M 1 V) (hv : VOK V) (hs : Srt V (V 10) (V 0 10).toNat) : xC D l uX6_then 3 69 0 0 [xR 0, xI i, xI k] n T M (xPI n T (fun z M2 => z = qThen V i k ∧ xof [3, 4, 162, 163, 164, 165, 166, 167] M M2)) := by
  refine x_met uX6_then (by decide) (Nat.le_of_ble_eq_true rfl) ?_
  intro Γ G Rt _
  have G : xG Γ RX6 cX6_then 3 3 69 0 0 := G
  have Rt : xRt Γ (xPI n T (fun z M2 => z = qThen V i k ∧ xof [3, 4, 162, 163, 164, 165, 166, 167] M M2)) (some .int) 0 0 := Rt
  show xX Γ 0 0 n T 0 [(0, xR 0), (1, xI i), (2, xI k)] [] M
  have hc := ok_c hv
  have hsc := hv.1
  refine x_aload_n G 0 rfl rfl dX6_then_0 ?_
  refine x_get G (xR 1) xf6_0 lk_X6_10 (ly_n hY 0 (by decide)) (ly_k hY 0 (by decide)) (Or.inr ⟨rfl, _, (ly_r hY 0 0 (by decide) (by decide)), rfl⟩) dX6_then_1 ?_
  refine x_iload_n G 1 rfl rfl dX6_then_4 ?_
  refine x_callVp G [] [xI i] rfl (by decide) (st_n (ly_st1 hY) 0 (by decide)) (st_k (ly_st1 hY) 0 (by decide)) hy_X3_hasItem hi_X3_hasItem hs_X3_hasItem ml_X6_187 rfl rfl (kX3_hasItem _ _ 1 V i (ly_st1 hY) hV hv) (by decide) (by decide) (Nat.le_of_ble_eq_true rfl) dX6_then_5 ?_
  refine x_if_eq G 16 (by decide) dX6_then_8 (fun c8 => ?_) (fun c8 => ?_)
  · skip
    have c8 := b2i_eq0.mp c8
    refine x_iconst G (by decide) dX6_then_16 ?_
    exact x_iret G Rt dX6_then_17 ⟨rfl, rfl, _, rfl, ⟨(by unfold qThen; (repeat (first | rw [if_pos (by omega)] | rw [if_neg (by omega)])) <;> try rfl), (xof_refl _ _)⟩⟩
  · skip
    have c8 := b2i_ne0.mp c8
    refine x_iload_n G 2 rfl rfl dX6_then_11 ?_
    refine x_iconst G (by decide) dX6_then_12 ?_
    refine x_icmp_ge G 18 (by decide) dX6_then_13 (fun c13 => ?_) (fun c13 => ?_)
    · skip
      have hit := ok_i hv (i := i) (by omega) (by omega)
      refine x_aload_n G 0 rfl rfl dX6_then_18 ?_
      refine x_get G (xR 1) xf6_0 lk_X6_10 (ly_n hY 0 (by decide)) (ly_k hY 0 (by decide)) (Or.inr ⟨rfl, _, (ly_r hY 0 0 (by decide) (by decide)), rfl⟩) dX6_then_19 ?_
      refine x_get G (xR (1 + 9)) xf3_6 lk_X6_129 (st_n (ly_st1 hY) 0 (by decide)) (st_k (ly_st1 hY) 0 (by decide)) (Or.inr ⟨rfl, _, (st_r (ly_st1 hY) 0 6 (by decide) (by decide)), rfl⟩) dX6_then_22 ?_
      refine x_iload_n G 1 rfl rfl dX6_then_25 ?_
      refine x_zald G (st_n (ly_st1 hY) 9 (by decide)) (st_k (ly_st1 hY) 9 (by decide)) (show _ = 100 from st_l (ly_st1 hY) 9 (by decide)) (by omega) (by omega) dX6_then_26 ?_
      rw [show M (1 + 9) i.toNat = (V 9 i.toNat) from (congrFun (hV 9 (by decide) (by decide) (by decide)) i.toNat)]
      refine x_if_eq G 33 (by decide) dX6_then_27 (fun c27 => ?_) (fun c27 => ?_)
      · skip
        refine x_aload_n G 0 rfl rfl dX6_then_33 ?_
        refine x_iload_n G 1 rfl rfl dX6_then_34 ?_
        refine x_callVV G [] [xI i] rfl (by decide) (ly_n hY 0 (by decide)) (ly_k hY 0 (by decide)) hy_X6_askThen hi_X6_askThen hs_X6_askThen ml_X6_283 rfl rfl (kX6_askThen _ _ V i hY hV hv hs (by omega)) (by decide) (by decide) (Nat.le_of_ble_eq_true rfl) dX6_then_35 (fun M35 h35 => ?_)
        have hbp35 : 1 ≤ (2 : Int) ^ ((V 4 i.toNat) : Int).toNat ∧ (2 : Int) ^ ((V 4 i.toNat) : Int).toNat ≤ 8 := two_b (by omega)
        refine x_aload_n G 0 rfl rfl dX6_then_38 ?_
        refine x_get G (xR 162) xf6_4 lk_X6_37 (ly_n hY 0 (by decide)) (ly_k hY 0 (by decide)) (Or.inr ⟨rfl, _, (ly_r hY 0 4 (by decide) (by decide)), rfl⟩) dX6_then_39 ?_
        refine x_aload_n G 0 rfl rfl dX6_then_42 ?_
        refine x_get G (xR 1) xf6_0 lk_X6_10 (ly_n hY 0 (by decide)) (ly_k hY 0 (by decide)) (Or.inr ⟨rfl, _, (ly_r hY 0 0 (by decide) (by decide)), rfl⟩) dX6_then_43 ?_
        refine x_callVV G [] [xR 1] rfl (by decide) (sa_n (ly_sa162 hY) 0 (by decide)) (sa_k (ly_sa162 hY) 0 (by decide)) hy_X2_fill hi_X2_fill hs_X2_fill ml_X6_214 rfl rfl (kX2_fill _ _ 162 1 V (2 ^ (V 4 i.toNat).toNat) (V 11 (V 4 i.toNat).toNat) (V 8 i.toNat) i (-1) 100 (ly_sa162 hY) (ly_st1 hY) (by omega) (shw_xof hV h35.2 (by intro k9 h1 h2 h3; simp <;> omega)) hv h35.1 (by omega) (by omega) hs) (by decide) (by decide) (Nat.le_of_ble_eq_true rfl) dX6_then_46 (fun M46 h46 => ?_)
        have hsm46 : Smp M46 162 V (thL V i.toNat (i + 1)) := by
          have e9 := h46.1
          rw [fil_th hv hs (show 0 ≤ i ∧ i < V 0 10 by omega)] at e9
          exact e9
        have hn46 := hsm46.1
        have hl46 : (thL V i.toNat (i + 1)).length ≤ 100 := by
          rw [← fil_th hv hs (show 0 ≤ i ∧ i < V 0 10 by omega)]
          exact fil_len2 hv _ _ _
        refine x_aload_n G 0 rfl rfl dX6_then_49 ?_
        refine x_get G (xR 162) xf6_4 lk_X6_37 (ly_n hY 0 (by decide)) (ly_k hY 0 (by decide)) (Or.inr ⟨rfl, _, (ly_r hY 0 4 (by decide) (by decide)), rfl⟩) dX6_then_50 ?_
        refine x_iload_n G 2 rfl rfl dX6_then_53 ?_
        refine x_callVp G [] [xI k] rfl (by decide) (sa_n (ly_sa162 hY) 0 (by decide)) (sa_k (ly_sa162 hY) 0 (by decide)) hy_X2_kth hi_X2_kth hs_X2_kth ml_X6_217 rfl rfl (kX2_kth _ _ 162 V (thL V i.toNat (i + 1)) k (ly_sa162 hY) hsm46 hl46) (by decide) (by decide) (Nat.le_of_ble_eq_true rfl) dX6_then_54 ?_
        exact x_iret G Rt dX6_then_57 ⟨rfl, rfl, _, rfl, ⟨(by unfold qThen; (repeat (first | rw [if_pos (by omega)] | rw [if_neg (by omega)])) <;> try rfl), (xof_trans (xof_trans (xof_refl _ _) (xof_mono h35.2 (by decide))) (xof_mono h46.2.2 (by decide)))⟩⟩
      · skip
        refine x_bipush G (by decide) dX6_then_30 ?_
        exact x_iret G Rt dX6_then_32 ⟨rfl, rfl, _, rfl, ⟨(by unfold qThen; (repeat (first | rw [if_pos (by omega)] | rw [if_neg (by omega)])) <;> try rfl), (xof_refl _ _)⟩⟩
    · skip
      refine x_iconst G (by decide) dX6_then_16 ?_
      exact x_iret G Rt dX6_then_17 ⟨rfl, rfl, _, rfl, ⟨(by unfold qThen; (repeat (first | rw [if_pos (by omega)] | rw [if_neg (by omega)])) <;> try rfl), (xof_refl _ _)⟩⟩
set_option maxRecDepth 100000 in
set_option maxHeartbeats 4000000 in
theorem kX6_putOutBy (D : xD) (l : Launch) {n : Nat} {T : xT} {M : xM} (V : xM) (i : Int) (hY : LayOK n T) (hV : shw M 1 V) (hv : VOK V) (hs : Srt V (V 10) (V 0 10).toNat) (hi : isI V i) : xC D l uX6_putOutBy 5 115 0 0 [xR 0, xI i] n T M (xPI n T (fun z M2 => z = putO V i.toNat ∧ xof [3, 4, 162, 163, 164, 165, 166, 167] M M2)) := by
  refine x_met uX6_putOutBy (by decide) (Nat.le_of_ble_eq_true rfl) ?_
  intro Γ G Rt _
  have G : xG Γ RX6 cX6_putOutBy 3 5 115 0 0 := G
  have Rt : xRt Γ (xPI n T (fun z M2 => z = putO V i.toNat ∧ xof [3, 4, 162, 163, 164, 165, 166, 167] M M2)) (some .int) 0 0 := Rt
  show xX Γ 0 0 n T 0 [(0, xR 0), (1, xI i)] [] M
  have hc := ok_c hv
  have hsc := hv.1
  have hit := ok_i hv hi.1 hi.2
  have hsw := ok_s hv hit.1.1 hit.1.2
  refine x_aload_n G 0 rfl rfl dX6_putOutBy_0 ?_
  refine x_iload_n G 1 rfl rfl dX6_putOutBy_1 ?_
  refine x_callVV G [] [xI i] rfl (by decide) (ly_n hY 0 (by decide)) (ly_k hY 0 (by decide)) hy_X6_askThen hi_X6_askThen hs_X6_askThen ml_X6_283 rfl rfl (kX6_askThen _ _ V i hY hV hv hs (by omega)) (by decide) (by decide) (Nat.le_of_ble_eq_true rfl) dX6_putOutBy_2 (fun M2 h2 => ?_)
  have hbp2 : 1 ≤ (2 : Int) ^ ((V 4 i.toNat) : Int).toNat ∧ (2 : Int) ^ ((V 4 i.toNat) : Int).toNat ≤ 8 := two_b (by omega)
  refine x_aload_n G 0 rfl rfl dX6_putOutBy_5 ?_
  refine x_get G (xR 162) xf6_4 lk_X6_37 (ly_n hY 0 (by decide)) (ly_k hY 0 (by decide)) (Or.inr ⟨rfl, _, (ly_r hY 0 4 (by decide) (by decide)), rfl⟩) dX6_putOutBy_6 ?_
  refine x_iload_n G 1 rfl rfl dX6_putOutBy_9 ?_
  refine x_put G  xf2_7 lk_X6_276 (sa_n (ly_sa162 hY) 0 (by decide)) (sa_k (ly_sa162 hY) 0 (by decide)) rfl dX6_putOutBy_10 ?_
  refine x_aload_n G 0 rfl rfl dX6_putOutBy_13 ?_
  refine x_get G (xR 162) xf6_4 lk_X6_37 (ly_n hY 0 (by decide)) (ly_k hY 0 (by decide)) (Or.inr ⟨rfl, _, (ly_r hY 0 4 (by decide) (by decide)), rfl⟩) dX6_putOutBy_14 ?_
  refine x_aload_n G 0 rfl rfl dX6_putOutBy_17 ?_
  refine x_get G (xR 1) xf6_0 lk_X6_10 (ly_n hY 0 (by decide)) (ly_k hY 0 (by decide)) (Or.inr ⟨rfl, _, (ly_r hY 0 0 (by decide) (by decide)), rfl⟩) dX6_putOutBy_18 ?_
  refine x_callVV G [] [xR 1] rfl (by decide) (sa_n (ly_sa162 hY) 0 (by decide)) (sa_k (ly_sa162 hY) 0 (by decide)) hy_X2_fill hi_X2_fill hs_X2_fill ml_X6_214 rfl rfl (kX2_fill _ _ 162 1 V (2 ^ (V 4 i.toNat).toNat) (V 11 (V 4 i.toNat).toNat) (V 8 i.toNat) i i 100 (ly_sa162 hY) (ly_st1 hY) (by omega) (shw_st (shw_xof hV h2.2 (by intro k9 h1 h2 h3; simp <;> omega)) (by omega)) hv (ask_s7 h2.1) (by omega) (by omega) hs) (by decide) (by decide) (Nat.le_of_ble_eq_true rfl) dX6_putOutBy_21 (fun M21 h21 => ?_)
  have hsm21 : Smp M21 162 V (thL V i.toNat i) := by
    have e9 := h21.1
    rw [fil_po hv hs hi] at e9
    exact e9
  have hn21 := hsm21.1
  have hl21 : (thL V i.toNat i).length ≤ 100 := by
    rw [← fil_po hv hs hi]
    exact fil_len2 hv _ _ _
  refine x_aload_n G 0 rfl rfl dX6_putOutBy_24 ?_
  refine x_get G (xR 162) xf6_4 lk_X6_37 (ly_n hY 0 (by decide)) (ly_k hY 0 (by decide)) (Or.inr ⟨rfl, _, (ly_r hY 0 4 (by decide) (by decide)), rfl⟩) dX6_putOutBy_25 ?_
  refine x_get G (xI (M21 162 2)) xf2_2 lk_X6_154 (sa_n (ly_sa162 hY) 0 (by decide)) (sa_k (ly_sa162 hY) 0 (by decide)) (Or.inl ⟨rfl, rfl⟩) dX6_putOutBy_28 ?_
  refine x_aload_n G 0 rfl rfl dX6_putOutBy_31 ?_
  refine x_get G (xR 162) xf6_4 lk_X6_37 (ly_n hY 0 (by decide)) (ly_k hY 0 (by decide)) (Or.inr ⟨rfl, _, (ly_r hY 0 4 (by decide) (by decide)), rfl⟩) dX6_putOutBy_32 ?_
  refine x_get G (xI (M21 162 4)) xf2_4 lk_X6_211 (sa_n (ly_sa162 hY) 0 (by decide)) (sa_k (ly_sa162 hY) 0 (by decide)) (Or.inl ⟨rfl, rfl⟩) dX6_putOutBy_35 ?_
  have h4 := h21.2.1.2.1
  refine x_icmp_ge G 44 (by decide) dX6_putOutBy_38 (fun c38 => ?_) (fun c38 => ?_)
  · skip
    have hli := lst_in (L := thL V i.toNat i) (by omega)
    have hlr := th_it hs hli.1
    refine x_aload_n G 0 rfl rfl dX6_putOutBy_44 ?_
    refine x_get G (xR 162) xf6_4 lk_X6_37 (ly_n hY 0 (by decide)) (ly_k hY 0 (by decide)) (Or.inr ⟨rfl, _, (ly_r hY 0 4 (by decide) (by decide)), rfl⟩) dX6_putOutBy_45 ?_
    refine x_callVp G [] [] rfl (by decide) (sa_n (ly_sa162 hY) 0 (by decide)) (sa_k (ly_sa162 hY) 0 (by decide)) hy_X2_lastOne hi_X2_lastOne hs_X2_lastOne ml_X6_239 rfl rfl (kX2_lastOne _ _ 162 V (thL V i.toNat i) (ly_sa162 hY) hsm21 hl21) (by decide) (by decide) (Nat.le_of_ble_eq_true rfl) dX6_putOutBy_48 ?_
    refine x_istore_n G [(2, xI (lst (thL V i.toNat i))), (0, xR 0), (1, xI i)] rfl (by decide) rfl dX6_putOutBy_51 ?_
    refine x_aload_n G 1 rfl rfl dX6_putOutBy_52 ?_
    refine x_get G (xR 1) xf6_0 lk_X6_10 (ly_n hY 0 (by decide)) (ly_k hY 0 (by decide)) (Or.inr ⟨rfl, _, (ly_r hY 0 0 (by decide) (by decide)), rfl⟩) dX6_putOutBy_53 ?_
    refine x_iload_n G 2 rfl rfl dX6_putOutBy_56 ?_
    refine x_iload_n G 0 rfl rfl dX6_putOutBy_57 ?_
    refine x_callVI G [] [xI i, xI (lst (thL V i.toNat i))] rfl (by decide) (st_n (ly_st1 hY) 0 (by decide)) (st_k (ly_st1 hY) 0 (by decide)) hy_X3_isAhead hi_X3_isAhead hs_X3_isAhead ml_X6_279 rfl rfl (kX3_isAhead _ _ 1 V i (lst (thL V i.toNat i)) (ly_st1 hY) (shw_xof (shw_st (shw_xof hV h2.2 (by intro k9 h1 h2 h3; simp <;> omega)) (by omega)) h21.2.2 (by intro k9 h1 h2 h3; simp <;> omega)) hv (by omega) (by omega)) (by decide) (by decide) (Nat.le_of_ble_eq_true rfl) dX6_putOutBy_58 (fun z58 M58 h58 => ?_)
    rw [h58.1]
    refine x_if_eq G 68 (by decide) dX6_putOutBy_61 (fun c61 => ?_) (fun c61 => ?_)
    · skip
      have c61 := b2i_eq0.mp c61
      refine x_iconst G (by decide) dX6_putOutBy_68 ?_
      exact x_iret G Rt dX6_putOutBy_69 ⟨rfl, rfl, _, rfl, ⟨(by unfold putO; rw [show ((i.toNat : Nat) : Int) = i by omega]; (repeat (first | rw [if_pos (by first | omega | assumption)] | rw [if_neg (by first | omega | assumption)])) <;> try rfl), (xof_trans (xof_trans (xof_trans (xof_trans (xof_refl _ _) (xof_mono h2.2 (by decide))) (xof_xst (by decide))) (xof_mono h21.2.2 (by decide))) (xof_mono h58.2 (by decide)))⟩⟩
    · skip
      have c61 := b2i_ne0.mp c61
      refine x_iload_n G 0 rfl rfl dX6_putOutBy_64 ?_
      refine x_goto G 69 (by decide) dX6_putOutBy_65 ?_
      exact x_iret G Rt dX6_putOutBy_69 ⟨rfl, rfl, _, rfl, ⟨(by unfold putO; rw [show ((i.toNat : Nat) : Int) = i by omega]; (repeat (first | rw [if_pos (by first | omega | assumption)] | rw [if_neg (by first | omega | assumption)])) <;> try rfl), (xof_trans (xof_trans (xof_trans (xof_trans (xof_refl _ _) (xof_mono h2.2 (by decide))) (xof_xst (by decide))) (xof_mono h21.2.2 (by decide))) (xof_mono h58.2 (by decide)))⟩⟩
  · skip
    refine x_bipush G (by decide) dX6_putOutBy_41 ?_
    exact x_iret G Rt dX6_putOutBy_43 ⟨rfl, rfl, _, rfl, ⟨(by unfold putO; rw [show ((i.toNat : Nat) : Int) = i by omega]; (repeat (first | rw [if_pos (by first | omega | assumption)] | rw [if_neg (by first | omega | assumption)])) <;> try rfl), (xof_trans (xof_trans (xof_trans (xof_refl _ _) (xof_mono h2.2 (by decide))) (xof_xst (by decide))) (xof_mono h21.2.2 (by decide)))⟩⟩
set_option maxRecDepth 100000 in
set_option maxHeartbeats 4000000 in
theorem kX6_played (D : xD) (l : Launch) {n : Nat} {T : xT} {M : xM} (V : xM) (sh what : Int) (hY : LayOK n T) (hV : shw M 1 V) (hv : VOK V) (hs : Srt V (V 10) (V 0 10).toNat) : xC D l uX6_played 6 137 0 0 [xR 0, xI sh, xI what] n T M (xPI n T (fun z M2 => z = qPlayed V sh what ∧ xof [3, 4, 162, 163, 164, 165, 166, 167] M M2)) := by
  refine x_met uX6_played (by decide) (Nat.le_of_ble_eq_true rfl) ?_
  intro Γ G Rt _
  have G : xG Γ RX6 cX6_played 6 6 137 0 0 := G
  have Rt : xRt Γ (xPI n T (fun z M2 => z = qPlayed V sh what ∧ xof [3, 4, 162, 163, 164, 165, 166, 167] M M2)) (some .int) 0 0 := Rt
  show xX Γ 0 0 n T 0 [(0, xR 0), (1, xI sh), (2, xI what)] [] M
  have hc := ok_c hv
  have hsc := hv.1
  refine x_iload_n G 1 rfl rfl dX6_played_0 ?_
  refine x_callSp G [] [xI sh] hy_X6_isShard ht_X6_isShard ml_X6_86 rfl rfl (kX6_isShard _ _ sh) (by decide) (by decide) (Nat.le_of_ble_eq_true rfl) dX6_played_1 ?_
  refine x_if_eq G 16 (by decide) dX6_played_4 (fun c4 => ?_) (fun c4 => ?_)
  · skip
    have c4 := b2i_eq0.mp c4
    refine x_iconst G (by decide) dX6_played_16 ?_
    exact x_iret G Rt dX6_played_17 ⟨rfl, rfl, _, rfl, ⟨(by unfold qPlayed; (repeat (first | rw [if_pos (by omega)] | rw [if_neg (by omega)])) <;> try rfl), (xof_refl _ _)⟩⟩
  · skip
    have c4 := b2i_ne0.mp c4
    refine x_iload_n G 2 rfl rfl dX6_played_7 ?_
    refine x_iconst G (by decide) dX6_played_8 ?_
    refine x_iconst G (by decide) dX6_played_9 ?_
    refine x_callSp G [] [xI what, xI 0, xI 1] hy_X6_isWithin ht_X6_isWithin ml_X6_62 rfl rfl (kX6_isWithin _ _ what 0 1) (by decide) (by decide) (Nat.le_of_ble_eq_true rfl) dX6_played_10 ?_
    refine x_if_ne G 18 (by decide) dX6_played_13 (fun c13 => ?_) (fun c13 => ?_)
    · skip
      have c13 := b2i_ne0.mp c13
      refine x_iconst G (by decide) dX6_played_18 ?_
      refine x_istore_n G [(3, xI 0), (0, xR 0), (1, xI sh), (2, xI what)] rfl (by decide) rfl dX6_played_19 ?_
      refine x_iconst G (by decide) dX6_played_20 ?_
      refine x_istore G [(4, xI 0), (3, xI 0), (0, xR 0), (1, xI sh), (2, xI what)] (by decide) rfl dX6_played_21 ?_
      have loop23 : ∀ (d : Nat) (k : Int) (q : Int) (M1 : xM), (V 0 10 - k).toNat = d → (0 ≤ k ∧ k ≤ V 0 10) → (q = fb_si (fun j => b2i (und V j sh (-1) ∧ (0 ≤ putO V j ∨ (what = 0 ∧ putO V j = -2)))) k.toNat) → (shw M1 1 V) → (xof [3, 4, 162, 163, 164, 165, 166, 167] M M1) → xX Γ 0 0 n T 23 [(0, xR 0), (1, xI sh), (2, xI what), (3, xI q), (4, xI k)] [] M1 := by
        intro d
        induction d using Nat.strongRecOn with
        | ind d ih23 =>
        intro k q M1 hd23 hk hn hV1 hx1
        skip
        have hb := si_b (fun j => und V j sh (-1) ∧ (0 ≤ putO V j ∨ (what = 0 ∧ putO V j = -2))) k.toNat
        refine x_iload G 4 rfl dX6_played_23 ?_
        refine x_aload_n G 0 rfl rfl dX6_played_25 ?_
        refine x_get G (xR 1) xf6_0 lk_X6_10 (ly_n hY 0 (by decide)) (ly_k hY 0 (by decide)) (Or.inr ⟨rfl, _, (ly_r hY 0 0 (by decide) (by decide)), rfl⟩) dX6_played_26 ?_
        refine x_get G (xI (M1 1 10)) xf3_10 lk_X6_83 (st_n (ly_st1 hY) 0 (by decide)) (st_k (ly_st1 hY) 0 (by decide)) (Or.inl ⟨rfl, rfl⟩) dX6_played_29 ?_
        rw [show M1 1 10 = (V 0 10) from (congrFun (hV1 0 (by decide) (by decide) (by decide)) 10)]
        refine x_icmp_ge G 82 (by decide) dX6_played_32 (fun c32 => ?_) (fun c32 => ?_)
        · skip
          refine x_iload_n G 3 rfl rfl dX6_played_82 ?_
          exact x_iret G Rt dX6_played_83 ⟨rfl, rfl, _, rfl, ⟨(by unfold qPlayed; rw [if_pos (by omega), hn, show k = V 0 10 by omega]), hx1⟩⟩
        · skip
          refine x_aload_n G 0 rfl rfl dX6_played_35 ?_
          refine x_get G (xR 1) xf6_0 lk_X6_10 (ly_n hY 0 (by decide)) (ly_k hY 0 (by decide)) (Or.inr ⟨rfl, _, (ly_r hY 0 0 (by decide) (by decide)), rfl⟩) dX6_played_36 ?_
          refine x_iload G 4 rfl dX6_played_39 ?_
          refine x_iload_n G 1 rfl rfl dX6_played_41 ?_
          refine x_iconst G (by decide) dX6_played_42 ?_
          refine x_callVp G [] [xI k, xI sh, xI (-1)] rfl (by decide) (st_n (ly_st1 hY) 0 (by decide)) (st_k (ly_st1 hY) 0 (by decide)) hy_X3_isUndroppedOf hi_X3_isUndroppedOf hs_X3_isUndroppedOf ml_X6_144 rfl rfl (kX3_isUndroppedOf _ _ 1 V k sh (-1) (ly_st1 hY) hV1 hv (by omega)) (by decide) (by decide) (Nat.le_of_ble_eq_true rfl) dX6_played_43 ?_
          refine x_if_eq G 76 (by decide) dX6_played_46 (fun c46 => ?_) (fun c46 => ?_)
          · skip
            have c46 := b2i_eq0.mp c46
            refine x_iinc G [(4, xI (k + 1)), (0, xR 0), (1, xI sh), (2, xI what), (3, xI q)] 4 rfl (by decide) (by omega) rfl dX6_played_76 ?_
            refine x_goto G 23 (by decide) dX6_played_79 ?_
            refine x_sub [(0, xR 0), (1, xI sh), (2, xI what), (3, xI q), (4, xI (k + 1))] [1, 2, 3, 4, 0] rfl ?_
            exact ih23 _ (by omega) (k + 1) q M1 rfl (by omega) (si_n hk.1 hn (fun h => c46 h.1)) (hV1) (hx1)
          · skip
            have c46 := b2i_ne0.mp c46
            refine x_aload_n G 0 rfl rfl dX6_played_49 ?_
            refine x_iload G 4 rfl dX6_played_50 ?_
            refine x_callVI G [] [xI k] rfl (by decide) (ly_n hY 0 (by decide)) (ly_k hY 0 (by decide)) hy_X6_putOutBy hi_X6_putOutBy hs_X6_putOutBy ml_X6_286 rfl rfl (kX6_putOutBy _ _ V k hY hV1 hv hs (by omega)) (by decide) (by decide) (Nat.le_of_ble_eq_true rfl) dX6_played_52 (fun z52 M52 h52 => ?_)
            rw [h52.1]
            refine x_istore G [(5, xI (putO V k.toNat)), (0, xR 0), (1, xI sh), (2, xI what), (3, xI q), (4, xI k)] (by decide) rfl dX6_played_55 ?_
            refine x_iload G 0 rfl dX6_played_57 ?_
            refine x_if_ge G 73 (by decide) dX6_played_59 (fun c59 => ?_) (fun c59 => ?_)
            · skip
              refine x_iinc G [(3, xI (q + 1)), (5, xI (putO V k.toNat)), (0, xR 0), (1, xI sh), (2, xI what), (4, xI k)] 4 rfl (by decide) (by omega) rfl dX6_played_73 ?_
              refine x_iinc G [(4, xI (k + 1)), (3, xI (q + 1)), (5, xI (putO V k.toNat)), (0, xR 0), (1, xI sh), (2, xI what)] 5 rfl (by decide) (by omega) rfl dX6_played_76 ?_
              refine x_goto G 23 (by decide) dX6_played_79 ?_
              refine x_sub [(0, xR 0), (1, xI sh), (2, xI what), (3, xI (q + 1)), (4, xI (k + 1))] [3, 4, 5, 1, 0] rfl ?_
              exact ih23 _ (by omega) (k + 1) (q + 1) M52 rfl (by omega) (by first | exact si_y hk.1 hn ⟨c46, by omega⟩ | exact si_n hk.1 hn (fun h => by have h2 := h.2; omega)) ((shw_xof hV1 h52.2 (by intro k9 h1 h2 h3; simp <;> omega))) ((xof_trans hx1 (xof_mono h52.2 (by decide))))
            · skip
              refine x_iload_n G 3 rfl rfl dX6_played_62 ?_
              refine x_if_ne G 76 (by decide) dX6_played_63 (fun c63 => ?_) (fun c63 => ?_)
              · skip
                refine x_iinc G [(4, xI (k + 1)), (5, xI (putO V k.toNat)), (0, xR 0), (1, xI sh), (2, xI what), (3, xI q)] 5 rfl (by decide) (by omega) rfl dX6_played_76 ?_
                refine x_goto G 23 (by decide) dX6_played_79 ?_
                refine x_sub [(0, xR 0), (1, xI sh), (2, xI what), (3, xI q), (4, xI (k + 1))] [2, 3, 4, 5, 0] rfl ?_
                exact ih23 _ (by omega) (k + 1) q M52 rfl (by omega) (by first | exact si_y hk.1 hn ⟨c46, by omega⟩ | exact si_n hk.1 hn (fun h => by have h2 := h.2; omega)) ((shw_xof hV1 h52.2 (by intro k9 h1 h2 h3; simp <;> omega))) ((xof_trans hx1 (xof_mono h52.2 (by decide))))
              · skip
                refine x_iload G 0 rfl dX6_played_66 ?_
                refine x_bipush G (by decide) dX6_played_68 ?_
                refine x_icmp_ne G 76 (by decide) dX6_played_70 (fun c70 => ?_) (fun c70 => ?_)
                · skip
                  refine x_iinc G [(4, xI (k + 1)), (5, xI (putO V k.toNat)), (0, xR 0), (1, xI sh), (2, xI what), (3, xI q)] 5 rfl (by decide) (by omega) rfl dX6_played_76 ?_
                  refine x_goto G 23 (by decide) dX6_played_79 ?_
                  refine x_sub [(0, xR 0), (1, xI sh), (2, xI what), (3, xI q), (4, xI (k + 1))] [2, 3, 4, 5, 0] rfl ?_
                  exact ih23 _ (by omega) (k + 1) q M52 rfl (by omega) (by first | exact si_y hk.1 hn ⟨c46, by omega⟩ | exact si_n hk.1 hn (fun h => by have h2 := h.2; omega)) ((shw_xof hV1 h52.2 (by intro k9 h1 h2 h3; simp <;> omega))) ((xof_trans hx1 (xof_mono h52.2 (by decide))))
                · skip
                  refine x_iinc G [(3, xI (q + 1)), (5, xI (putO V k.toNat)), (0, xR 0), (1, xI sh), (2, xI what), (4, xI k)] 4 rfl (by decide) (by omega) rfl dX6_played_73 ?_
                  refine x_iinc G [(4, xI (k + 1)), (3, xI (q + 1)), (5, xI (putO V k.toNat)), (0, xR 0), (1, xI sh), (2, xI what)] 5 rfl (by decide) (by omega) rfl dX6_played_76 ?_
                  refine x_goto G 23 (by decide) dX6_played_79 ?_
                  refine x_sub [(0, xR 0), (1, xI sh), (2, xI what), (3, xI (q + 1)), (4, xI (k + 1))] [3, 4, 5, 1, 0] rfl ?_
                  exact ih23 _ (by omega) (k + 1) (q + 1) M52 rfl (by omega) (by first | exact si_y hk.1 hn ⟨c46, by omega⟩ | exact si_n hk.1 hn (fun h => by have h2 := h.2; omega)) ((shw_xof hV1 h52.2 (by intro k9 h1 h2 h3; simp <;> omega))) ((xof_trans hx1 (xof_mono h52.2 (by decide))))
      refine x_sub [(0, xR 0), (1, xI sh), (2, xI what), (3, xI 0), (4, xI 0)] [2, 3, 4, 1, 0] rfl ?_
      exact loop23 _ 0 0 M rfl (by omega) (rfl) (hV) ((xof_refl _ _))
    · skip
      have c13 := b2i_eq0.mp c13
      refine x_iconst G (by decide) dX6_played_16 ?_
      exact x_iret G Rt dX6_played_17 ⟨rfl, rfl, _, rfl, ⟨(by unfold qPlayed; (repeat (first | rw [if_pos (by omega)] | rw [if_neg (by omega)])) <;> try rfl), (xof_refl _ _)⟩⟩
set_option maxRecDepth 100000 in
set_option maxHeartbeats 4000000 in
theorem kX6_outBy (D : xD) (l : Launch) {n : Nat} {T : xT} {M : xM} (V : xM) (i : Int) (hY : LayOK n T) (hV : shw M 1 V) (hv : VOK V) (hs : Srt V (V 10) (V 0 10).toNat) : xC D l uX6_outBy 6 137 0 0 [xR 0, xI i] n T M (xPI n T (fun z M2 => (qOutBy V i z) ∧ xof [3, 4, 162, 163, 164, 165, 166, 167] M M2)) := by
  refine x_met uX6_outBy (by decide) (Nat.le_of_ble_eq_true rfl) ?_
  intro Γ G Rt _
  have G : xG Γ RX6 cX6_outBy 3 6 137 0 0 := G
  have Rt : xRt Γ (xPI n T (fun z M2 => (qOutBy V i z) ∧ xof [3, 4, 162, 163, 164, 165, 166, 167] M M2)) (some .int) 0 0 := Rt
  show xX Γ 0 0 n T 0 [(0, xR 0), (1, xI i)] [] M
  have hc := ok_c hv
  have hsc := hv.1
  refine x_aload_n G 0 rfl rfl dX6_outBy_0 ?_
  refine x_get G (xR 1) xf6_0 lk_X6_10 (ly_n hY 0 (by decide)) (ly_k hY 0 (by decide)) (Or.inr ⟨rfl, _, (ly_r hY 0 0 (by decide) (by decide)), rfl⟩) dX6_outBy_1 ?_
  refine x_iload_n G 1 rfl rfl dX6_outBy_4 ?_
  refine x_callVp G [] [xI i] rfl (by decide) (st_n (ly_st1 hY) 0 (by decide)) (st_k (ly_st1 hY) 0 (by decide)) hy_X3_hasItem hi_X3_hasItem hs_X3_hasItem ml_X6_187 rfl rfl (kX3_hasItem _ _ 1 V i (ly_st1 hY) hV hv) (by decide) (by decide) (Nat.le_of_ble_eq_true rfl) dX6_outBy_5 ?_
  refine x_if_ne G 13 (by decide) dX6_outBy_8 (fun c8 => ?_) (fun c8 => ?_)
  · skip
    have c8 := b2i_ne0.mp c8
    have hit := ok_i hv (i := i) (by omega) (by omega)
    refine x_aload_n G 0 rfl rfl dX6_outBy_13 ?_
    refine x_get G (xR 1) xf6_0 lk_X6_10 (ly_n hY 0 (by decide)) (ly_k hY 0 (by decide)) (Or.inr ⟨rfl, _, (ly_r hY 0 0 (by decide) (by decide)), rfl⟩) dX6_outBy_14 ?_
    refine x_get G (xR (1 + 9)) xf3_6 lk_X6_129 (st_n (ly_st1 hY) 0 (by decide)) (st_k (ly_st1 hY) 0 (by decide)) (Or.inr ⟨rfl, _, (st_r (ly_st1 hY) 0 6 (by decide) (by decide)), rfl⟩) dX6_outBy_17 ?_
    refine x_iload_n G 1 rfl rfl dX6_outBy_20 ?_
    refine x_zald G (st_n (ly_st1 hY) 9 (by decide)) (st_k (ly_st1 hY) 9 (by decide)) (show _ = 100 from st_l (ly_st1 hY) 9 (by decide)) (by omega) (by omega) dX6_outBy_21 ?_
    rw [show M (1 + 9) i.toNat = (V 9 i.toNat) from (congrFun (hV 9 (by decide) (by decide) (by decide)) i.toNat)]
    refine x_if_eq G 28 (by decide) dX6_outBy_22 (fun c22 => ?_) (fun c22 => ?_)
    · skip
      refine x_iload_n G 1 rfl rfl dX6_outBy_28 ?_
      refine x_iconst G (by decide) dX6_outBy_29 ?_
      refine x_iadd G (by omega) dX6_outBy_30 ?_
      refine x_istore_n G [(2, xI (i + 1)), (0, xR 0), (1, xI i)] rfl (by decide) rfl dX6_outBy_31 ?_
      have loop32 : ∀ (d : Nat) (k : Int) (M1 : xM), (V 0 10 - k).toNat = d → (i + 1 ≤ k ∧ k ≤ V 0 10) → (∀ x, i + 1 ≤ x → x < k → ¬ (und V x.toNat (V 4 i.toNat) (-1) ∧ putO V x.toNat = i)) → (shw M1 1 V) → (xof [3, 4, 162, 163, 164, 165, 166, 167] M M1) → xX Γ 0 0 n T 32 [(0, xR 0), (1, xI i), (2, xI k)] [] M1 := by
        intro d
        induction d using Nat.strongRecOn with
        | ind d ih32 =>
        intro k M1 hd32 hk hno hV1 hx1
        skip
        refine x_iload_n G 2 rfl rfl dX6_outBy_32 ?_
        refine x_aload_n G 0 rfl rfl dX6_outBy_33 ?_
        refine x_get G (xR 1) xf6_0 lk_X6_10 (ly_n hY 0 (by decide)) (ly_k hY 0 (by decide)) (Or.inr ⟨rfl, _, (ly_r hY 0 0 (by decide) (by decide)), rfl⟩) dX6_outBy_34 ?_
        refine x_get G (xI (M1 1 10)) xf3_10 lk_X6_83 (st_n (ly_st1 hY) 0 (by decide)) (st_k (ly_st1 hY) 0 (by decide)) (Or.inl ⟨rfl, rfl⟩) dX6_outBy_37 ?_
        rw [show M1 1 10 = (V 0 10) from (congrFun (hV1 0 (by decide) (by decide) (by decide)) 10)]
        refine x_icmp_ge G 81 (by decide) dX6_outBy_40 (fun c40 => ?_) (fun c40 => ?_)
        · skip
          refine x_bipush G (by decide) dX6_outBy_81 ?_
          exact x_iret G Rt dX6_outBy_83 ⟨rfl, rfl, _, rfl, ⟨Or.inr (Or.inr ⟨by omega, by omega, Or.inr ⟨rfl, fun x a b => hno x a (by omega)⟩⟩), hx1⟩⟩
        · skip
          refine x_aload_n G 0 rfl rfl dX6_outBy_43 ?_
          refine x_get G (xR 1) xf6_0 lk_X6_10 (ly_n hY 0 (by decide)) (ly_k hY 0 (by decide)) (Or.inr ⟨rfl, _, (ly_r hY 0 0 (by decide) (by decide)), rfl⟩) dX6_outBy_44 ?_
          refine x_iload_n G 2 rfl rfl dX6_outBy_47 ?_
          refine x_aload_n G 0 rfl rfl dX6_outBy_48 ?_
          refine x_get G (xR 1) xf6_0 lk_X6_10 (ly_n hY 0 (by decide)) (ly_k hY 0 (by decide)) (Or.inr ⟨rfl, _, (ly_r hY 0 0 (by decide) (by decide)), rfl⟩) dX6_outBy_49 ?_
          refine x_get G (xR (1 + 4)) xf3_1 lk_X6_133 (st_n (ly_st1 hY) 0 (by decide)) (st_k (ly_st1 hY) 0 (by decide)) (Or.inr ⟨rfl, _, (st_r (ly_st1 hY) 0 1 (by decide) (by decide)), rfl⟩) dX6_outBy_52 ?_
          refine x_iload_n G 1 rfl rfl dX6_outBy_55 ?_
          refine x_iald G (st_n (ly_st1 hY) 4 (by decide)) (st_k (ly_st1 hY) 4 (by decide)) (show _ = 100 from st_l (ly_st1 hY) 4 (by decide)) (by omega) (by omega) dX6_outBy_56 ?_
          rw [show M1 (1 + 4) i.toNat = (V 4 i.toNat) from (congrFun (hV1 4 (by decide) (by decide) (by decide)) i.toNat)]
          refine x_iconst G (by decide) dX6_outBy_57 ?_
          refine x_callVp G [] [xI k, xI (V 4 i.toNat), xI (-1)] rfl (by decide) (st_n (ly_st1 hY) 0 (by decide)) (st_k (ly_st1 hY) 0 (by decide)) hy_X3_isUndroppedOf hi_X3_isUndroppedOf hs_X3_isUndroppedOf ml_X6_144 rfl rfl (kX3_isUndroppedOf _ _ 1 V k (V 4 i.toNat) (-1) (ly_st1 hY) hV1 hv (by omega)) (by decide) (by decide) (Nat.le_of_ble_eq_true rfl) dX6_outBy_58 ?_
          refine x_if_eq G 75 (by decide) dX6_outBy_61 (fun c61 => ?_) (fun c61 => ?_)
          · skip
            have c61 := b2i_eq0.mp c61
            refine x_iinc G [(2, xI (k + 1)), (0, xR 0), (1, xI i)] 2 rfl (by decide) (by omega) rfl dX6_outBy_75 ?_
            refine x_goto G 32 (by decide) dX6_outBy_78 ?_
            refine x_sub [(0, xR 0), (1, xI i), (2, xI (k + 1))] [1, 2, 0] rfl ?_
            exact ih32 _ (by omega) (k + 1) M1 rfl (by omega) (by intro x a b; rcases Int.lt_or_le x k with g | g; exact hno x a g; have e : x = k := (by omega); rw [e]; intro h; exact c61 h.1) (hV1) (hx1)
          · skip
            have c61 := b2i_ne0.mp c61
            refine x_aload_n G 0 rfl rfl dX6_outBy_64 ?_
            refine x_iload_n G 2 rfl rfl dX6_outBy_65 ?_
            refine x_callVI G [] [xI k] rfl (by decide) (ly_n hY 0 (by decide)) (ly_k hY 0 (by decide)) hy_X6_putOutBy hi_X6_putOutBy hs_X6_putOutBy ml_X6_286 rfl rfl (kX6_putOutBy _ _ V k hY hV1 hv hs (by omega)) (by decide) (by decide) (Nat.le_of_ble_eq_true rfl) dX6_outBy_66 (fun z66 M66 h66 => ?_)
            rw [h66.1]
            refine x_iload_n G 1 rfl rfl dX6_outBy_69 ?_
            refine x_icmp_ne G 75 (by decide) dX6_outBy_70 (fun c70 => ?_) (fun c70 => ?_)
            · skip
              refine x_iinc G [(2, xI (k + 1)), (0, xR 0), (1, xI i)] 2 rfl (by decide) (by omega) rfl dX6_outBy_75 ?_
              refine x_goto G 32 (by decide) dX6_outBy_78 ?_
              refine x_sub [(0, xR 0), (1, xI i), (2, xI (k + 1))] [1, 2, 0] rfl ?_
              exact ih32 _ (by omega) (k + 1) M66 rfl (by omega) (by intro x a b; rcases Int.lt_or_le x k with g | g; exact hno x a g; have e : x = k := (by omega); rw [e]; intro h; exact c70 h.2) ((shw_xof hV1 h66.2 (by intro k9 h1 h2 h3; simp <;> omega))) ((xof_trans hx1 (xof_mono h66.2 (by decide))))
            · skip
              refine x_iload_n G 2 rfl rfl dX6_outBy_73 ?_
              exact x_iret G Rt dX6_outBy_74 ⟨rfl, rfl, _, rfl, ⟨Or.inr (Or.inr ⟨by omega, by omega, Or.inl ⟨by omega, ⟨c61, by omega⟩, hno⟩⟩), (xof_trans hx1 (xof_mono h66.2 (by decide)))⟩⟩
      refine x_sub [(0, xR 0), (1, xI i), (2, xI (i + 1))] [1, 2, 0] rfl ?_
      exact loop32 _ (i + 1) M rfl (by omega) (by intro x a b; omega) (hV) ((xof_refl _ _))
    · skip
      refine x_bipush G (by decide) dX6_outBy_25 ?_
      exact x_iret G Rt dX6_outBy_27 ⟨rfl, rfl, _, rfl, ⟨Or.inr (Or.inl ⟨by omega, by omega, rfl⟩), (xof_refl _ _)⟩⟩
  · skip
    have c8 := b2i_eq0.mp c8
    refine x_iconst G (by decide) dX6_outBy_11 ?_
    exact x_iret G Rt dX6_outBy_12 ⟨rfl, rfl, _, rfl, ⟨Or.inl ⟨by omega, rfl⟩, (xof_refl _ _)⟩⟩
set_option maxRecDepth 100000 in
set_option maxHeartbeats 4000000 in
theorem kX6_weightOfSample (D : xD) (l : Launch) {n : Nat} {T : xT} {M : xM} (V : xM) (sh : Int) (hY : LayOK n T) (hV : shw M 1 V) (hv : VOK V) (hs : Srt V (V 10) (V 0 10).toNat) (hsh : okS sh) : xC D l uX6_weightOfSample 4 91 0 0 [xR 0, xI sh] n T M (xPI n T (fun z M2 => z = wtL V (smL V sh) ∧ xof [3, 4, 162, 163, 164, 165, 166, 167] M M2)) := by
  refine x_met uX6_weightOfSample (by decide) (Nat.le_of_ble_eq_true rfl) ?_
  intro Γ G Rt _
  have G : xG Γ RX6 cX6_weightOfSample 4 4 91 0 0 := G
  have Rt : xRt Γ (xPI n T (fun z M2 => z = wtL V (smL V sh) ∧ xof [3, 4, 162, 163, 164, 165, 166, 167] M M2)) (some .int) 0 0 := Rt
  show xX Γ 0 0 n T 0 [(0, xR 0), (1, xI sh)] [] M
  have hc := ok_c hv
  have hsc := hv.1
  refine x_aload_n G 0 rfl rfl dX6_weightOfSample_0 ?_
  refine x_get G (xR 162) xf6_4 lk_X6_37 (ly_n hY 0 (by decide)) (ly_k hY 0 (by decide)) (Or.inr ⟨rfl, _, (ly_r hY 0 4 (by decide) (by decide)), rfl⟩) dX6_weightOfSample_1 ?_
  refine x_aload_n G 0 rfl rfl dX6_weightOfSample_4 ?_
  refine x_get G (xR 1) xf6_0 lk_X6_10 (ly_n hY 0 (by decide)) (ly_k hY 0 (by decide)) (Or.inr ⟨rfl, _, (ly_r hY 0 0 (by decide) (by decide)), rfl⟩) dX6_weightOfSample_5 ?_
  refine x_iload_n G 1 rfl rfl dX6_weightOfSample_8 ?_
  refine x_callVV G [] [xR 1, xI sh] rfl (by decide) (sa_n (ly_sa162 hY) 0 (by decide)) (sa_k (ly_sa162 hY) 0 (by decide)) hy_X2_take hi_X2_take hs_X2_take ml_X6_150 rfl rfl (kX2_take _ _ 162 1 V sh (ly_sa162 hY) (ly_st1 hY) (by omega) hV hv (by omega) hs) (by decide) (by decide) (Nat.le_of_ble_eq_true rfl) dX6_weightOfSample_9 (fun M9 h9 => ?_)
  have hsm9 : Smp M9 162 V (smL V sh) := by
      have e9 := h9.1
      rw [tkL_eq hv hs (by omega)] at e9
      exact e9
  have hn9 := hsm9.1
  have hl9 : (smL V sh).length ≤ 100 := take_len (alL_len hv _ _ _ _)
  refine x_iconst G (by decide) dX6_weightOfSample_12 ?_
  refine x_istore_n G [(2, xI 0), (0, xR 0), (1, xI sh)] rfl (by decide) rfl dX6_weightOfSample_13 ?_
  refine x_iconst G (by decide) dX6_weightOfSample_14 ?_
  refine x_istore_n G [(3, xI 0), (2, xI 0), (0, xR 0), (1, xI sh)] rfl (by decide) rfl dX6_weightOfSample_15 ?_
  have loop16 : ∀ (d : Nat) (k : Int) (q : Int), ((smL V sh).length - k).toNat = d → (0 ≤ k ∧ k ≤ (smL V sh).length) → (q = wtL V ((smL V sh).take k.toNat)) → xX Γ 0 0 n T 16 [(0, xR 0), (1, xI sh), (2, xI q), (3, xI k)] [] M9 := by
    intro d
    induction d using Nat.strongRecOn with
    | ind d ih16 =>
    intro k q hd16 hk hn
    have hwb := wt_b hv (L := (smL V sh).take k.toNat) (fun i hi => sm_it hs (List.mem_of_mem_take hi))
    have hwl := List.length_take_le k.toNat (smL V sh)
    refine x_iload_n G 3 rfl rfl dX6_weightOfSample_16 ?_
    refine x_aload_n G 0 rfl rfl dX6_weightOfSample_17 ?_
    refine x_get G (xR 162) xf6_4 lk_X6_37 (ly_n hY 0 (by decide)) (ly_k hY 0 (by decide)) (Or.inr ⟨rfl, _, (ly_r hY 0 4 (by decide) (by decide)), rfl⟩) dX6_weightOfSample_18 ?_
    refine x_get G (xI (M9 162 2)) xf2_2 lk_X6_154 (sa_n (ly_sa162 hY) 0 (by decide)) (sa_k (ly_sa162 hY) 0 (by decide)) (Or.inl ⟨rfl, rfl⟩) dX6_weightOfSample_21 ?_
    refine x_icmp_ge G 53 (by decide) dX6_weightOfSample_24 (fun c24 => ?_) (fun c24 => ?_)
    · skip
      refine x_iload_n G 2 rfl rfl dX6_weightOfSample_53 ?_
      exact x_iret G Rt dX6_weightOfSample_54 ⟨rfl, rfl, _, rfl, ⟨(by rw [hn, List.take_of_length_le (by omega)]), (xof_trans (xof_refl _ _) (xof_mono h9.2.2 (by decide)))⟩⟩
    · skip
      refine x_iload_n G 2 rfl rfl dX6_weightOfSample_27 ?_
      refine x_aload_n G 0 rfl rfl dX6_weightOfSample_28 ?_
      refine x_get G (xR 1) xf6_0 lk_X6_10 (ly_n hY 0 (by decide)) (ly_k hY 0 (by decide)) (Or.inr ⟨rfl, _, (ly_r hY 0 0 (by decide) (by decide)), rfl⟩) dX6_weightOfSample_29 ?_
      refine x_get G (xR (1 + 6)) xf3_3 lk_X6_123 (st_n (ly_st1 hY) 0 (by decide)) (st_k (ly_st1 hY) 0 (by decide)) (Or.inr ⟨rfl, _, (st_r (ly_st1 hY) 0 3 (by decide) (by decide)), rfl⟩) dX6_weightOfSample_32 ?_
      refine x_aload_n G 0 rfl rfl dX6_weightOfSample_35 ?_
      refine x_get G (xR 162) xf6_4 lk_X6_37 (ly_n hY 0 (by decide)) (ly_k hY 0 (by decide)) (Or.inr ⟨rfl, _, (ly_r hY 0 4 (by decide) (by decide)), rfl⟩) dX6_weightOfSample_36 ?_
      refine x_get G (xR (162 + 1)) xf2_0 lk_X6_227 (sa_n (ly_sa162 hY) 0 (by decide)) (sa_k (ly_sa162 hY) 0 (by decide)) (Or.inr ⟨rfl, _, (sa_r (ly_sa162 hY) 0 0 (by decide) (by decide)), rfl⟩) dX6_weightOfSample_39 ?_
      refine x_iload_n G 3 rfl rfl dX6_weightOfSample_42 ?_
      refine x_iald G (sa_n (ly_sa162 hY) 1 (by decide)) (sa_k (ly_sa162 hY) 1 (by decide)) (show _ = 100 from sa_l (ly_sa162 hY) 1 (by decide)) (by omega) (by omega) dX6_weightOfSample_43 ?_
      have hfk := hsm9.2.1 k.toNat (by omega)
      have hin := sm_it hs (getD_in (L := smL V sh) (j := k.toNat) (by omega))
      have hgd : (M9 (162 + 1) k.toNat).toNat = (smL V sh).getD k.toNat 0 := by omega
      have hitk := hv.2.2.1 ((smL V sh).getD k.toNat 0) hin
      refine x_iald G (st_n (ly_st1 hY) 6 (by decide)) (st_k (ly_st1 hY) 6 (by decide)) (show _ = 100 from st_l (ly_st1 hY) 6 (by decide)) (by omega) (by omega) dX6_weightOfSample_44 ?_
      rw [show M9 (1 + 6) (M9 (162 + 1) k.toNat).toNat = (V 6 (M9 (162 + 1) k.toNat).toNat) from ((congrFun (h9.2.2 (1 + 6) (by simp <;> omega)) (M9 (162 + 1) k.toNat).toNat).trans (congrFun (hV 6 (by decide) (by decide) (by decide)) (M9 (162 + 1) k.toNat).toNat))]
      rw [hgd]
      skip
      refine x_iadd G (by omega) dX6_weightOfSample_45 ?_
      refine x_istore_n G [(2, xI (q + (V 6 ((smL V sh).getD k.toNat 0)))), (0, xR 0), (1, xI sh), (3, xI k)] rfl (by decide) rfl dX6_weightOfSample_46 ?_
      refine x_iinc G [(3, xI (k + 1)), (2, xI (q + (V 6 ((smL V sh).getD k.toNat 0)))), (0, xR 0), (1, xI sh)] 3 rfl (by decide) (by omega) rfl dX6_weightOfSample_47 ?_
      refine x_goto G 16 (by decide) dX6_weightOfSample_50 ?_
      refine x_sub [(0, xR 0), (1, xI sh), (2, xI (q + (V 6 ((smL V sh).getD k.toNat 0)))), (3, xI (k + 1))] [2, 3, 1, 0] rfl ?_
      exact ih16 _ (by omega) (k + 1) (q + (V 6 ((smL V sh).getD k.toNat 0))) rfl (by omega) (by rw [show (k + 1).toNat = k.toNat + 1 by omega, wt_add V (by omega), ← hn])
  refine x_sub [(0, xR 0), (1, xI sh), (2, xI 0), (3, xI 0)] [2, 3, 1, 0] rfl ?_
  exact loop16 _ 0 0 rfl (by omega) (rfl)
set_option maxRecDepth 100000 in
set_option maxHeartbeats 4000000 in
theorem kX6_labels (D : xD) (l : Launch) {n : Nat} {T : xT} {M : xM} (V : xM) (sh lab what : Int) (hY : LayOK n T) (hV : shw M 1 V) (hv : VOK V) (hs : Srt V (V 10) (V 0 10).toNat) : xC D l uX6_labels 4 91 0 0 [xR 0, xI sh, xI lab, xI what] n T M (xPI n T (fun z M2 => z = qLabels V sh lab what ∧ xof [3, 4, 162, 163, 164, 165, 166, 167] M M2)) := by
  refine x_met uX6_labels (by decide) (Nat.le_of_ble_eq_true rfl) ?_
  intro Γ G Rt _
  have G : xG Γ RX6 cX6_labels 4 4 91 0 0 := G
  have Rt : xRt Γ (xPI n T (fun z M2 => z = qLabels V sh lab what ∧ xof [3, 4, 162, 163, 164, 165, 166, 167] M M2)) (some .int) 0 0 := Rt
  show xX Γ 0 0 n T 0 [(0, xR 0), (1, xI sh), (2, xI lab), (3, xI what)] [] M
  have hc := ok_c hv
  have hsc := hv.1
  refine x_iload_n G 1 rfl rfl dX6_labels_0 ?_
  refine x_callSp G [] [xI sh] hy_X6_isShard ht_X6_isShard ml_X6_86 rfl rfl (kX6_isShard _ _ sh) (by decide) (by decide) (Nat.le_of_ble_eq_true rfl) dX6_labels_1 ?_
  refine x_if_eq G 14 (by decide) dX6_labels_4 (fun c4 => ?_) (fun c4 => ?_)
  · skip
    have c4 := b2i_eq0.mp c4
    refine x_iconst G (by decide) dX6_labels_14 ?_
    exact x_iret G Rt dX6_labels_15 ⟨rfl, rfl, _, rfl, ⟨(by unfold qLabels; (repeat (first | rw [if_pos (by omega)] | rw [if_neg (by omega)])) <;> try rfl), (xof_refl _ _)⟩⟩
  · skip
    have c4 := b2i_ne0.mp c4
    refine x_iload_n G 2 rfl rfl dX6_labels_7 ?_
    refine x_callSp G [] [xI lab] hy_X6_isLabel ht_X6_isLabel ml_X6_90 rfl rfl (kX6_isLabel _ _ lab) (by decide) (by decide) (Nat.le_of_ble_eq_true rfl) dX6_labels_8 ?_
    refine x_if_ne G 16 (by decide) dX6_labels_11 (fun c11 => ?_) (fun c11 => ?_)
    · skip
      have c11 := b2i_ne0.mp c11
      refine x_iload_n G 3 rfl rfl dX6_labels_16 ?_
      by_cases k17_0 : what = 0
      · refine x_tabIn G 48 (by omega) (by omega) (by rw [k17_0]; rfl) (by decide) dX6_labels_17 ?_
        refine x_aload_n G 0 rfl rfl dX6_labels_48 ?_
        refine x_get G (xR 1) xf6_0 lk_X6_10 (ly_n hY 0 (by decide)) (ly_k hY 0 (by decide)) (Or.inr ⟨rfl, _, (ly_r hY 0 0 (by decide) (by decide)), rfl⟩) dX6_labels_49 ?_
        refine x_iload_n G 1 rfl rfl dX6_labels_52 ?_
        refine x_iload_n G 2 rfl rfl dX6_labels_53 ?_
        refine x_callVp G [] [xI sh, xI lab] rfl (by decide) (st_n (ly_st1 hY) 0 (by decide)) (st_k (ly_st1 hY) 0 (by decide)) hy_X3_countAlive hi_X3_countAlive hs_X3_countAlive ml_X6_166 rfl rfl (kX3_countAlive _ _ 1 V sh lab (ly_st1 hY) hV hv) (by decide) (by decide) (Nat.le_of_ble_eq_true rfl) dX6_labels_54 ?_
        exact x_iret G Rt dX6_labels_57 ⟨rfl, rfl, _, rfl, ⟨(by unfold qLabels; (repeat (first | rw [if_pos (by omega)] | rw [if_neg (by omega)])) <;> try rfl), (xof_refl _ _)⟩⟩
      by_cases k17_1 : what = 1
      · refine x_tabIn G 58 (by omega) (by omega) (by rw [k17_1]; rfl) (by decide) dX6_labels_17 ?_
        refine x_aload_n G 0 rfl rfl dX6_labels_58 ?_
        refine x_get G (xR 1) xf6_0 lk_X6_10 (ly_n hY 0 (by decide)) (ly_k hY 0 (by decide)) (Or.inr ⟨rfl, _, (ly_r hY 0 0 (by decide) (by decide)), rfl⟩) dX6_labels_59 ?_
        refine x_iload_n G 1 rfl rfl dX6_labels_62 ?_
        refine x_iload_n G 2 rfl rfl dX6_labels_63 ?_
        refine x_callVp G [] [xI sh, xI lab] rfl (by decide) (st_n (ly_st1 hY) 0 (by decide)) (st_k (ly_st1 hY) 0 (by decide)) hy_X3_weightAlive hi_X3_weightAlive hs_X3_weightAlive ml_X6_292 rfl rfl (kX3_weightAlive _ _ 1 V sh lab (ly_st1 hY) hV hv) (by decide) (by decide) (Nat.le_of_ble_eq_true rfl) dX6_labels_64 ?_
        exact x_iret G Rt dX6_labels_67 ⟨rfl, rfl, _, rfl, ⟨(by unfold qLabels; (repeat (first | rw [if_pos (by omega)] | rw [if_neg (by omega)])) <;> try rfl), (xof_refl _ _)⟩⟩
      by_cases k17_2 : what = 2
      · refine x_tabIn G 68 (by omega) (by omega) (by rw [k17_2]; rfl) (by decide) dX6_labels_17 ?_
        refine x_aload_n G 0 rfl rfl dX6_labels_68 ?_
        refine x_get G (xR 162) xf6_4 lk_X6_37 (ly_n hY 0 (by decide)) (ly_k hY 0 (by decide)) (Or.inr ⟨rfl, _, (ly_r hY 0 4 (by decide) (by decide)), rfl⟩) dX6_labels_69 ?_
        refine x_aload_n G 0 rfl rfl dX6_labels_72 ?_
        refine x_get G (xR 1) xf6_0 lk_X6_10 (ly_n hY 0 (by decide)) (ly_k hY 0 (by decide)) (Or.inr ⟨rfl, _, (ly_r hY 0 0 (by decide) (by decide)), rfl⟩) dX6_labels_73 ?_
        refine x_iload_n G 1 rfl rfl dX6_labels_76 ?_
        refine x_callVV G [] [xR 1, xI sh] rfl (by decide) (sa_n (ly_sa162 hY) 0 (by decide)) (sa_k (ly_sa162 hY) 0 (by decide)) hy_X2_take hi_X2_take hs_X2_take ml_X6_150 rfl rfl (kX2_take _ _ 162 1 V sh (ly_sa162 hY) (ly_st1 hY) (by omega) hV hv (by omega) hs) (by decide) (by decide) (Nat.le_of_ble_eq_true rfl) dX6_labels_77 (fun M77 h77 => ?_)
        have hsm77 : Smp M77 162 V (smL V sh) := by
            have e9 := h77.1
            rw [tkL_eq hv hs (by omega)] at e9
            exact e9
        have hn77 := hsm77.1
        have hl77 : (smL V sh).length ≤ 100 := take_len (alL_len hv _ _ _ _)
        refine x_aload_n G 0 rfl rfl dX6_labels_80 ?_
        refine x_get G (xR 162) xf6_4 lk_X6_37 (ly_n hY 0 (by decide)) (ly_k hY 0 (by decide)) (Or.inr ⟨rfl, _, (ly_r hY 0 4 (by decide) (by decide)), rfl⟩) dX6_labels_81 ?_
        refine x_get G (xR (162 + 2)) xf2_1 lk_X6_260 (sa_n (ly_sa162 hY) 0 (by decide)) (sa_k (ly_sa162 hY) 0 (by decide)) (Or.inr ⟨rfl, _, (sa_r (ly_sa162 hY) 0 1 (by decide) (by decide)), rfl⟩) dX6_labels_84 ?_
        refine x_iload_n G 2 rfl rfl dX6_labels_87 ?_
        refine x_iald G (sa_n (ly_sa162 hY) 2 (by decide)) (sa_k (ly_sa162 hY) 2 (by decide)) (show _ = 26 from sa_l (ly_sa162 hY) 2 (by decide)) (by omega) (by omega) dX6_labels_88 ?_
        exact x_iret G Rt dX6_labels_89 ⟨rfl, rfl, _, rfl, ⟨(by unfold qLabels; (repeat (first | rw [if_pos (by omega)] | rw [if_neg (by omega)])); have := hsm77.2.2 lab.toNat (by omega); rw [show ((lab.toNat : Nat) : Int) = lab by omega] at this; exact this), (xof_trans (xof_refl _ _) (xof_mono h77.2.2 (by decide)))⟩⟩
      by_cases k17_3 : what = 3
      · refine x_tabIn G 90 (by omega) (by omega) (by rw [k17_3]; rfl) (by decide) dX6_labels_17 ?_
        refine x_aload_n G 0 rfl rfl dX6_labels_90 ?_
        refine x_get G (xR 1) xf6_0 lk_X6_10 (ly_n hY 0 (by decide)) (ly_k hY 0 (by decide)) (Or.inr ⟨rfl, _, (ly_r hY 0 0 (by decide) (by decide)), rfl⟩) dX6_labels_91 ?_
        refine x_iload_n G 1 rfl rfl dX6_labels_94 ?_
        refine x_iload_n G 2 rfl rfl dX6_labels_95 ?_
        refine x_callVp G [] [xI sh, xI lab] rfl (by decide) (st_n (ly_st1 hY) 0 (by decide)) (st_k (ly_st1 hY) 0 (by decide)) hy_X3_countUndropped hi_X3_countUndropped hs_X3_countUndropped ml_X6_136 rfl rfl (kX3_countUndropped _ _ 1 V sh lab (ly_st1 hY) hV hv) (by decide) (by decide) (Nat.le_of_ble_eq_true rfl) dX6_labels_96 ?_
        exact x_iret G Rt dX6_labels_99 ⟨rfl, rfl, _, rfl, ⟨(by unfold qLabels; (repeat (first | rw [if_pos (by omega)] | rw [if_neg (by omega)])) <;> try rfl), (xof_refl _ _)⟩⟩
      refine x_tabOut G 100 (by omega) (by decide) dX6_labels_17 ?_
      refine x_iconst G (by decide) dX6_labels_100 ?_
      exact x_iret G Rt dX6_labels_101 ⟨rfl, rfl, _, rfl, ⟨(by unfold qLabels; (repeat (first | rw [if_pos (by omega)] | rw [if_neg (by omega)])) <;> try rfl), (xof_refl _ _)⟩⟩
    · skip
      have c11 := b2i_eq0.mp c11
      refine x_iconst G (by decide) dX6_labels_14 ?_
      exact x_iret G Rt dX6_labels_15 ⟨rfl, rfl, _, rfl, ⟨(by unfold qLabels; (repeat (first | rw [if_pos (by omega)] | rw [if_neg (by omega)])) <;> try rfl), (xof_refl _ _)⟩⟩
set_option maxRecDepth 100000 in
set_option maxHeartbeats 4000000 in
theorem kX6_total (D : xD) (l : Launch) {n : Nat} {T : xT} {M : xM} (V : xM) (sh what : Int) (hY : LayOK n T) (hV : shw M 1 V) (hv : VOK V) (hs : Srt V (V 10) (V 0 10).toNat) : xC D l uX6_total 5 114 0 0 [xR 0, xI sh, xI what] n T M (xPI n T (fun z M2 => z = qTotal V sh what ∧ xof [3, 4, 162, 163, 164, 165, 166, 167] M M2)) := by
  refine x_met uX6_total (by decide) (Nat.le_of_ble_eq_true rfl) ?_
  intro Γ G Rt _
  have G : xG Γ RX6 cX6_total 3 5 114 0 0 := G
  have Rt : xRt Γ (xPI n T (fun z M2 => z = qTotal V sh what ∧ xof [3, 4, 162, 163, 164, 165, 166, 167] M M2)) (some .int) 0 0 := Rt
  show xX Γ 0 0 n T 0 [(0, xR 0), (1, xI sh), (2, xI what)] [] M
  have hc := ok_c hv
  have hsc := hv.1
  refine x_iload_n G 1 rfl rfl dX6_total_0 ?_
  refine x_callSp G [] [xI sh] hy_X6_isShard ht_X6_isShard ml_X6_86 rfl rfl (kX6_isShard _ _ sh) (by decide) (by decide) (Nat.le_of_ble_eq_true rfl) dX6_total_1 ?_
  refine x_if_ne G 9 (by decide) dX6_total_4 (fun c4 => ?_) (fun c4 => ?_)
  · skip
    have c4 := b2i_ne0.mp c4
    refine x_iload_n G 2 rfl rfl dX6_total_9 ?_
    by_cases k10_0 : what = 0
    · refine x_tabIn G 48 (by omega) (by omega) (by rw [k10_0]; rfl) (by decide) dX6_total_10 ?_
      refine x_aload_n G 0 rfl rfl dX6_total_48 ?_
      refine x_get G (xR 1) xf6_0 lk_X6_10 (ly_n hY 0 (by decide)) (ly_k hY 0 (by decide)) (Or.inr ⟨rfl, _, (ly_r hY 0 0 (by decide) (by decide)), rfl⟩) dX6_total_49 ?_
      refine x_iload_n G 1 rfl rfl dX6_total_52 ?_
      refine x_iconst G (by decide) dX6_total_53 ?_
      refine x_callVp G [] [xI sh, xI (-1)] rfl (by decide) (st_n (ly_st1 hY) 0 (by decide)) (st_k (ly_st1 hY) 0 (by decide)) hy_X3_countAlive hi_X3_countAlive hs_X3_countAlive ml_X6_166 rfl rfl (kX3_countAlive _ _ 1 V sh (-1) (ly_st1 hY) hV hv) (by decide) (by decide) (Nat.le_of_ble_eq_true rfl) dX6_total_54 ?_
      exact x_iret G Rt dX6_total_57 ⟨rfl, rfl, _, rfl, ⟨(by unfold qTotal; (repeat (first | rw [if_pos (by omega)] | rw [if_neg (by omega)])) <;> try rfl), (xof_refl _ _)⟩⟩
    by_cases k10_1 : what = 1
    · refine x_tabIn G 58 (by omega) (by omega) (by rw [k10_1]; rfl) (by decide) dX6_total_10 ?_
      refine x_aload_n G 0 rfl rfl dX6_total_58 ?_
      refine x_get G (xR 1) xf6_0 lk_X6_10 (ly_n hY 0 (by decide)) (ly_k hY 0 (by decide)) (Or.inr ⟨rfl, _, (ly_r hY 0 0 (by decide) (by decide)), rfl⟩) dX6_total_59 ?_
      refine x_iload_n G 1 rfl rfl dX6_total_62 ?_
      refine x_iconst G (by decide) dX6_total_63 ?_
      refine x_callVp G [] [xI sh, xI (-1)] rfl (by decide) (st_n (ly_st1 hY) 0 (by decide)) (st_k (ly_st1 hY) 0 (by decide)) hy_X3_weightAlive hi_X3_weightAlive hs_X3_weightAlive ml_X6_292 rfl rfl (kX3_weightAlive _ _ 1 V sh (-1) (ly_st1 hY) hV hv) (by decide) (by decide) (Nat.le_of_ble_eq_true rfl) dX6_total_64 ?_
      exact x_iret G Rt dX6_total_67 ⟨rfl, rfl, _, rfl, ⟨(by unfold qTotal; (repeat (first | rw [if_pos (by omega)] | rw [if_neg (by omega)])) <;> try rfl), (xof_refl _ _)⟩⟩
    by_cases k10_2 : what = 2
    · refine x_tabIn G 68 (by omega) (by omega) (by rw [k10_2]; rfl) (by decide) dX6_total_10 ?_
      refine x_aload_n G 0 rfl rfl dX6_total_68 ?_
      refine x_iload_n G 1 rfl rfl dX6_total_69 ?_
      refine x_callVI G [] [xI sh] rfl (by decide) (ly_n hY 0 (by decide)) (ly_k hY 0 (by decide)) hy_X6_weightOfSample hi_X6_weightOfSample hs_X6_weightOfSample ml_X6_295 rfl rfl (kX6_weightOfSample _ _ V sh hY hV hv hs (by omega)) (by decide) (by decide) (Nat.le_of_ble_eq_true rfl) dX6_total_70 (fun z70 M70 h70 => ?_)
      rw [h70.1]
      exact x_iret G Rt dX6_total_73 ⟨rfl, rfl, _, rfl, ⟨(by unfold qTotal; (repeat (first | rw [if_pos (by omega)] | rw [if_neg (by omega)])) <;> try rfl), (xof_trans (xof_refl _ _) (xof_mono h70.2 (by decide)))⟩⟩
    by_cases k10_3 : what = 3
    · refine x_tabIn G 74 (by omega) (by omega) (by rw [k10_3]; rfl) (by decide) dX6_total_10 ?_
      refine x_aload_n G 0 rfl rfl dX6_total_74 ?_
      refine x_get G (xR 1) xf6_0 lk_X6_10 (ly_n hY 0 (by decide)) (ly_k hY 0 (by decide)) (Or.inr ⟨rfl, _, (ly_r hY 0 0 (by decide) (by decide)), rfl⟩) dX6_total_75 ?_
      refine x_iload_n G 1 rfl rfl dX6_total_78 ?_
      refine x_iconst G (by decide) dX6_total_79 ?_
      refine x_callVp G [] [xI sh, xI (-1)] rfl (by decide) (st_n (ly_st1 hY) 0 (by decide)) (st_k (ly_st1 hY) 0 (by decide)) hy_X3_countUndropped hi_X3_countUndropped hs_X3_countUndropped ml_X6_136 rfl rfl (kX3_countUndropped _ _ 1 V sh (-1) (ly_st1 hY) hV hv) (by decide) (by decide) (Nat.le_of_ble_eq_true rfl) dX6_total_80 ?_
      exact x_iret G Rt dX6_total_83 ⟨rfl, rfl, _, rfl, ⟨(by unfold qTotal; (repeat (first | rw [if_pos (by omega)] | rw [if_neg (by omega)])) <;> try rfl), (xof_refl _ _)⟩⟩
    by_cases k10_4 : what = 4
    · refine x_tabIn G 84 (by omega) (by omega) (by rw [k10_4]; rfl) (by decide) dX6_total_10 ?_
      refine x_aload_n G 0 rfl rfl dX6_total_84 ?_
      refine x_get G (xR 1) xf6_0 lk_X6_10 (ly_n hY 0 (by decide)) (ly_k hY 0 (by decide)) (Or.inr ⟨rfl, _, (ly_r hY 0 0 (by decide) (by decide)), rfl⟩) dX6_total_85 ?_
      refine x_get G (xR (1 + 11)) xf3_8 lk_X6_113 (st_n (ly_st1 hY) 0 (by decide)) (st_k (ly_st1 hY) 0 (by decide)) (Or.inr ⟨rfl, _, (st_r (ly_st1 hY) 0 8 (by decide) (by decide)), rfl⟩) dX6_total_88 ?_
      refine x_iload_n G 1 rfl rfl dX6_total_91 ?_
      refine x_iald G (st_n (ly_st1 hY) 11 (by decide)) (st_k (ly_st1 hY) 11 (by decide)) (show _ = 4 from st_l (ly_st1 hY) 11 (by decide)) (by omega) (by omega) dX6_total_92 ?_
      rw [show M (1 + 11) sh.toNat = (V 11 sh.toNat) from (congrFun (hV 11 (by decide) (by decide) (by decide)) sh.toNat)]
      exact x_iret G Rt dX6_total_93 ⟨rfl, rfl, _, rfl, ⟨(by unfold qTotal; (repeat (first | rw [if_pos (by omega)] | rw [if_neg (by omega)])) <;> try rfl), (xof_refl _ _)⟩⟩
    by_cases k10_5 : what = 5
    · refine x_tabIn G 94 (by omega) (by omega) (by rw [k10_5]; rfl) (by decide) dX6_total_10 ?_
      refine x_aload_n G 0 rfl rfl dX6_total_94 ?_
      refine x_get G (xR 1) xf6_0 lk_X6_10 (ly_n hY 0 (by decide)) (ly_k hY 0 (by decide)) (Or.inr ⟨rfl, _, (ly_r hY 0 0 (by decide) (by decide)), rfl⟩) dX6_total_95 ?_
      refine x_get G (xR (1 + 12)) xf3_9 lk_X6_117 (st_n (ly_st1 hY) 0 (by decide)) (st_k (ly_st1 hY) 0 (by decide)) (Or.inr ⟨rfl, _, (st_r (ly_st1 hY) 0 9 (by decide) (by decide)), rfl⟩) dX6_total_98 ?_
      refine x_iload_n G 1 rfl rfl dX6_total_101 ?_
      refine x_iald G (st_n (ly_st1 hY) 12 (by decide)) (st_k (ly_st1 hY) 12 (by decide)) (show _ = 4 from st_l (ly_st1 hY) 12 (by decide)) (by omega) (by omega) dX6_total_102 ?_
      rw [show M (1 + 12) sh.toNat = (V 12 sh.toNat) from (congrFun (hV 12 (by decide) (by decide) (by decide)) sh.toNat)]
      exact x_iret G Rt dX6_total_103 ⟨rfl, rfl, _, rfl, ⟨(by unfold qTotal; (repeat (first | rw [if_pos (by omega)] | rw [if_neg (by omega)])) <;> try rfl), (xof_refl _ _)⟩⟩
    refine x_tabOut G 104 (by omega) (by decide) dX6_total_10 ?_
    refine x_iconst G (by decide) dX6_total_104 ?_
    exact x_iret G Rt dX6_total_105 ⟨rfl, rfl, _, rfl, ⟨(by unfold qTotal; (repeat (first | rw [if_pos (by omega)] | rw [if_neg (by omega)])) <;> try rfl), (xof_refl _ _)⟩⟩
  · skip
    have c4 := b2i_eq0.mp c4
    refine x_iconst G (by decide) dX6_total_7 ?_
    exact x_iret G Rt dX6_total_8 ⟨rfl, rfl, _, rfl, ⟨(by unfold qTotal; (repeat (first | rw [if_pos (by omega)] | rw [if_neg (by omega)])) <;> try rfl), (xof_refl _ _)⟩⟩
def modI (V : xM) (sh k m f : Int) : Prop := (m = 0 ∧ f = -2 ∧ ∀ q : Nat, (q : Int) < k → lb1 V (smL V sh) q ≤ 0) ∨ ((0 ≤ f ∧ f < k) ∧ m = lb1 V (smL V sh) f ∧ 0 < m ∧ (∀ q : Nat, (q : Int) < k → lb1 V (smL V sh) q ≤ m) ∧ ∀ q : Nat, (q : Int) < f → lb1 V (smL V sh) q < m)
theorem mod_keep {V : xM} {sh k m f : Int} (hk : 0 ≤ k) (h : modI V sh k m f) (hle : lb1 V (smL V sh) k.toNat ≤ m) : modI V sh (k + 1) m f := by
  have st : ∀ {P : Nat → Prop}, (∀ q : Nat, (q : Int) < k → P q) → P k.toNat → ∀ q : Nat, (q : Int) < k + 1 → P q := fun h1 h2 q hq => by
    by_cases e : q = k.toNat
    · rw [e]; exact h2
    · exact h1 q (by omega)
  rcases h with ⟨h1, h2, h3⟩ | ⟨h1, h2, h3, h4, h5⟩
  · exact Or.inl ⟨h1, h2, st h3 (by omega)⟩
  · exact Or.inr ⟨by omega, h2, h3, st h4 hle, h5⟩
theorem mod_new {V : xM} {sh k m f : Int} (hk : 0 ≤ k) (h : modI V sh k m f) (hlt : m < lb1 V (smL V sh) k.toNat) : modI V sh (k + 1) (lb1 V (smL V sh) k.toNat) k := by
  have hb : 0 ≤ m := by rcases h with h | h <;> omega
  have hle : ∀ q : Nat, (q : Int) < k → lb1 V (smL V sh) q ≤ m := by
    rcases h with ⟨h1, h2, h3⟩ | ⟨h1, h2, h3, h4, h5⟩
    · intro q hq; have := h3 q hq; omega
    · exact h4
  refine Or.inr ⟨by omega, by rw [show ((k.toNat : Nat) : Int) = k by omega], by omega, fun q hq => ?_, fun q hq => ?_⟩
  · by_cases e : q = k.toNat
    · rw [e]; omega
    · have := hle q (by omega); omega
  · have := hle q hq; omega
set_option maxRecDepth 100000 in
set_option maxHeartbeats 4000000 in
theorem kX6_mode (D : xD) (l : Launch) {n : Nat} {T : xT} {M : xM} (V : xM) (sh : Int) (hY : LayOK n T) (hV : shw M 1 V) (hv : VOK V) (hs : Srt V (V 10) (V 0 10).toNat) : xC D l uX6_mode 4 91 0 0 [xR 0, xI sh] n T M (xPI n T (fun z M2 => (qMode V sh z) ∧ xof [3, 4, 162, 163, 164, 165, 166, 167] M M2)) := by
  refine x_met uX6_mode (by decide) (Nat.le_of_ble_eq_true rfl) ?_
  intro Γ G Rt _
  have G : xG Γ RX6 cX6_mode 5 4 91 0 0 := G
  have Rt : xRt Γ (xPI n T (fun z M2 => (qMode V sh z) ∧ xof [3, 4, 162, 163, 164, 165, 166, 167] M M2)) (some .int) 0 0 := Rt
  show xX Γ 0 0 n T 0 [(0, xR 0), (1, xI sh)] [] M
  have hc := ok_c hv
  have hsc := hv.1
  refine x_iload_n G 1 rfl rfl dX6_mode_0 ?_
  refine x_callSp G [] [xI sh] hy_X6_isShard ht_X6_isShard ml_X6_86 rfl rfl (kX6_isShard _ _ sh) (by decide) (by decide) (Nat.le_of_ble_eq_true rfl) dX6_mode_1 ?_
  refine x_if_ne G 9 (by decide) dX6_mode_4 (fun c4 => ?_) (fun c4 => ?_)
  · skip
    have c4 := b2i_ne0.mp c4
    refine x_aload_n G 0 rfl rfl dX6_mode_9 ?_
    refine x_get G (xR 162) xf6_4 lk_X6_37 (ly_n hY 0 (by decide)) (ly_k hY 0 (by decide)) (Or.inr ⟨rfl, _, (ly_r hY 0 4 (by decide) (by decide)), rfl⟩) dX6_mode_10 ?_
    refine x_aload_n G 0 rfl rfl dX6_mode_13 ?_
    refine x_get G (xR 1) xf6_0 lk_X6_10 (ly_n hY 0 (by decide)) (ly_k hY 0 (by decide)) (Or.inr ⟨rfl, _, (ly_r hY 0 0 (by decide) (by decide)), rfl⟩) dX6_mode_14 ?_
    refine x_iload_n G 1 rfl rfl dX6_mode_17 ?_
    refine x_callVV G [] [xR 1, xI sh] rfl (by decide) (sa_n (ly_sa162 hY) 0 (by decide)) (sa_k (ly_sa162 hY) 0 (by decide)) hy_X2_take hi_X2_take hs_X2_take ml_X6_150 rfl rfl (kX2_take _ _ 162 1 V sh (ly_sa162 hY) (ly_st1 hY) (by omega) hV hv (by omega) hs) (by decide) (by decide) (Nat.le_of_ble_eq_true rfl) dX6_mode_18 (fun M18 h18 => ?_)
    have hsm18 : Smp M18 162 V (smL V sh) := by
        have e9 := h18.1
        rw [tkL_eq hv hs (by omega)] at e9
        exact e9
    have hn18 := hsm18.1
    have hl18 : (smL V sh).length ≤ 100 := take_len (alL_len hv _ _ _ _)
    refine x_iconst G (by decide) dX6_mode_21 ?_
    refine x_istore_n G [(2, xI 0), (0, xR 0), (1, xI sh)] rfl (by decide) rfl dX6_mode_22 ?_
    refine x_bipush G (by decide) dX6_mode_23 ?_
    refine x_istore_n G [(3, xI (-2)), (2, xI 0), (0, xR 0), (1, xI sh)] rfl (by decide) rfl dX6_mode_25 ?_
    refine x_iconst G (by decide) dX6_mode_26 ?_
    refine x_istore G [(4, xI 0), (3, xI (-2)), (2, xI 0), (0, xR 0), (1, xI sh)] (by decide) rfl dX6_mode_27 ?_
    have loop29 : ∀ (d : Nat) (k : Int) (m : Int) (f : Int), (26 - k).toNat = d → (0 ≤ k ∧ k ≤ 26) → (modI V sh k m f) → xX Γ 0 0 n T 29 [(0, xR 0), (1, xI sh), (2, xI m), (3, xI f), (4, xI k)] [] M18 := by
      intro d
      induction d using Nat.strongRecOn with
      | ind d ih29 =>
      intro k m f hd29 hk hmo
      refine x_iload G 4 rfl dX6_mode_29 ?_
      refine x_bipush G (by decide) dX6_mode_31 ?_
      refine x_icmp_ge G 70 (by decide) dX6_mode_33 (fun c33 => ?_) (fun c33 => ?_)
      · skip
        refine x_iload_n G 3 rfl rfl dX6_mode_70 ?_
        exact x_iret G Rt dX6_mode_71 ⟨rfl, rfl, _, rfl, ⟨by rcases hmo with ⟨h1, h2, h3⟩ | ⟨h1, h2, h3, h4, h5⟩; exact Or.inr (Or.inl ⟨by omega, h2, fun q hq => h3 q (by omega)⟩); exact Or.inr (Or.inr ⟨by omega, by omega, by omega, fun q hq => by rw [← h2]; exact h4 q (by omega), fun q hq => by rw [← h2]; exact h5 q hq⟩), (xof_trans (xof_refl _ _) (xof_mono h18.2.2 (by decide)))⟩⟩
      · skip
        have hlb := hsm18.2.2 k.toNat (by omega)
        refine x_aload_n G 0 rfl rfl dX6_mode_36 ?_
        refine x_get G (xR 162) xf6_4 lk_X6_37 (ly_n hY 0 (by decide)) (ly_k hY 0 (by decide)) (Or.inr ⟨rfl, _, (ly_r hY 0 4 (by decide) (by decide)), rfl⟩) dX6_mode_37 ?_
        refine x_get G (xR (162 + 2)) xf2_1 lk_X6_260 (sa_n (ly_sa162 hY) 0 (by decide)) (sa_k (ly_sa162 hY) 0 (by decide)) (Or.inr ⟨rfl, _, (sa_r (ly_sa162 hY) 0 1 (by decide) (by decide)), rfl⟩) dX6_mode_40 ?_
        refine x_iload G 4 rfl dX6_mode_43 ?_
        refine x_iald G (sa_n (ly_sa162 hY) 2 (by decide)) (sa_k (ly_sa162 hY) 2 (by decide)) (show _ = 26 from sa_l (ly_sa162 hY) 2 (by decide)) (by omega) (by omega) dX6_mode_45 ?_
        refine x_iload_n G 2 rfl rfl dX6_mode_46 ?_
        refine x_icmp_le G 64 (by decide) dX6_mode_47 (fun c47 => ?_) (fun c47 => ?_)
        · skip
          refine x_iinc G [(4, xI (k + 1)), (0, xR 0), (1, xI sh), (2, xI m), (3, xI f)] 4 rfl (by decide) (by omega) rfl dX6_mode_64 ?_
          refine x_goto G 29 (by decide) dX6_mode_67 ?_
          refine x_sub [(0, xR 0), (1, xI sh), (2, xI m), (3, xI f), (4, xI (k + 1))] [1, 2, 3, 4, 0] rfl ?_
          exact ih29 _ (by omega) (k + 1) m f rfl (by omega) (mod_keep hk.1 hmo (by omega))
        · skip
          refine x_aload_n G 0 rfl rfl dX6_mode_50 ?_
          refine x_get G (xR 162) xf6_4 lk_X6_37 (ly_n hY 0 (by decide)) (ly_k hY 0 (by decide)) (Or.inr ⟨rfl, _, (ly_r hY 0 4 (by decide) (by decide)), rfl⟩) dX6_mode_51 ?_
          refine x_get G (xR (162 + 2)) xf2_1 lk_X6_260 (sa_n (ly_sa162 hY) 0 (by decide)) (sa_k (ly_sa162 hY) 0 (by decide)) (Or.inr ⟨rfl, _, (sa_r (ly_sa162 hY) 0 1 (by decide) (by decide)), rfl⟩) dX6_mode_54 ?_
          refine x_iload G 4 rfl dX6_mode_57 ?_
          refine x_iald G (sa_n (ly_sa162 hY) 2 (by decide)) (sa_k (ly_sa162 hY) 2 (by decide)) (show _ = 26 from sa_l (ly_sa162 hY) 2 (by decide)) (by omega) (by omega) dX6_mode_59 ?_
          refine x_istore_n G [(2, xI (M18 (162 + 2) k.toNat)), (0, xR 0), (1, xI sh), (3, xI f), (4, xI k)] rfl (by decide) rfl dX6_mode_60 ?_
          refine x_iload G 4 rfl dX6_mode_61 ?_
          refine x_istore_n G [(3, xI k), (2, xI (M18 (162 + 2) k.toNat)), (0, xR 0), (1, xI sh), (4, xI k)] rfl (by decide) rfl dX6_mode_63 ?_
          refine x_iinc G [(4, xI (k + 1)), (3, xI k), (2, xI (M18 (162 + 2) k.toNat)), (0, xR 0), (1, xI sh)] 4 rfl (by decide) (by omega) rfl dX6_mode_64 ?_
          refine x_goto G 29 (by decide) dX6_mode_67 ?_
          refine x_sub [(0, xR 0), (1, xI sh), (2, xI (M18 (162 + 2) k.toNat)), (3, xI k), (4, xI (k + 1))] [3, 4, 2, 1, 0] rfl ?_
          exact ih29 _ (by omega) (k + 1) (M18 (162 + 2) k.toNat) k rfl (by omega) (by have := mod_new hk.1 hmo (by rw [← hlb]; omega); rw [← hlb] at this; exact this)
    refine x_sub [(0, xR 0), (1, xI sh), (2, xI 0), (3, xI (-2)), (4, xI 0)] [3, 4, 2, 1, 0] rfl ?_
    exact loop29 _ 0 0 (-2) rfl (by omega) (Or.inl ⟨rfl, rfl, fun q hq => by omega⟩)
  · skip
    have c4 := b2i_eq0.mp c4
    refine x_iconst G (by decide) dX6_mode_7 ?_
    exact x_iret G Rt dX6_mode_8 ⟨rfl, rfl, _, rfl, ⟨Or.inl ⟨by omega, rfl⟩, (xof_refl _ _)⟩⟩
set_option maxRecDepth 100000 in
set_option maxHeartbeats 4000000 in
theorem kX6_unlike (D : xD) (l : Launch) {n : Nat} {T : xT} {M : xM} (V : xM) (sh sh2 : Int) (hY : LayOK n T) (hV : shw M 1 V) (hv : VOK V) (hs : Srt V (V 10) (V 0 10).toNat) : xC D l uX6_unlike 4 91 0 0 [xR 0, xI sh, xI sh2] n T M (xPI n T (fun z M2 => z = qUnlike V sh sh2 ∧ xof [3, 4, 162, 163, 164, 165, 166, 167] M M2)) := by
  refine x_met uX6_unlike (by decide) (Nat.le_of_ble_eq_true rfl) ?_
  intro Γ G Rt _
  have G : xG Γ RX6 cX6_unlike 5 4 91 0 0 := G
  have Rt : xRt Γ (xPI n T (fun z M2 => z = qUnlike V sh sh2 ∧ xof [3, 4, 162, 163, 164, 165, 166, 167] M M2)) (some .int) 0 0 := Rt
  show xX Γ 0 0 n T 0 [(0, xR 0), (1, xI sh), (2, xI sh2)] [] M
  have hc := ok_c hv
  have hsc := hv.1
  refine x_iload_n G 1 rfl rfl dX6_unlike_0 ?_
  refine x_callSp G [] [xI sh] hy_X6_isShard ht_X6_isShard ml_X6_86 rfl rfl (kX6_isShard _ _ sh) (by decide) (by decide) (Nat.le_of_ble_eq_true rfl) dX6_unlike_1 ?_
  refine x_if_eq G 14 (by decide) dX6_unlike_4 (fun c4 => ?_) (fun c4 => ?_)
  · skip
    have c4 := b2i_eq0.mp c4
    refine x_iconst G (by decide) dX6_unlike_14 ?_
    exact x_iret G Rt dX6_unlike_15 ⟨rfl, rfl, _, rfl, ⟨(by unfold qUnlike; (repeat (first | rw [if_pos (by omega)] | rw [if_neg (by omega)])) <;> try rfl), (xof_refl _ _)⟩⟩
  · skip
    have c4 := b2i_ne0.mp c4
    refine x_iload_n G 2 rfl rfl dX6_unlike_7 ?_
    refine x_callSp G [] [xI sh2] hy_X6_isShard ht_X6_isShard ml_X6_86 rfl rfl (kX6_isShard _ _ sh2) (by decide) (by decide) (Nat.le_of_ble_eq_true rfl) dX6_unlike_8 ?_
    refine x_if_ne G 16 (by decide) dX6_unlike_11 (fun c11 => ?_) (fun c11 => ?_)
    · skip
      have c11 := b2i_ne0.mp c11
      refine x_aload_n G 0 rfl rfl dX6_unlike_16 ?_
      refine x_get G (xR 162) xf6_4 lk_X6_37 (ly_n hY 0 (by decide)) (ly_k hY 0 (by decide)) (Or.inr ⟨rfl, _, (ly_r hY 0 4 (by decide) (by decide)), rfl⟩) dX6_unlike_17 ?_
      refine x_aload_n G 0 rfl rfl dX6_unlike_20 ?_
      refine x_get G (xR 1) xf6_0 lk_X6_10 (ly_n hY 0 (by decide)) (ly_k hY 0 (by decide)) (Or.inr ⟨rfl, _, (ly_r hY 0 0 (by decide) (by decide)), rfl⟩) dX6_unlike_21 ?_
      refine x_iload_n G 1 rfl rfl dX6_unlike_24 ?_
      refine x_callVV G [] [xR 1, xI sh] rfl (by decide) (sa_n (ly_sa162 hY) 0 (by decide)) (sa_k (ly_sa162 hY) 0 (by decide)) hy_X2_take hi_X2_take hs_X2_take ml_X6_150 rfl rfl (kX2_take _ _ 162 1 V sh (ly_sa162 hY) (ly_st1 hY) (by omega) hV hv (by omega) hs) (by decide) (by decide) (Nat.le_of_ble_eq_true rfl) dX6_unlike_25 (fun M25 h25 => ?_)
      have hsm25 : Smp M25 162 V (smL V sh) := by
          have e9 := h25.1
          rw [tkL_eq hv hs (by omega)] at e9
          exact e9
      have hn25 := hsm25.1
      have hl25 : (smL V sh).length ≤ 100 := take_len (alL_len hv _ _ _ _)
      refine x_aload_n G 0 rfl rfl dX6_unlike_28 ?_
      refine x_get G (xR 165) xf6_5 lk_X6_41 (ly_n hY 0 (by decide)) (ly_k hY 0 (by decide)) (Or.inr ⟨rfl, _, (ly_r hY 0 5 (by decide) (by decide)), rfl⟩) dX6_unlike_29 ?_
      refine x_aload_n G 0 rfl rfl dX6_unlike_32 ?_
      refine x_get G (xR 1) xf6_0 lk_X6_10 (ly_n hY 0 (by decide)) (ly_k hY 0 (by decide)) (Or.inr ⟨rfl, _, (ly_r hY 0 0 (by decide) (by decide)), rfl⟩) dX6_unlike_33 ?_
      refine x_iload_n G 2 rfl rfl dX6_unlike_36 ?_
      refine x_callVV G [] [xR 1, xI sh2] rfl (by decide) (sa_n (ly_sa165 hY) 0 (by decide)) (sa_k (ly_sa165 hY) 0 (by decide)) hy_X2_take hi_X2_take hs_X2_take ml_X6_150 rfl rfl (kX2_take _ _ 165 1 V sh2 (ly_sa165 hY) (ly_st1 hY) (by omega) (shw_xof hV h25.2.2 (by intro k9 h1 h2 h3; simp <;> omega)) hv (by omega) hs) (by decide) (by decide) (Nat.le_of_ble_eq_true rfl) dX6_unlike_37 (fun M37 h37 => ?_)
      have hsm37 : Smp M37 165 V (smL V sh2) := by
          have e9 := h37.1
          rw [tkL_eq hv hs (by omega)] at e9
          exact e9
      have hn37 := hsm37.1
      have hl37 : (smL V sh2).length ≤ 100 := take_len (alL_len hv _ _ _ _)
      refine x_iconst G (by decide) dX6_unlike_40 ?_
      refine x_istore_n G [(3, xI 0), (0, xR 0), (1, xI sh), (2, xI sh2)] rfl (by decide) rfl dX6_unlike_41 ?_
      refine x_iconst G (by decide) dX6_unlike_42 ?_
      refine x_istore G [(4, xI 0), (3, xI 0), (0, xR 0), (1, xI sh), (2, xI sh2)] (by decide) rfl dX6_unlike_43 ?_
      have loop45 : ∀ (d : Nat) (k : Int) (q : Int), (26 - k).toNat = d → (0 ≤ k ∧ k ≤ 26) → (q = fb_si (fun j : Nat => if 0 ≤ lb1 V (smL V sh) j - lb1 V (smL V sh2) j then lb1 V (smL V sh) j - lb1 V (smL V sh2) j else -(lb1 V (smL V sh) j - lb1 V (smL V sh2) j)) k.toNat) → (0 ≤ q ∧ q ≤ 200 * k) → xX Γ 0 0 n T 45 [(0, xR 0), (1, xI sh), (2, xI sh2), (3, xI q), (4, xI k)] [] M37 := by
        intro d
        induction d using Nat.strongRecOn with
        | ind d ih45 =>
        intro k q hd45 hk hn hq
        refine x_iload G 4 rfl dX6_unlike_45 ?_
        refine x_bipush G (by decide) dX6_unlike_47 ?_
        refine x_icmp_ge G 85 (by decide) dX6_unlike_49 (fun c49 => ?_) (fun c49 => ?_)
        · skip
          refine x_iload_n G 3 rfl rfl dX6_unlike_85 ?_
          exact x_iret G Rt dX6_unlike_86 ⟨rfl, rfl, _, rfl, ⟨(by unfold qUnlike ulk; rw [if_pos (by omega), hn, show k.toNat = 26 by omega]), (xof_trans (xof_trans (xof_refl _ _) (xof_mono h25.2.2 (by decide))) (xof_mono h37.2.2 (by decide)))⟩⟩
        · skip
          have hlb1 := hsm25.2.2 k.toNat (by omega)
          have hlb2 := hsm37.2.2 k.toNat (by omega)
          have hb1 := lb1_b V (smL V sh) k.toNat
          have hb2 := lb1_b V (smL V sh2) k.toNat
          refine x_iload_n G 3 rfl rfl dX6_unlike_52 ?_
          refine x_aload_n G 0 rfl rfl dX6_unlike_53 ?_
          refine x_get G (xR 162) xf6_4 lk_X6_37 (ly_n hY 0 (by decide)) (ly_k hY 0 (by decide)) (Or.inr ⟨rfl, _, (ly_r hY 0 4 (by decide) (by decide)), rfl⟩) dX6_unlike_54 ?_
          refine x_get G (xR (162 + 2)) xf2_1 lk_X6_260 (sa_n (ly_sa162 hY) 0 (by decide)) (sa_k (ly_sa162 hY) 0 (by decide)) (Or.inr ⟨rfl, _, (sa_r (ly_sa162 hY) 0 1 (by decide) (by decide)), rfl⟩) dX6_unlike_57 ?_
          refine x_iload G 4 rfl dX6_unlike_60 ?_
          refine x_iald G (sa_n (ly_sa162 hY) 2 (by decide)) (sa_k (ly_sa162 hY) 2 (by decide)) (show _ = 26 from sa_l (ly_sa162 hY) 2 (by decide)) (by omega) (by omega) dX6_unlike_62 ?_
          rw [show M37 (162 + 2) k.toNat = (M25 (162 + 2) k.toNat) from (congrFun (h37.2.2 (162 + 2) (by simp <;> omega)) k.toNat)]
          refine x_aload_n G 0 rfl rfl dX6_unlike_63 ?_
          refine x_get G (xR 165) xf6_5 lk_X6_41 (ly_n hY 0 (by decide)) (ly_k hY 0 (by decide)) (Or.inr ⟨rfl, _, (ly_r hY 0 5 (by decide) (by decide)), rfl⟩) dX6_unlike_64 ?_
          refine x_get G (xR (165 + 2)) xf2_1 lk_X6_260 (sa_n (ly_sa165 hY) 0 (by decide)) (sa_k (ly_sa165 hY) 0 (by decide)) (Or.inr ⟨rfl, _, (sa_r (ly_sa165 hY) 0 1 (by decide) (by decide)), rfl⟩) dX6_unlike_67 ?_
          refine x_iload G 4 rfl dX6_unlike_70 ?_
          refine x_iald G (sa_n (ly_sa165 hY) 2 (by decide)) (sa_k (ly_sa165 hY) 2 (by decide)) (show _ = 26 from sa_l (ly_sa165 hY) 2 (by decide)) (by omega) (by omega) dX6_unlike_72 ?_
          refine x_isub G (by omega) dX6_unlike_73 ?_
          refine x_abs G (by omega) ml_X6_298 stat_abs ini_Math code_abs (by decide) (by decide) (Nat.le_of_ble_eq_true rfl) dX6_unlike_74 ?_
          refine x_iadd G (by omega) dX6_unlike_77 ?_
          refine x_istore_n G [(3, xI (q + (if 0 ≤ ((M25 (162 + 2) k.toNat) - (M37 (165 + 2) k.toNat)) then ((M25 (162 + 2) k.toNat) - (M37 (165 + 2) k.toNat)) else -((M25 (162 + 2) k.toNat) - (M37 (165 + 2) k.toNat))))), (0, xR 0), (1, xI sh), (2, xI sh2), (4, xI k)] rfl (by decide) rfl dX6_unlike_78 ?_
          refine x_iinc G [(4, xI (k + 1)), (3, xI (q + (if 0 ≤ ((M25 (162 + 2) k.toNat) - (M37 (165 + 2) k.toNat)) then ((M25 (162 + 2) k.toNat) - (M37 (165 + 2) k.toNat)) else -((M25 (162 + 2) k.toNat) - (M37 (165 + 2) k.toNat))))), (0, xR 0), (1, xI sh), (2, xI sh2)] 4 rfl (by decide) (by omega) rfl dX6_unlike_79 ?_
          refine x_goto G 45 (by decide) dX6_unlike_82 ?_
          refine x_sub [(0, xR 0), (1, xI sh), (2, xI sh2), (3, xI (q + (if 0 ≤ ((M25 (162 + 2) k.toNat) - (M37 (165 + 2) k.toNat)) then ((M25 (162 + 2) k.toNat) - (M37 (165 + 2) k.toNat)) else -((M25 (162 + 2) k.toNat) - (M37 (165 + 2) k.toNat))))), (4, xI (k + 1))] [2, 3, 4, 1, 0] rfl ?_
          exact ih45 _ (by omega) (k + 1) (q + (if 0 ≤ ((M25 (162 + 2) k.toNat) - (M37 (165 + 2) k.toNat)) then ((M25 (162 + 2) k.toNat) - (M37 (165 + 2) k.toNat)) else -((M25 (162 + 2) k.toNat) - (M37 (165 + 2) k.toNat)))) rfl (by omega) (si_r hk.1 hn (by show (if 0 ≤ lb1 V (smL V sh) k.toNat - lb1 V (smL V sh2) k.toNat then _ else _) = _; rw [← hlb1, ← hlb2])) (by split <;> omega)
      refine x_sub [(0, xR 0), (1, xI sh), (2, xI sh2), (3, xI 0), (4, xI 0)] [2, 3, 4, 1, 0] rfl ?_
      exact loop45 _ 0 0 rfl (by omega) (rfl) (by omega)
    · skip
      have c11 := b2i_eq0.mp c11
      refine x_iconst G (by decide) dX6_unlike_14 ?_
      exact x_iret G Rt dX6_unlike_15 ⟨rfl, rfl, _, rfl, ⟨(by unfold qUnlike; (repeat (first | rw [if_pos (by omega)] | rw [if_neg (by omega)])) <;> try rfl), (xof_refl _ _)⟩⟩
set_option maxRecDepth 100000 in
set_option maxHeartbeats 4000000 in
theorem kX6_digest (D : xD) (l : Launch) {n : Nat} {T : xT} {M : xM} (V : xM) (hY : LayOK n T) (hV : shw M 1 V) (hv : VOK V) (hs : Srt V (V 10) (V 0 10).toNat) : xC D l uX6_digest 0 0 0 0 [xR 0] n T M (xPL n T (fun z M2 => z = dig V (V 0 10).toNat ∧ M2 = M)) := by
  refine x_met uX6_digest (by decide) (Nat.le_of_ble_eq_true rfl) ?_
  intro Γ G Rt _
  have G : xG Γ RX6 cX6_digest 4 0 0 0 0 := G
  have Rt : xRt Γ (xPL n T (fun z M2 => z = dig V (V 0 10).toNat ∧ M2 = M)) (some .long) 0 0 := Rt
  show xX Γ 0 0 n T 0 [(0, xR 0)] [] M
  have hc := ok_c hv
  have hsc := hv.1
  refine x_ldc2 G (z := 17) (by decide) kc_X6_308 dX6_digest_0 ?_
  refine x_lstore_n G [(1, xL 17), (0, xR 0)] rfl (by decide) rfl dX6_digest_3 ?_
  refine x_iconst G (by decide) dX6_digest_4 ?_
  refine x_istore_n G [(3, xI 0), (1, xL 17), (0, xR 0)] rfl (by decide) rfl dX6_digest_5 ?_
  have loop6 : ∀ (d : Nat) (k : Int) (d0 : Int), (V 0 10 - k).toNat = d → (0 ≤ k ∧ k ≤ V 0 10) → (d0 = dig V k.toNat) → xX Γ 0 0 n T 6 [(0, xR 0), (1, xL d0), (3, xI k)] [] M := by
    intro d
    induction d using Nat.strongRecOn with
    | ind d ih6 =>
    intro k d0 hd6 hk hd
    refine x_iload_n G 2 rfl rfl dX6_digest_6 ?_
    refine x_aload_n G 0 rfl rfl dX6_digest_7 ?_
    refine x_get G (xR 1) xf6_0 lk_X6_10 (ly_n hY 0 (by decide)) (ly_k hY 0 (by decide)) (Or.inr ⟨rfl, _, (ly_r hY 0 0 (by decide) (by decide)), rfl⟩) dX6_digest_8 ?_
    refine x_get G (xI (M 1 10)) xf3_10 lk_X6_83 (st_n (ly_st1 hY) 0 (by decide)) (st_k (ly_st1 hY) 0 (by decide)) (Or.inl ⟨rfl, rfl⟩) dX6_digest_11 ?_
    rw [show M 1 10 = (V 0 10) from (congrFun (hV 0 (by decide) (by decide) (by decide)) 10)]
    refine x_icmp_ge G 124 (by decide) dX6_digest_14 (fun c14 => ?_) (fun c14 => ?_)
    · skip
      refine x_lload_n G 1 rfl rfl dX6_digest_124 ?_
      exact x_lret G Rt dX6_digest_125 ⟨rfl, rfl, _, rfl, ⟨by rw [hd, show k = V 0 10 by omega], rfl⟩⟩
    · skip
      have hit := ok_i hv hk.1 (by omega)
      refine x_ldc2 G (z := 31) (by decide) kc_X6_310 dX6_digest_17 ?_
      refine x_lload_n G 1 rfl rfl dX6_digest_20 ?_
      refine x_lmulW G dX6_digest_21 ?_
      refine x_aload_n G 0 rfl rfl dX6_digest_22 ?_
      refine x_get G (xR 1) xf6_0 lk_X6_10 (ly_n hY 0 (by decide)) (ly_k hY 0 (by decide)) (Or.inr ⟨rfl, _, (ly_r hY 0 0 (by decide) (by decide)), rfl⟩) dX6_digest_23 ?_
      refine x_get G (xR (1 + 9)) xf3_6 lk_X6_129 (st_n (ly_st1 hY) 0 (by decide)) (st_k (ly_st1 hY) 0 (by decide)) (Or.inr ⟨rfl, _, (st_r (ly_st1 hY) 0 6 (by decide) (by decide)), rfl⟩) dX6_digest_26 ?_
      refine x_iload_n G 2 rfl rfl dX6_digest_29 ?_
      refine x_zald G (st_n (ly_st1 hY) 9 (by decide)) (st_k (ly_st1 hY) 9 (by decide)) (show _ = 100 from st_l (ly_st1 hY) 9 (by decide)) (by omega) (by omega) dX6_digest_30 ?_
      rw [show M (1 + 9) k.toNat = (V 9 k.toNat) from (congrFun (hV 9 (by decide) (by decide) (by decide)) k.toNat)]
      refine x_if_eq G 38 (by decide) dX6_digest_31 (fun c31 => ?_) (fun c31 => ?_)
      · skip
        refine x_aload_n G 0 rfl rfl dX6_digest_38 ?_
        refine x_get G (xR 1) xf6_0 lk_X6_10 (ly_n hY 0 (by decide)) (ly_k hY 0 (by decide)) (Or.inr ⟨rfl, _, (ly_r hY 0 0 (by decide) (by decide)), rfl⟩) dX6_digest_39 ?_
        refine x_get G (xR (1 + 4)) xf3_1 lk_X6_133 (st_n (ly_st1 hY) 0 (by decide)) (st_k (ly_st1 hY) 0 (by decide)) (Or.inr ⟨rfl, _, (st_r (ly_st1 hY) 0 1 (by decide) (by decide)), rfl⟩) dX6_digest_42 ?_
        refine x_iload_n G 2 rfl rfl dX6_digest_45 ?_
        refine x_iald G (st_n (ly_st1 hY) 4 (by decide)) (st_k (ly_st1 hY) 4 (by decide)) (show _ = 100 from st_l (ly_st1 hY) 4 (by decide)) (by omega) (by omega) dX6_digest_46 ?_
        rw [show M (1 + 4) k.toNat = (V 4 k.toNat) from (congrFun (hV 4 (by decide) (by decide) (by decide)) k.toNat)]
        refine x_i2l G dX6_digest_47 ?_
        refine x_laddW G dX6_digest_48 ?_
        refine x_lstore_n G [(1, xL (Int.bmod ((Int.bmod (31 * d0) 18446744073709551616) + (V 4 k.toNat)) 18446744073709551616)), (0, xR 0), (3, xI k)] rfl (by decide) rfl dX6_digest_49 ?_
        refine x_ldc2 G (z := 31) (by decide) kc_X6_310 dX6_digest_50 ?_
        refine x_lload_n G 0 rfl rfl dX6_digest_53 ?_
        refine x_lmulW G dX6_digest_54 ?_
        refine x_aload_n G 1 rfl rfl dX6_digest_55 ?_
        refine x_get G (xR 1) xf6_0 lk_X6_10 (ly_n hY 0 (by decide)) (ly_k hY 0 (by decide)) (Or.inr ⟨rfl, _, (ly_r hY 0 0 (by decide) (by decide)), rfl⟩) dX6_digest_56 ?_
        refine x_get G (xR (1 + 5)) xf3_2 lk_X6_147 (st_n (ly_st1 hY) 0 (by decide)) (st_k (ly_st1 hY) 0 (by decide)) (Or.inr ⟨rfl, _, (st_r (ly_st1 hY) 0 2 (by decide) (by decide)), rfl⟩) dX6_digest_59 ?_
        refine x_iload_n G 2 rfl rfl dX6_digest_62 ?_
        refine x_iald G (st_n (ly_st1 hY) 5 (by decide)) (st_k (ly_st1 hY) 5 (by decide)) (show _ = 100 from st_l (ly_st1 hY) 5 (by decide)) (by omega) (by omega) dX6_digest_63 ?_
        rw [show M (1 + 5) k.toNat = (V 5 k.toNat) from (congrFun (hV 5 (by decide) (by decide) (by decide)) k.toNat)]
        refine x_i2l G dX6_digest_64 ?_
        refine x_laddW G dX6_digest_65 ?_
        refine x_lstore_n G [(1, xL (Int.bmod ((Int.bmod (31 * (Int.bmod ((Int.bmod (31 * d0) 18446744073709551616) + (V 4 k.toNat)) 18446744073709551616)) 18446744073709551616) + (V 5 k.toNat)) 18446744073709551616)), (0, xR 0), (3, xI k)] rfl (by decide) rfl dX6_digest_66 ?_
        refine x_ldc2 G (z := 31) (by decide) kc_X6_310 dX6_digest_67 ?_
        refine x_lload_n G 0 rfl rfl dX6_digest_70 ?_
        refine x_lmulW G dX6_digest_71 ?_
        refine x_aload_n G 1 rfl rfl dX6_digest_72 ?_
        refine x_get G (xR 1) xf6_0 lk_X6_10 (ly_n hY 0 (by decide)) (ly_k hY 0 (by decide)) (Or.inr ⟨rfl, _, (ly_r hY 0 0 (by decide) (by decide)), rfl⟩) dX6_digest_73 ?_
        refine x_get G (xR (1 + 6)) xf3_3 lk_X6_123 (st_n (ly_st1 hY) 0 (by decide)) (st_k (ly_st1 hY) 0 (by decide)) (Or.inr ⟨rfl, _, (st_r (ly_st1 hY) 0 3 (by decide) (by decide)), rfl⟩) dX6_digest_76 ?_
        refine x_iload_n G 2 rfl rfl dX6_digest_79 ?_
        refine x_iald G (st_n (ly_st1 hY) 6 (by decide)) (st_k (ly_st1 hY) 6 (by decide)) (show _ = 100 from st_l (ly_st1 hY) 6 (by decide)) (by omega) (by omega) dX6_digest_80 ?_
        rw [show M (1 + 6) k.toNat = (V 6 k.toNat) from (congrFun (hV 6 (by decide) (by decide) (by decide)) k.toNat)]
        refine x_i2l G dX6_digest_81 ?_
        refine x_laddW G dX6_digest_82 ?_
        refine x_lstore_n G [(1, xL (Int.bmod ((Int.bmod (31 * (Int.bmod ((Int.bmod (31 * (Int.bmod ((Int.bmod (31 * d0) 18446744073709551616) + (V 4 k.toNat)) 18446744073709551616)) 18446744073709551616) + (V 5 k.toNat)) 18446744073709551616)) 18446744073709551616) + (V 6 k.toNat)) 18446744073709551616)), (0, xR 0), (3, xI k)] rfl (by decide) rfl dX6_digest_83 ?_
        refine x_ldc2 G (z := 31) (by decide) kc_X6_310 dX6_digest_84 ?_
        refine x_lload_n G 0 rfl rfl dX6_digest_87 ?_
        refine x_lmulW G dX6_digest_88 ?_
        refine x_aload_n G 1 rfl rfl dX6_digest_89 ?_
        refine x_get G (xR 1) xf6_0 lk_X6_10 (ly_n hY 0 (by decide)) (ly_k hY 0 (by decide)) (Or.inr ⟨rfl, _, (ly_r hY 0 0 (by decide) (by decide)), rfl⟩) dX6_digest_90 ?_
        refine x_get G (xR (1 + 7)) xf3_4 lk_X6_126 (st_n (ly_st1 hY) 0 (by decide)) (st_k (ly_st1 hY) 0 (by decide)) (Or.inr ⟨rfl, _, (st_r (ly_st1 hY) 0 4 (by decide) (by decide)), rfl⟩) dX6_digest_93 ?_
        refine x_iload_n G 2 rfl rfl dX6_digest_96 ?_
        refine x_iald G (st_n (ly_st1 hY) 7 (by decide)) (st_k (ly_st1 hY) 7 (by decide)) (show _ = 100 from st_l (ly_st1 hY) 7 (by decide)) (by omega) (by omega) dX6_digest_97 ?_
        rw [show M (1 + 7) k.toNat = (V 7 k.toNat) from (congrFun (hV 7 (by decide) (by decide) (by decide)) k.toNat)]
        refine x_i2l G dX6_digest_98 ?_
        refine x_laddW G dX6_digest_99 ?_
        refine x_lstore_n G [(1, xL (Int.bmod ((Int.bmod (31 * (Int.bmod ((Int.bmod (31 * (Int.bmod ((Int.bmod (31 * (Int.bmod ((Int.bmod (31 * d0) 18446744073709551616) + (V 4 k.toNat)) 18446744073709551616)) 18446744073709551616) + (V 5 k.toNat)) 18446744073709551616)) 18446744073709551616) + (V 6 k.toNat)) 18446744073709551616)) 18446744073709551616) + (V 7 k.toNat)) 18446744073709551616)), (0, xR 0), (3, xI k)] rfl (by decide) rfl dX6_digest_100 ?_
        refine x_ldc2 G (z := 31) (by decide) kc_X6_310 dX6_digest_101 ?_
        refine x_lload_n G 0 rfl rfl dX6_digest_104 ?_
        refine x_lmulW G dX6_digest_105 ?_
        refine x_aload_n G 1 rfl rfl dX6_digest_106 ?_
        refine x_get G (xR 1) xf6_0 lk_X6_10 (ly_n hY 0 (by decide)) (ly_k hY 0 (by decide)) (Or.inr ⟨rfl, _, (ly_r hY 0 0 (by decide) (by decide)), rfl⟩) dX6_digest_107 ?_
        refine x_get G (xR (1 + 8)) xf3_5 lk_X6_190 (st_n (ly_st1 hY) 0 (by decide)) (st_k (ly_st1 hY) 0 (by decide)) (Or.inr ⟨rfl, _, (st_r (ly_st1 hY) 0 5 (by decide) (by decide)), rfl⟩) dX6_digest_110 ?_
        refine x_iload_n G 2 rfl rfl dX6_digest_113 ?_
        refine x_iald G (st_n (ly_st1 hY) 8 (by decide)) (st_k (ly_st1 hY) 8 (by decide)) (show _ = 100 from st_l (ly_st1 hY) 8 (by decide)) (by omega) (by omega) dX6_digest_114 ?_
        rw [show M (1 + 8) k.toNat = (V 8 k.toNat) from (congrFun (hV 8 (by decide) (by decide) (by decide)) k.toNat)]
        refine x_i2l G dX6_digest_115 ?_
        refine x_laddW G dX6_digest_116 ?_
        refine x_lstore_n G [(1, xL (Int.bmod ((Int.bmod (31 * (Int.bmod ((Int.bmod (31 * (Int.bmod ((Int.bmod (31 * (Int.bmod ((Int.bmod (31 * (Int.bmod ((Int.bmod (31 * d0) 18446744073709551616) + (V 4 k.toNat)) 18446744073709551616)) 18446744073709551616) + (V 5 k.toNat)) 18446744073709551616)) 18446744073709551616) + (V 6 k.toNat)) 18446744073709551616)) 18446744073709551616) + (V 7 k.toNat)) 18446744073709551616)) 18446744073709551616) + (V 8 k.toNat)) 18446744073709551616)), (0, xR 0), (3, xI k)] rfl (by decide) rfl dX6_digest_117 ?_
        refine x_iinc G [(3, xI (k + 1)), (1, xL (Int.bmod ((Int.bmod (31 * (Int.bmod ((Int.bmod (31 * (Int.bmod ((Int.bmod (31 * (Int.bmod ((Int.bmod (31 * (Int.bmod ((Int.bmod (31 * d0) 18446744073709551616) + (V 4 k.toNat)) 18446744073709551616)) 18446744073709551616) + (V 5 k.toNat)) 18446744073709551616)) 18446744073709551616) + (V 6 k.toNat)) 18446744073709551616)) 18446744073709551616) + (V 7 k.toNat)) 18446744073709551616)) 18446744073709551616) + (V 8 k.toNat)) 18446744073709551616)), (0, xR 0)] 2 rfl (by decide) (by omega) rfl dX6_digest_118 ?_
        refine x_goto G 6 (by decide) dX6_digest_121 ?_
        refine x_sub [(0, xR 0), (1, xL (Int.bmod ((Int.bmod (31 * (Int.bmod ((Int.bmod (31 * (Int.bmod ((Int.bmod (31 * (Int.bmod ((Int.bmod (31 * (Int.bmod ((Int.bmod (31 * d0) 18446744073709551616) + (V 4 k.toNat)) 18446744073709551616)) 18446744073709551616) + (V 5 k.toNat)) 18446744073709551616)) 18446744073709551616) + (V 6 k.toNat)) 18446744073709551616)) 18446744073709551616) + (V 7 k.toNat)) 18446744073709551616)) 18446744073709551616) + (V 8 k.toNat)) 18446744073709551616)), (3, xI (k + 1))] [2, 1, 0] rfl ?_
        exact ih6 _ (by omega) (k + 1) (Int.bmod ((Int.bmod (31 * (Int.bmod ((Int.bmod (31 * (Int.bmod ((Int.bmod (31 * (Int.bmod ((Int.bmod (31 * (Int.bmod ((Int.bmod (31 * d0) 18446744073709551616) + (V 4 k.toNat)) 18446744073709551616)) 18446744073709551616) + (V 5 k.toNat)) 18446744073709551616)) 18446744073709551616) + (V 6 k.toNat)) 18446744073709551616)) 18446744073709551616) + (V 7 k.toNat)) 18446744073709551616)) 18446744073709551616) + (V 8 k.toNat)) 18446744073709551616) rfl (by omega) (by rw [show (k + 1).toNat = k.toNat + 1 by omega]; unfold dig; rw [← hd]; rw [if_pos (by omega)]; rfl)
      · skip
        refine x_iconst G (by decide) dX6_digest_34 ?_
        refine x_goto G 47 (by decide) dX6_digest_35 ?_
        refine x_i2l G dX6_digest_47 ?_
        refine x_laddW G dX6_digest_48 ?_
        refine x_lstore_n G [(1, xL (Int.bmod ((Int.bmod (31 * d0) 18446744073709551616) + 4) 18446744073709551616)), (0, xR 0), (3, xI k)] rfl (by decide) rfl dX6_digest_49 ?_
        refine x_ldc2 G (z := 31) (by decide) kc_X6_310 dX6_digest_50 ?_
        refine x_lload_n G 0 rfl rfl dX6_digest_53 ?_
        refine x_lmulW G dX6_digest_54 ?_
        refine x_aload_n G 1 rfl rfl dX6_digest_55 ?_
        refine x_get G (xR 1) xf6_0 lk_X6_10 (ly_n hY 0 (by decide)) (ly_k hY 0 (by decide)) (Or.inr ⟨rfl, _, (ly_r hY 0 0 (by decide) (by decide)), rfl⟩) dX6_digest_56 ?_
        refine x_get G (xR (1 + 5)) xf3_2 lk_X6_147 (st_n (ly_st1 hY) 0 (by decide)) (st_k (ly_st1 hY) 0 (by decide)) (Or.inr ⟨rfl, _, (st_r (ly_st1 hY) 0 2 (by decide) (by decide)), rfl⟩) dX6_digest_59 ?_
        refine x_iload_n G 2 rfl rfl dX6_digest_62 ?_
        refine x_iald G (st_n (ly_st1 hY) 5 (by decide)) (st_k (ly_st1 hY) 5 (by decide)) (show _ = 100 from st_l (ly_st1 hY) 5 (by decide)) (by omega) (by omega) dX6_digest_63 ?_
        rw [show M (1 + 5) k.toNat = (V 5 k.toNat) from (congrFun (hV 5 (by decide) (by decide) (by decide)) k.toNat)]
        refine x_i2l G dX6_digest_64 ?_
        refine x_laddW G dX6_digest_65 ?_
        refine x_lstore_n G [(1, xL (Int.bmod ((Int.bmod (31 * (Int.bmod ((Int.bmod (31 * d0) 18446744073709551616) + 4) 18446744073709551616)) 18446744073709551616) + (V 5 k.toNat)) 18446744073709551616)), (0, xR 0), (3, xI k)] rfl (by decide) rfl dX6_digest_66 ?_
        refine x_ldc2 G (z := 31) (by decide) kc_X6_310 dX6_digest_67 ?_
        refine x_lload_n G 0 rfl rfl dX6_digest_70 ?_
        refine x_lmulW G dX6_digest_71 ?_
        refine x_aload_n G 1 rfl rfl dX6_digest_72 ?_
        refine x_get G (xR 1) xf6_0 lk_X6_10 (ly_n hY 0 (by decide)) (ly_k hY 0 (by decide)) (Or.inr ⟨rfl, _, (ly_r hY 0 0 (by decide) (by decide)), rfl⟩) dX6_digest_73 ?_
        refine x_get G (xR (1 + 6)) xf3_3 lk_X6_123 (st_n (ly_st1 hY) 0 (by decide)) (st_k (ly_st1 hY) 0 (by decide)) (Or.inr ⟨rfl, _, (st_r (ly_st1 hY) 0 3 (by decide) (by decide)), rfl⟩) dX6_digest_76 ?_
        refine x_iload_n G 2 rfl rfl dX6_digest_79 ?_
        refine x_iald G (st_n (ly_st1 hY) 6 (by decide)) (st_k (ly_st1 hY) 6 (by decide)) (show _ = 100 from st_l (ly_st1 hY) 6 (by decide)) (by omega) (by omega) dX6_digest_80 ?_
        rw [show M (1 + 6) k.toNat = (V 6 k.toNat) from (congrFun (hV 6 (by decide) (by decide) (by decide)) k.toNat)]
        refine x_i2l G dX6_digest_81 ?_
        refine x_laddW G dX6_digest_82 ?_
        refine x_lstore_n G [(1, xL (Int.bmod ((Int.bmod (31 * (Int.bmod ((Int.bmod (31 * (Int.bmod ((Int.bmod (31 * d0) 18446744073709551616) + 4) 18446744073709551616)) 18446744073709551616) + (V 5 k.toNat)) 18446744073709551616)) 18446744073709551616) + (V 6 k.toNat)) 18446744073709551616)), (0, xR 0), (3, xI k)] rfl (by decide) rfl dX6_digest_83 ?_
        refine x_ldc2 G (z := 31) (by decide) kc_X6_310 dX6_digest_84 ?_
        refine x_lload_n G 0 rfl rfl dX6_digest_87 ?_
        refine x_lmulW G dX6_digest_88 ?_
        refine x_aload_n G 1 rfl rfl dX6_digest_89 ?_
        refine x_get G (xR 1) xf6_0 lk_X6_10 (ly_n hY 0 (by decide)) (ly_k hY 0 (by decide)) (Or.inr ⟨rfl, _, (ly_r hY 0 0 (by decide) (by decide)), rfl⟩) dX6_digest_90 ?_
        refine x_get G (xR (1 + 7)) xf3_4 lk_X6_126 (st_n (ly_st1 hY) 0 (by decide)) (st_k (ly_st1 hY) 0 (by decide)) (Or.inr ⟨rfl, _, (st_r (ly_st1 hY) 0 4 (by decide) (by decide)), rfl⟩) dX6_digest_93 ?_
        refine x_iload_n G 2 rfl rfl dX6_digest_96 ?_
        refine x_iald G (st_n (ly_st1 hY) 7 (by decide)) (st_k (ly_st1 hY) 7 (by decide)) (show _ = 100 from st_l (ly_st1 hY) 7 (by decide)) (by omega) (by omega) dX6_digest_97 ?_
        rw [show M (1 + 7) k.toNat = (V 7 k.toNat) from (congrFun (hV 7 (by decide) (by decide) (by decide)) k.toNat)]
        refine x_i2l G dX6_digest_98 ?_
        refine x_laddW G dX6_digest_99 ?_
        refine x_lstore_n G [(1, xL (Int.bmod ((Int.bmod (31 * (Int.bmod ((Int.bmod (31 * (Int.bmod ((Int.bmod (31 * (Int.bmod ((Int.bmod (31 * d0) 18446744073709551616) + 4) 18446744073709551616)) 18446744073709551616) + (V 5 k.toNat)) 18446744073709551616)) 18446744073709551616) + (V 6 k.toNat)) 18446744073709551616)) 18446744073709551616) + (V 7 k.toNat)) 18446744073709551616)), (0, xR 0), (3, xI k)] rfl (by decide) rfl dX6_digest_100 ?_
        refine x_ldc2 G (z := 31) (by decide) kc_X6_310 dX6_digest_101 ?_
        refine x_lload_n G 0 rfl rfl dX6_digest_104 ?_
        refine x_lmulW G dX6_digest_105 ?_
        refine x_aload_n G 1 rfl rfl dX6_digest_106 ?_
        refine x_get G (xR 1) xf6_0 lk_X6_10 (ly_n hY 0 (by decide)) (ly_k hY 0 (by decide)) (Or.inr ⟨rfl, _, (ly_r hY 0 0 (by decide) (by decide)), rfl⟩) dX6_digest_107 ?_
        refine x_get G (xR (1 + 8)) xf3_5 lk_X6_190 (st_n (ly_st1 hY) 0 (by decide)) (st_k (ly_st1 hY) 0 (by decide)) (Or.inr ⟨rfl, _, (st_r (ly_st1 hY) 0 5 (by decide) (by decide)), rfl⟩) dX6_digest_110 ?_
        refine x_iload_n G 2 rfl rfl dX6_digest_113 ?_
        refine x_iald G (st_n (ly_st1 hY) 8 (by decide)) (st_k (ly_st1 hY) 8 (by decide)) (show _ = 100 from st_l (ly_st1 hY) 8 (by decide)) (by omega) (by omega) dX6_digest_114 ?_
        rw [show M (1 + 8) k.toNat = (V 8 k.toNat) from (congrFun (hV 8 (by decide) (by decide) (by decide)) k.toNat)]
        refine x_i2l G dX6_digest_115 ?_
        refine x_laddW G dX6_digest_116 ?_
        refine x_lstore_n G [(1, xL (Int.bmod ((Int.bmod (31 * (Int.bmod ((Int.bmod (31 * (Int.bmod ((Int.bmod (31 * (Int.bmod ((Int.bmod (31 * (Int.bmod ((Int.bmod (31 * d0) 18446744073709551616) + 4) 18446744073709551616)) 18446744073709551616) + (V 5 k.toNat)) 18446744073709551616)) 18446744073709551616) + (V 6 k.toNat)) 18446744073709551616)) 18446744073709551616) + (V 7 k.toNat)) 18446744073709551616)) 18446744073709551616) + (V 8 k.toNat)) 18446744073709551616)), (0, xR 0), (3, xI k)] rfl (by decide) rfl dX6_digest_117 ?_
        refine x_iinc G [(3, xI (k + 1)), (1, xL (Int.bmod ((Int.bmod (31 * (Int.bmod ((Int.bmod (31 * (Int.bmod ((Int.bmod (31 * (Int.bmod ((Int.bmod (31 * (Int.bmod ((Int.bmod (31 * d0) 18446744073709551616) + 4) 18446744073709551616)) 18446744073709551616) + (V 5 k.toNat)) 18446744073709551616)) 18446744073709551616) + (V 6 k.toNat)) 18446744073709551616)) 18446744073709551616) + (V 7 k.toNat)) 18446744073709551616)) 18446744073709551616) + (V 8 k.toNat)) 18446744073709551616)), (0, xR 0)] 2 rfl (by decide) (by omega) rfl dX6_digest_118 ?_
        refine x_goto G 6 (by decide) dX6_digest_121 ?_
        refine x_sub [(0, xR 0), (1, xL (Int.bmod ((Int.bmod (31 * (Int.bmod ((Int.bmod (31 * (Int.bmod ((Int.bmod (31 * (Int.bmod ((Int.bmod (31 * (Int.bmod ((Int.bmod (31 * d0) 18446744073709551616) + 4) 18446744073709551616)) 18446744073709551616) + (V 5 k.toNat)) 18446744073709551616)) 18446744073709551616) + (V 6 k.toNat)) 18446744073709551616)) 18446744073709551616) + (V 7 k.toNat)) 18446744073709551616)) 18446744073709551616) + (V 8 k.toNat)) 18446744073709551616)), (3, xI (k + 1))] [2, 1, 0] rfl ?_
        exact ih6 _ (by omega) (k + 1) (Int.bmod ((Int.bmod (31 * (Int.bmod ((Int.bmod (31 * (Int.bmod ((Int.bmod (31 * (Int.bmod ((Int.bmod (31 * (Int.bmod ((Int.bmod (31 * d0) 18446744073709551616) + 4) 18446744073709551616)) 18446744073709551616) + (V 5 k.toNat)) 18446744073709551616)) 18446744073709551616) + (V 6 k.toNat)) 18446744073709551616)) 18446744073709551616) + (V 7 k.toNat)) 18446744073709551616)) 18446744073709551616) + (V 8 k.toNat)) 18446744073709551616) rfl (by omega) (by rw [show (k + 1).toNat = k.toNat + 1 by omega]; unfold dig; rw [← hd]; rw [if_neg (by omega)]; rfl)
  refine x_sub [(0, xR 0), (1, xL 17), (3, xI 0)] [2, 1, 0] rfl ?_
  exact loop6 _ 0 17 rfl (by omega) (rfl)
theorem shelf_r {n : Nat} {T : xT} (hY : LayOK n T) {j : Nat} (hj : j < 2) : (T 161).2.2 j = some (169 + 13 * j) := by
  rw [ly_r hY 161 j (by decide) (by omega)]
  have : j = 0 ∨ j = 1 := by omega
  rcases this with rfl | rfl <;> rfl
theorem shelf_st {n : Nat} {T : xT} (hY : LayOK n T) {j : Nat} (hj : j < 2) : StL n T (169 + 13 * j) := by
  have : j = 0 ∨ j = 1 := by omega
  rcases this with rfl | rfl
  · exact ly_st169 hY
  · exact ly_st182 hY
set_option maxRecDepth 100000 in
set_option maxHeartbeats 4000000 in
theorem kX6_isKept (D : xD) (l : Launch) {n : Nat} {T : xT} {M : xM} (sf : Int) (hY : LayOK n T) (hk : 0 ≤ M 0 7 ∧ M 0 7 ≤ 3) (hsf : 0 ≤ sf ∧ sf ≤ 1) : xC D l uX6_isKept 0 0 0 0 [xR 0, xI sf] n T M (xPp n T M (b2i (bit (M 0 7) sf))) := by
  refine x_met uX6_isKept (by decide) (Nat.le_of_ble_eq_true rfl) ?_
  intro Γ G Rt _
  have G : xG Γ RX6 cX6_isKept 2 0 0 0 0 := G
  have Rt : xRt Γ (xPp n T M (b2i (bit (M 0 7) sf))) (some .boolean) 0 0 := Rt
  show xX Γ 0 0 n T 0 [(0, xR 0), (1, xI sf)] [] M
  have hq : 0 ≤ M 0 7 / 2 ^ sf.toNat ∧ M 0 7 / 2 ^ sf.toNat ≤ M 0 7 := ⟨Int.ediv_nonneg hk.1 (Int.pow_nonneg (by decide)), Int.ediv_le_self _ hk.1⟩
  refine x_aload_n G 0 rfl rfl dX6_isKept_0 ?_
  refine x_get G (xI (M 0 7)) xf6_7 lk_X6_51 (ly_n hY 0 (by decide)) (ly_k hY 0 (by decide)) (Or.inl ⟨rfl, rfl⟩) dX6_isKept_1 ?_
  refine x_iload_n G 1 rfl rfl dX6_isKept_4 ?_
  refine x_ishr G (M 0 7 / 2 ^ sf.toNat) (x_shr' hk.1 ⟨by omega, by omega⟩ hsf.1 (by omega)) (by omega) dX6_isKept_5 ?_
  refine x_iconst G (by decide) dX6_isKept_6 ?_
  refine x_iand G (M 0 7 / 2 ^ sf.toNat % 2) (by have := x_and' (x := M 0 7 / 2 ^ sf.toNat) (m := 1) 1 (by decide) hq.1; exact this) (by omega) dX6_isKept_7 ?_
  refine x_iconst G (by decide) dX6_isKept_8 ?_
  refine x_icmp_ne G 16 (by decide) dX6_isKept_9 (fun c9 => ?_) (fun c9 => ?_)
  · skip
    refine x_iconst G (by decide) dX6_isKept_16 ?_
    exact x_zret G (by omega) Rt dX6_isKept_17 ⟨rfl, rfl, congrArg (fun z => some (xI z)) (by first | exact (b2i_t c9).symm | exact (b2i_f c9).symm), rfl⟩
  · skip
    refine x_iconst G (by decide) dX6_isKept_12 ?_
    refine x_goto G 17 (by decide) dX6_isKept_13 ?_
    exact x_zret G (by omega) Rt dX6_isKept_17 ⟨rfl, rfl, congrArg (fun z => some (xI z)) (by first | exact (b2i_t c9).symm | exact (b2i_f c9).symm), rfl⟩
def qSame (V W : xM) (kp sf sh : Int) : Int := if (0 ≤ sf ∧ sf ≤ 1) ∧ okS sh then (if bit kp sf then b2i (smL V sh = smL W sh) else -2) else -1
set_option maxRecDepth 100000 in
set_option maxHeartbeats 4000000 in
theorem kX6_same (D : xD) (l : Launch) {n : Nat} {T : xT} {M : xM} (V W : xM) (sf sh : Int) (hY : LayOK n T) (hV : shw M 1 V) (hv : VOK V) (hs : Srt V (V 10) (V 0 10).toNat) (hk : 0 ≤ M 0 7 ∧ M 0 7 ≤ 3) (hW : (0 ≤ sf ∧ sf ≤ 1) → bit (M 0 7) sf → shw M (169 + 13 * sf.toNat) W ∧ VOK W ∧ Srt W (W 10) (W 0 10).toNat) : xC D l uX6_same 4 91 0 0 [xR 0, xI sf, xI sh] n T M (xPI n T (fun z M2 => z = qSame V W (M 0 7) sf sh ∧ xof [3, 4, 162, 163, 164, 165, 166, 167] M M2)) := by
  refine x_met uX6_same (by decide) (Nat.le_of_ble_eq_true rfl) ?_
  intro Γ G Rt _
  have G : xG Γ RX6 cX6_same 3 4 91 0 0 := G
  have Rt : xRt Γ (xPI n T (fun z M2 => z = qSame V W (M 0 7) sf sh ∧ xof [3, 4, 162, 163, 164, 165, 166, 167] M M2)) (some .int) 0 0 := Rt
  show xX Γ 0 0 n T 0 [(0, xR 0), (1, xI sf), (2, xI sh)] [] M
  have hc := ok_c hv
  have hsc := hv.1
  refine x_iload_n G 1 rfl rfl dX6_same_0 ?_
  refine x_callSp G [] [xI sf] hy_X6_isShelf ht_X6_isShelf ml_X6_181 rfl rfl (kX6_isShelf _ _ sf) (by decide) (by decide) (Nat.le_of_ble_eq_true rfl) dX6_same_1 ?_
  refine x_if_eq G 14 (by decide) dX6_same_4 (fun c4 => ?_) (fun c4 => ?_)
  · skip
    have c4 := b2i_eq0.mp c4
    refine x_iconst G (by decide) dX6_same_14 ?_
    exact x_iret G Rt dX6_same_15 ⟨rfl, rfl, _, rfl, ⟨(by unfold qSame; (repeat (first | rw [if_pos (by omega)] | rw [if_neg (by omega)])) <;> try rfl), (xof_refl _ _)⟩⟩
  · skip
    have c4 := b2i_ne0.mp c4
    refine x_iload_n G 2 rfl rfl dX6_same_7 ?_
    refine x_callSp G [] [xI sh] hy_X6_isShard ht_X6_isShard ml_X6_86 rfl rfl (kX6_isShard _ _ sh) (by decide) (by decide) (Nat.le_of_ble_eq_true rfl) dX6_same_8 ?_
    refine x_if_ne G 16 (by decide) dX6_same_11 (fun c11 => ?_) (fun c11 => ?_)
    · skip
      have c11 := b2i_ne0.mp c11
      refine x_aload_n G 0 rfl rfl dX6_same_16 ?_
      refine x_iload_n G 1 rfl rfl dX6_same_17 ?_
      refine x_callVp G [] [xI sf] rfl (by decide) (ly_n hY 0 (by decide)) (ly_k hY 0 (by decide)) hy_X6_isKept hi_X6_isKept hs_X6_isKept ml_X6_184 rfl rfl (kX6_isKept _ _ sf hY hk (by omega)) (by decide) (by decide) (Nat.le_of_ble_eq_true rfl) dX6_same_18 ?_
      refine x_if_ne G 27 (by decide) dX6_same_21 (fun c21 => ?_) (fun c21 => ?_)
      · skip
        have c21 := b2i_ne0.mp c21
        obtain ⟨hWV, hWv, hWs⟩ := hW (by omega) c21
        skip
        refine x_aload_n G 0 rfl rfl dX6_same_27 ?_
        refine x_get G (xR 162) xf6_4 lk_X6_37 (ly_n hY 0 (by decide)) (ly_k hY 0 (by decide)) (Or.inr ⟨rfl, _, (ly_r hY 0 4 (by decide) (by decide)), rfl⟩) dX6_same_28 ?_
        refine x_aload_n G 0 rfl rfl dX6_same_31 ?_
        refine x_get G (xR 1) xf6_0 lk_X6_10 (ly_n hY 0 (by decide)) (ly_k hY 0 (by decide)) (Or.inr ⟨rfl, _, (ly_r hY 0 0 (by decide) (by decide)), rfl⟩) dX6_same_32 ?_
        refine x_iload_n G 2 rfl rfl dX6_same_35 ?_
        refine x_callVV G [] [xR 1, xI sh] rfl (by decide) (sa_n (ly_sa162 hY) 0 (by decide)) (sa_k (ly_sa162 hY) 0 (by decide)) hy_X2_take hi_X2_take hs_X2_take ml_X6_150 rfl rfl (kX2_take _ _ 162 1 V sh (ly_sa162 hY) (ly_st1 hY) (by omega) hV hv (by omega) hs) (by decide) (by decide) (Nat.le_of_ble_eq_true rfl) dX6_same_36 (fun M36 h36 => ?_)
        have hsm36 : Smp M36 162 V (smL V sh) := by
            have e9 := h36.1
            rw [tkL_eq hv hs (by omega)] at e9
            exact e9
        have hn36 := hsm36.1
        have hl36 : (smL V sh).length ≤ 100 := take_len (alL_len hv _ _ _ _)
        refine x_aload_n G 0 rfl rfl dX6_same_39 ?_
        refine x_get G (xR 165) xf6_5 lk_X6_41 (ly_n hY 0 (by decide)) (ly_k hY 0 (by decide)) (Or.inr ⟨rfl, _, (ly_r hY 0 5 (by decide) (by decide)), rfl⟩) dX6_same_40 ?_
        refine x_aload_n G 0 rfl rfl dX6_same_43 ?_
        refine x_get G (xR 161) xf6_3 lk_X6_30 (ly_n hY 0 (by decide)) (ly_k hY 0 (by decide)) (Or.inr ⟨rfl, _, (ly_r hY 0 3 (by decide) (by decide)), rfl⟩) dX6_same_44 ?_
        refine x_iload_n G 1 rfl rfl dX6_same_47 ?_
        refine x_aald G (b := (169 + 13 * sf.toNat)) (ly_n hY 161 (by decide)) (ly_k hY 161 (by decide)) (show _ = 2 from ly_l hY 161 (by decide)) (by omega) (by omega) (shelf_r hY (by omega)) dX6_same_48 ?_
        refine x_iload_n G 2 rfl rfl dX6_same_49 ?_
        refine x_callVV G [] [xR (169 + 13 * sf.toNat), xI sh] rfl (by decide) (sa_n (ly_sa165 hY) 0 (by decide)) (sa_k (ly_sa165 hY) 0 (by decide)) hy_X2_take hi_X2_take hs_X2_take ml_X6_150 rfl rfl (kX2_take _ _ 165 (169 + 13 * sf.toNat) W sh (ly_sa165 hY) (shelf_st hY (by omega)) (by omega) (shw_xof hWV h36.2.2 (by intro k9 h1 h2 h3; simp <;> omega)) hWv (by omega) hWs) (by decide) (by decide) (Nat.le_of_ble_eq_true rfl) dX6_same_50 (fun M50 h50 => ?_)
        have hsm50 : Smp M50 165 W (smL W sh) := by
            have e9 := h50.1
            rw [tkL_eq hWv hWs (by omega)] at e9
            exact e9
        have hn50 := hsm50.1
        have hl50 : (smL W sh).length ≤ 100 := take_len (alL_len hWv _ _ _ _)
        refine x_aload_n G 0 rfl rfl dX6_same_53 ?_
        refine x_get G (xR 162) xf6_4 lk_X6_37 (ly_n hY 0 (by decide)) (ly_k hY 0 (by decide)) (Or.inr ⟨rfl, _, (ly_r hY 0 4 (by decide) (by decide)), rfl⟩) dX6_same_54 ?_
        refine x_aload_n G 0 rfl rfl dX6_same_57 ?_
        refine x_get G (xR 165) xf6_5 lk_X6_41 (ly_n hY 0 (by decide)) (ly_k hY 0 (by decide)) (Or.inr ⟨rfl, _, (ly_r hY 0 5 (by decide) (by decide)), rfl⟩) dX6_same_58 ?_
        refine x_callVp G [] [xR 165] rfl (by decide) (sa_n (ly_sa162 hY) 0 (by decide)) (sa_k (ly_sa162 hY) 0 (by decide)) hy_X2_isLike hi_X2_isLike hs_X2_isLike ml_X6_301 rfl rfl (kX2_isLike _ _ 162 165 V W (smL V sh) (smL W sh) (ly_sa162 hY) (smp_fr hsm36 (fun k9 h9 => h50.2.2 _ (by simp <;> omega))) (take_len (alL_len hv _ _ _ _)) (ly_sa165 hY) hsm50 (take_len (alL_len hWv _ _ _ _))) (by decide) (by decide) (Nat.le_of_ble_eq_true rfl) dX6_same_61 ?_
        refine x_if_eq G 71 (by decide) dX6_same_64 (fun c64 => ?_) (fun c64 => ?_)
        · skip
          have c64 := b2i_eq0.mp c64
          refine x_iconst G (by decide) dX6_same_71 ?_
          exact x_iret G Rt dX6_same_72 ⟨rfl, rfl, _, rfl, ⟨(by unfold qSame; rw [if_pos (by omega), if_pos c21]; first | exact (b2i_t c64).symm | exact (b2i_f c64).symm), (xof_trans (xof_trans (xof_refl _ _) (xof_mono h36.2.2 (by decide))) (xof_mono h50.2.2 (by decide)))⟩⟩
        · skip
          have c64 := b2i_ne0.mp c64
          refine x_iconst G (by decide) dX6_same_67 ?_
          refine x_goto G 72 (by decide) dX6_same_68 ?_
          exact x_iret G Rt dX6_same_72 ⟨rfl, rfl, _, rfl, ⟨(by unfold qSame; rw [if_pos (by omega), if_pos c21]; first | exact (b2i_t c64).symm | exact (b2i_f c64).symm), (xof_trans (xof_trans (xof_refl _ _) (xof_mono h36.2.2 (by decide))) (xof_mono h50.2.2 (by decide)))⟩⟩
      · skip
        have c21 := b2i_eq0.mp c21
        refine x_bipush G (by decide) dX6_same_24 ?_
        exact x_iret G Rt dX6_same_26 ⟨rfl, rfl, _, rfl, ⟨(by unfold qSame; rw [if_pos (by omega), if_neg c21]), (xof_refl _ _)⟩⟩
    · skip
      have c11 := b2i_eq0.mp c11
      refine x_iconst G (by decide) dX6_same_14 ?_
      exact x_iret G Rt dX6_same_15 ⟨rfl, rfl, _, rfl, ⟨(by unfold qSame; (repeat (first | rw [if_pos (by omega)] | rw [if_neg (by omega)])) <;> try rfl), (xof_refl _ _)⟩⟩
def qCount (V : xM) (un tp kp what : Int) : Int := if what = 0 then V 0 10 else if what = 1 then cntU V (-1) (-1) else if what = 2 then V 0 11 else if what = 3 then V 0 12 else if what = 4 then un else if what = 5 then tp else if what = 6 then kp else if what = 7 then cntA V (-1) (-1) else -1
set_option maxRecDepth 100000 in
set_option maxHeartbeats 4000000 in
theorem kX6_count (D : xD) (l : Launch) {n : Nat} {T : xT} {M : xM} (V : xM) (what : Int) (hY : LayOK n T) (hV : shw M 1 V) (hv : VOK V) (hs : Srt V (V 10) (V 0 10).toNat) : xC D l uX6_count 4 91 0 0 [xR 0, xI what] n T M (xPI n T (fun z M2 => z = qCount V (M 14 2) (M 146 2) (M 0 7) what ∧ M2 = M)) := by
  refine x_met uX6_count (by decide) (Nat.le_of_ble_eq_true rfl) ?_
  intro Γ G Rt _
  have G : xG Γ RX6 cX6_count 2 4 91 0 0 := G
  have Rt : xRt Γ (xPI n T (fun z M2 => z = qCount V (M 14 2) (M 146 2) (M 0 7) what ∧ M2 = M)) (some .int) 0 0 := Rt
  show xX Γ 0 0 n T 0 [(0, xR 0), (1, xI what)] [] M
  have hc := ok_c hv
  have hsc := hv.1
  refine x_iload_n G 1 rfl rfl dX6_count_0 ?_
  by_cases k1_0 : what = 0
  · refine x_tabIn G 48 (by omega) (by omega) (by rw [k1_0]; rfl) (by decide) dX6_count_1 ?_
    refine x_aload_n G 0 rfl rfl dX6_count_48 ?_
    refine x_get G (xR 1) xf6_0 lk_X6_10 (ly_n hY 0 (by decide)) (ly_k hY 0 (by decide)) (Or.inr ⟨rfl, _, (ly_r hY 0 0 (by decide) (by decide)), rfl⟩) dX6_count_49 ?_
    refine x_get G (xI (M 1 10)) xf3_10 lk_X6_83 (st_n (ly_st1 hY) 0 (by decide)) (st_k (ly_st1 hY) 0 (by decide)) (Or.inl ⟨rfl, rfl⟩) dX6_count_52 ?_
    rw [show M 1 10 = (V 0 10) from (congrFun (hV 0 (by decide) (by decide) (by decide)) 10)]
    exact x_iret G Rt dX6_count_55 ⟨rfl, rfl, _, rfl, ⟨(by unfold qCount; (repeat (first | rw [if_pos (by omega)] | rw [if_neg (by omega)])) <;> try rfl), rfl⟩⟩
  by_cases k1_1 : what = 1
  · refine x_tabIn G 56 (by omega) (by omega) (by rw [k1_1]; rfl) (by decide) dX6_count_1 ?_
    refine x_aload_n G 0 rfl rfl dX6_count_56 ?_
    refine x_get G (xR 1) xf6_0 lk_X6_10 (ly_n hY 0 (by decide)) (ly_k hY 0 (by decide)) (Or.inr ⟨rfl, _, (ly_r hY 0 0 (by decide) (by decide)), rfl⟩) dX6_count_57 ?_
    refine x_iconst G (by decide) dX6_count_60 ?_
    refine x_iconst G (by decide) dX6_count_61 ?_
    refine x_callVp G [] [xI (-1), xI (-1)] rfl (by decide) (st_n (ly_st1 hY) 0 (by decide)) (st_k (ly_st1 hY) 0 (by decide)) hy_X3_countUndropped hi_X3_countUndropped hs_X3_countUndropped ml_X6_136 rfl rfl (kX3_countUndropped _ _ 1 V (-1) (-1) (ly_st1 hY) hV hv) (by decide) (by decide) (Nat.le_of_ble_eq_true rfl) dX6_count_62 ?_
    exact x_iret G Rt dX6_count_65 ⟨rfl, rfl, _, rfl, ⟨(by unfold qCount; (repeat (first | rw [if_pos (by omega)] | rw [if_neg (by omega)])) <;> try rfl), rfl⟩⟩
  by_cases k1_2 : what = 2
  · refine x_tabIn G 66 (by omega) (by omega) (by rw [k1_2]; rfl) (by decide) dX6_count_1 ?_
    refine x_aload_n G 0 rfl rfl dX6_count_66 ?_
    refine x_get G (xR 1) xf6_0 lk_X6_10 (ly_n hY 0 (by decide)) (ly_k hY 0 (by decide)) (Or.inr ⟨rfl, _, (ly_r hY 0 0 (by decide) (by decide)), rfl⟩) dX6_count_67 ?_
    refine x_get G (xI (M 1 11)) xf3_11 lk_X6_109 (st_n (ly_st1 hY) 0 (by decide)) (st_k (ly_st1 hY) 0 (by decide)) (Or.inl ⟨rfl, rfl⟩) dX6_count_70 ?_
    rw [show M 1 11 = (V 0 11) from (congrFun (hV 0 (by decide) (by decide) (by decide)) 11)]
    exact x_iret G Rt dX6_count_73 ⟨rfl, rfl, _, rfl, ⟨(by unfold qCount; (repeat (first | rw [if_pos (by omega)] | rw [if_neg (by omega)])) <;> try rfl), rfl⟩⟩
  by_cases k1_3 : what = 3
  · refine x_tabIn G 74 (by omega) (by omega) (by rw [k1_3]; rfl) (by decide) dX6_count_1 ?_
    refine x_aload_n G 0 rfl rfl dX6_count_74 ?_
    refine x_get G (xR 1) xf6_0 lk_X6_10 (ly_n hY 0 (by decide)) (ly_k hY 0 (by decide)) (Or.inr ⟨rfl, _, (ly_r hY 0 0 (by decide) (by decide)), rfl⟩) dX6_count_75 ?_
    refine x_get G (xI (M 1 12)) xf3_12 lk_X6_173 (st_n (ly_st1 hY) 0 (by decide)) (st_k (ly_st1 hY) 0 (by decide)) (Or.inl ⟨rfl, rfl⟩) dX6_count_78 ?_
    rw [show M 1 12 = (V 0 12) from (congrFun (hV 0 (by decide) (by decide) (by decide)) 12)]
    exact x_iret G Rt dX6_count_81 ⟨rfl, rfl, _, rfl, ⟨(by unfold qCount; (repeat (first | rw [if_pos (by omega)] | rw [if_neg (by omega)])) <;> try rfl), rfl⟩⟩
  by_cases k1_4 : what = 4
  · refine x_tabIn G 82 (by omega) (by omega) (by rw [k1_4]; rfl) (by decide) dX6_count_1 ?_
    refine x_aload_n G 0 rfl rfl dX6_count_82 ?_
    refine x_get G (xR 14) xf6_1 lk_X6_19 (ly_n hY 0 (by decide)) (ly_k hY 0 (by decide)) (Or.inr ⟨rfl, _, (ly_r hY 0 1 (by decide) (by decide)), rfl⟩) dX6_count_83 ?_
    refine x_get G (xI (M 14 2)) xf0_2 lk_X6_180 (ly_n hY 14 (by decide)) (ly_k hY 14 (by decide)) (Or.inl ⟨rfl, rfl⟩) dX6_count_86 ?_
    exact x_iret G Rt dX6_count_89 ⟨rfl, rfl, _, rfl, ⟨(by unfold qCount; (repeat (first | rw [if_pos (by omega)] | rw [if_neg (by omega)])) <;> try rfl), rfl⟩⟩
  by_cases k1_5 : what = 5
  · refine x_tabIn G 90 (by omega) (by omega) (by rw [k1_5]; rfl) (by decide) dX6_count_1 ?_
    refine x_aload_n G 0 rfl rfl dX6_count_90 ?_
    refine x_get G (xR 146) xf6_2 lk_X6_26 (ly_n hY 0 (by decide)) (ly_k hY 0 (by decide)) (Or.inr ⟨rfl, _, (ly_r hY 0 2 (by decide) (by decide)), rfl⟩) dX6_count_91 ?_
    refine x_get G (xI (M 146 2)) xf4_2 lk_X6_55 (ly_n hY 146 (by decide)) (ly_k hY 146 (by decide)) (Or.inl ⟨rfl, rfl⟩) dX6_count_94 ?_
    exact x_iret G Rt dX6_count_97 ⟨rfl, rfl, _, rfl, ⟨(by unfold qCount; (repeat (first | rw [if_pos (by omega)] | rw [if_neg (by omega)])) <;> try rfl), rfl⟩⟩
  by_cases k1_6 : what = 6
  · refine x_tabIn G 98 (by omega) (by omega) (by rw [k1_6]; rfl) (by decide) dX6_count_1 ?_
    refine x_aload_n G 0 rfl rfl dX6_count_98 ?_
    refine x_get G (xI (M 0 7)) xf6_7 lk_X6_51 (ly_n hY 0 (by decide)) (ly_k hY 0 (by decide)) (Or.inl ⟨rfl, rfl⟩) dX6_count_99 ?_
    exact x_iret G Rt dX6_count_102 ⟨rfl, rfl, _, rfl, ⟨(by unfold qCount; (repeat (first | rw [if_pos (by omega)] | rw [if_neg (by omega)])) <;> try rfl), rfl⟩⟩
  by_cases k1_7 : what = 7
  · refine x_tabIn G 103 (by omega) (by omega) (by rw [k1_7]; rfl) (by decide) dX6_count_1 ?_
    refine x_aload_n G 0 rfl rfl dX6_count_103 ?_
    refine x_get G (xR 1) xf6_0 lk_X6_10 (ly_n hY 0 (by decide)) (ly_k hY 0 (by decide)) (Or.inr ⟨rfl, _, (ly_r hY 0 0 (by decide) (by decide)), rfl⟩) dX6_count_104 ?_
    refine x_iconst G (by decide) dX6_count_107 ?_
    refine x_iconst G (by decide) dX6_count_108 ?_
    refine x_callVp G [] [xI (-1), xI (-1)] rfl (by decide) (st_n (ly_st1 hY) 0 (by decide)) (st_k (ly_st1 hY) 0 (by decide)) hy_X3_countAlive hi_X3_countAlive hs_X3_countAlive ml_X6_166 rfl rfl (kX3_countAlive _ _ 1 V (-1) (-1) (ly_st1 hY) hV hv) (by decide) (by decide) (Nat.le_of_ble_eq_true rfl) dX6_count_109 ?_
    exact x_iret G Rt dX6_count_112 ⟨rfl, rfl, _, rfl, ⟨(by unfold qCount; (repeat (first | rw [if_pos (by omega)] | rw [if_neg (by omega)])) <;> try rfl), rfl⟩⟩
  refine x_tabOut G 113 (by omega) (by decide) dX6_count_1 ?_
  refine x_iconst G (by decide) dX6_count_113 ?_
  exact x_iret G Rt dX6_count_114 ⟨rfl, rfl, _, rfl, ⟨(by unfold qCount; (repeat (first | rw [if_pos (by omega)] | rw [if_neg (by omega)])) <;> try rfl), rfl⟩⟩
