set_option maxRecDepth 100000 in
set_option maxHeartbeats 4000000 in
theorem kX6_lifeOf (D : xD) (l : Launch) {n : Nat} {T : xT} {M : xM} (V : xM) (i : Int) (hY : LayOK n T) (hV : shw M 1 V) (hv : VOK V) (hs : Srt V (V 10) (V 0 10).toNat) (hi : 0 ≤ i ∧ i < V 0 10) : xC D l uX6_lifeOf 2 44 0 0 [xR 0, xI i] n T M (xPI n T (fun z M2 => z = qLife V i ∧ xof [3, 4, 162, 163, 164, 165, 166, 167] M M2)) := by
  refine x_met uX6_lifeOf (by decide) (Nat.le_of_ble_eq_true rfl) ?_
  intro Γ G Rt _
  have G : xG Γ RX6 cX6_lifeOf 2 2 44 0 0 := G
  have Rt : xRt Γ (xPI n T (fun z M2 => z = qLife V i ∧ xof [3, 4, 162, 163, 164, 165, 166, 167] M M2)) (some .int) 0 0 := Rt
  show xX Γ 0 0 n T 0 [(0, xR 0), (1, xI i)] [] M
  refine x_aload_n G 0 rfl rfl dX6_lifeOf_0 ?_
  refine x_get G (xR 1) xf6_0 lk_X6_10 (ly_n hY 0 (by decide)) (ly_k hY 0 (by decide)) (Or.inr ⟨rfl, _, (ly_r hY 0 0 (by decide) (by decide)), rfl⟩) dX6_lifeOf_1 ?_
  refine x_iload_n G 1 rfl rfl dX6_lifeOf_4 ?_
  refine x_callVp G [] [xI i] rfl (by decide) (st_n (ly_st1 hY) 0 (by decide)) (st_k (ly_st1 hY) 0 (by decide)) hy_X3_isAlive hi_X3_isAlive hs_X3_isAlive ml_X6_169 rfl rfl (kX3_isAlive _ _ 1 V i (ly_st1 hY) hV hv (by omega)) (by decide) (by decide) (Nat.le_of_ble_eq_true rfl) dX6_lifeOf_5 ?_
  refine x_if_eq G 13 (by decide) dX6_lifeOf_8 (fun c8 => ?_) (fun c8 => ?_)
  · skip
    have c8 := b2i_eq0.mp c8
    refine x_aload_n G 0 rfl rfl dX6_lifeOf_13 ?_
    have hit := ok_i hv hi.1 hi.2
    refine x_get G (xR 1) xf6_0 lk_X6_10 (ly_n hY 0 (by decide)) (ly_k hY 0 (by decide)) (Or.inr ⟨rfl, _, (ly_r hY 0 0 (by decide) (by decide)), rfl⟩) dX6_lifeOf_14 ?_
    refine x_get G (xR (1 + 9)) xf3_6 lk_X6_129 (st_n (ly_st1 hY) 0 (by decide)) (st_k (ly_st1 hY) 0 (by decide)) (Or.inr ⟨rfl, _, (st_r (ly_st1 hY) 0 6 (by decide) (by decide)), rfl⟩) dX6_lifeOf_17 ?_
    refine x_iload_n G 1 rfl rfl dX6_lifeOf_20 ?_
    refine x_zald G (st_n (ly_st1 hY) 9 (by decide)) (st_k (ly_st1 hY) 9 (by decide)) (show _ = 100 from st_l (ly_st1 hY) 9 (by decide)) (by omega) (by omega) dX6_lifeOf_21 ?_
    rw [show M (1 + 9) i.toNat = (V 9 i.toNat) from (congrFun (hV 9 (by decide) (by decide) (by decide)) i.toNat)]
    refine x_if_eq G 29 (by decide) dX6_lifeOf_22 (fun c22 => ?_) (fun c22 => ?_)
    · skip
      refine x_iconst G (by decide) dX6_lifeOf_29 ?_
      exact x_iret G Rt dX6_lifeOf_30 ⟨rfl, rfl, _, rfl, ⟨(by unfold qLife; (repeat (first | rw [if_pos (by omega)] | rw [if_neg (by omega)])) <;> try rfl), (xof_refl _ _)⟩⟩
    · skip
      refine x_iconst G (by decide) dX6_lifeOf_25 ?_
      refine x_goto G 30 (by decide) dX6_lifeOf_26 ?_
      exact x_iret G Rt dX6_lifeOf_30 ⟨rfl, rfl, _, rfl, ⟨(by unfold qLife; (repeat (first | rw [if_pos (by omega)] | rw [if_neg (by omega)])) <;> try rfl), (xof_refl _ _)⟩⟩
  · skip
    have c8 := b2i_ne0.mp c8
    refine x_iconst G (by decide) dX6_lifeOf_11 ?_
    exact x_iret G Rt dX6_lifeOf_12 ⟨rfl, rfl, _, rfl, ⟨(by unfold qLife; (repeat (first | rw [if_pos (by omega)] | rw [if_neg (by omega)])) <;> try rfl), (xof_refl _ _)⟩⟩
set_option maxRecDepth 100000 in
set_option maxHeartbeats 4000000 in
theorem kX6_aheadInSample (D : xD) (l : Launch) {n : Nat} {T : xT} {M : xM} (V : xM) (i : Int) (hY : LayOK n T) (hV : shw M 1 V) (hv : VOK V) (hs : Srt V (V 10) (V 0 10).toNat) (hi : 0 ≤ i ∧ i < V 0 10) : xC D l uX6_aheadInSample 4 91 0 0 [xR 0, xI i] n T M (xPI n T (fun z M2 => z = qPl (smL V (V 4 i.toNat)) i.toNat ∧ xof [3, 4, 162, 163, 164, 165, 166, 167] M M2)) := by
  refine x_met uX6_aheadInSample (by decide) (Nat.le_of_ble_eq_true rfl) ?_
  intro Γ G Rt _
  have G : xG Γ RX6 cX6_aheadInSample 3 4 91 0 0 := G
  have Rt : xRt Γ (xPI n T (fun z M2 => z = qPl (smL V (V 4 i.toNat)) i.toNat ∧ xof [3, 4, 162, 163, 164, 165, 166, 167] M M2)) (some .int) 0 0 := Rt
  show xX Γ 0 0 n T 0 [(0, xR 0), (1, xI i)] [] M
  have hc := ok_c hv
  have hit := ok_i hv hi.1 hi.2
  refine x_aload_n G 0 rfl rfl dX6_aheadInSample_0 ?_
  refine x_get G (xR 162) xf6_4 lk_X6_37 (ly_n hY 0 (by decide)) (ly_k hY 0 (by decide)) (Or.inr ⟨rfl, _, (ly_r hY 0 4 (by decide) (by decide)), rfl⟩) dX6_aheadInSample_1 ?_
  refine x_aload_n G 0 rfl rfl dX6_aheadInSample_4 ?_
  refine x_get G (xR 1) xf6_0 lk_X6_10 (ly_n hY 0 (by decide)) (ly_k hY 0 (by decide)) (Or.inr ⟨rfl, _, (ly_r hY 0 0 (by decide) (by decide)), rfl⟩) dX6_aheadInSample_5 ?_
  refine x_aload_n G 0 rfl rfl dX6_aheadInSample_8 ?_
  refine x_get G (xR 1) xf6_0 lk_X6_10 (ly_n hY 0 (by decide)) (ly_k hY 0 (by decide)) (Or.inr ⟨rfl, _, (ly_r hY 0 0 (by decide) (by decide)), rfl⟩) dX6_aheadInSample_9 ?_
  refine x_get G (xR (1 + 4)) xf3_1 lk_X6_133 (st_n (ly_st1 hY) 0 (by decide)) (st_k (ly_st1 hY) 0 (by decide)) (Or.inr ⟨rfl, _, (st_r (ly_st1 hY) 0 1 (by decide) (by decide)), rfl⟩) dX6_aheadInSample_12 ?_
  refine x_iload_n G 1 rfl rfl dX6_aheadInSample_15 ?_
  refine x_iald G (st_n (ly_st1 hY) 4 (by decide)) (st_k (ly_st1 hY) 4 (by decide)) (show _ = 100 from st_l (ly_st1 hY) 4 (by decide)) (by omega) (by omega) dX6_aheadInSample_16 ?_
  rw [show M (1 + 4) i.toNat = (V 4 i.toNat) from (congrFun (hV 4 (by decide) (by decide) (by decide)) i.toNat)]
  refine x_callVV G [] [xR 1, xI (V 4 i.toNat)] rfl (by decide) (sa_n (ly_sa162 hY) 0 (by decide)) (sa_k (ly_sa162 hY) 0 (by decide)) hy_X2_take hi_X2_take hs_X2_take ml_X6_150 rfl rfl (kX2_take _ _ 162 1 V (V 4 i.toNat) (ly_sa162 hY) (ly_st1 hY) (by omega) hV hv (by omega) hs) (by decide) (by decide) (Nat.le_of_ble_eq_true rfl) dX6_aheadInSample_17 (fun M17 h17 => ?_)
  have hsm17 : Smp M17 162 V (smL V (V 4 i.toNat)) := by
      have e9 := h17.1
      rw [tkL_eq hv hs (by omega)] at e9
      exact e9
  have hn17 := hsm17.1
  have hl17 : (smL V (V 4 i.toNat)).length ≤ 100 := take_len (alL_len hv _ _ _ _)
  refine x_aload_n G 0 rfl rfl dX6_aheadInSample_20 ?_
  refine x_get G (xR 162) xf6_4 lk_X6_37 (ly_n hY 0 (by decide)) (ly_k hY 0 (by decide)) (Or.inr ⟨rfl, _, (ly_r hY 0 4 (by decide) (by decide)), rfl⟩) dX6_aheadInSample_21 ?_
  refine x_iload_n G 1 rfl rfl dX6_aheadInSample_24 ?_
  refine x_callVp G [] [xI i] rfl (by decide) (sa_n (ly_sa162 hY) 0 (by decide)) (sa_k (ly_sa162 hY) 0 (by decide)) hy_X2_placeOf hi_X2_placeOf hs_X2_placeOf ml_X6_157 rfl rfl (kX2_placeOf _ _ 162 V (smL V (V 4 i.toNat)) i (ly_sa162 hY) hsm17 (take_len (alL_len hv _ _ _ _)) (by omega)) (by decide) (by decide) (Nat.le_of_ble_eq_true rfl) dX6_aheadInSample_25 ?_
  refine x_istore_n G [(2, xI (plc (smL V (V 4 i.toNat)) i.toNat)), (0, xR 0), (1, xI i)] rfl (by decide) rfl dX6_aheadInSample_28 ?_
  refine x_iload_n G 0 rfl rfl dX6_aheadInSample_29 ?_
  refine x_iconst G (by decide) dX6_aheadInSample_30 ?_
  refine x_icmp_ne G 39 (by decide) dX6_aheadInSample_31 (fun c31 => ?_) (fun c31 => ?_)
  · skip
    refine x_iload_n G 0 rfl rfl dX6_aheadInSample_39 ?_
    exact x_iret G Rt dX6_aheadInSample_40 ⟨rfl, rfl, _, rfl, ⟨(by rw [plc_q]; (repeat (first | rw [if_pos (by omega)] | rw [if_neg (by omega)])) <;> try rfl), (xof_trans (xof_refl _ _) (xof_mono h17.2.2 (by decide)))⟩⟩
  · skip
    refine x_bipush G (by decide) dX6_aheadInSample_34 ?_
    refine x_goto G 40 (by decide) dX6_aheadInSample_36 ?_
    exact x_iret G Rt dX6_aheadInSample_40 ⟨rfl, rfl, _, rfl, ⟨(by rw [plc_q]; (repeat (first | rw [if_pos (by omega)] | rw [if_neg (by omega)])) <;> try rfl), (xof_trans (xof_refl _ _) (xof_mono h17.2.2 (by decide)))⟩⟩
set_option maxRecDepth 100000 in
set_option maxHeartbeats 4000000 in
theorem kX6_aheadOfAlive (D : xD) (l : Launch) {n : Nat} {T : xT} {M : xM} (V : xM) (i : Int) (hY : LayOK n T) (hV : shw M 1 V) (hv : VOK V) (hs : Srt V (V 10) (V 0 10).toNat) (hi : 0 ≤ i ∧ i < V 0 10) : xC D l uX6_aheadOfAlive 3 69 0 0 [xR 0, xI i] n T M (xPI n T (fun z M2 => z = qPl (alL V (V 4 i.toNat) (V 0 11) (V 12 (V 4 i.toNat).toNat) (V 0 10)) i.toNat ∧ xof [3, 4, 162, 163, 164, 165, 166, 167] M M2)) := by
  refine x_met uX6_aheadOfAlive (by decide) (Nat.le_of_ble_eq_true rfl) ?_
  intro Γ G Rt _
  have G : xG Γ RX6 cX6_aheadOfAlive 3 3 69 0 0 := G
  have Rt : xRt Γ (xPI n T (fun z M2 => z = qPl (alL V (V 4 i.toNat) (V 0 11) (V 12 (V 4 i.toNat).toNat) (V 0 10)) i.toNat ∧ xof [3, 4, 162, 163, 164, 165, 166, 167] M M2)) (some .int) 0 0 := Rt
  show xX Γ 0 0 n T 0 [(0, xR 0), (1, xI i)] [] M
  have hc := ok_c hv
  have hit := ok_i hv hi.1 hi.2
  have hsc := hv.1
  refine x_aload_n G 0 rfl rfl dX6_aheadOfAlive_0 ?_
  refine x_get G (xR 162) xf6_4 lk_X6_37 (ly_n hY 0 (by decide)) (ly_k hY 0 (by decide)) (Or.inr ⟨rfl, _, (ly_r hY 0 4 (by decide) (by decide)), rfl⟩) dX6_aheadOfAlive_1 ?_
  refine x_aload_n G 0 rfl rfl dX6_aheadOfAlive_4 ?_
  refine x_get G (xR 1) xf6_0 lk_X6_10 (ly_n hY 0 (by decide)) (ly_k hY 0 (by decide)) (Or.inr ⟨rfl, _, (ly_r hY 0 0 (by decide) (by decide)), rfl⟩) dX6_aheadOfAlive_5 ?_
  refine x_aload_n G 0 rfl rfl dX6_aheadOfAlive_8 ?_
  refine x_get G (xR 1) xf6_0 lk_X6_10 (ly_n hY 0 (by decide)) (ly_k hY 0 (by decide)) (Or.inr ⟨rfl, _, (ly_r hY 0 0 (by decide) (by decide)), rfl⟩) dX6_aheadOfAlive_9 ?_
  refine x_get G (xR (1 + 4)) xf3_1 lk_X6_133 (st_n (ly_st1 hY) 0 (by decide)) (st_k (ly_st1 hY) 0 (by decide)) (Or.inr ⟨rfl, _, (st_r (ly_st1 hY) 0 1 (by decide) (by decide)), rfl⟩) dX6_aheadOfAlive_12 ?_
  refine x_iload_n G 1 rfl rfl dX6_aheadOfAlive_15 ?_
  refine x_iald G (st_n (ly_st1 hY) 4 (by decide)) (st_k (ly_st1 hY) 4 (by decide)) (show _ = 100 from st_l (ly_st1 hY) 4 (by decide)) (by omega) (by omega) dX6_aheadOfAlive_16 ?_
  rw [show M (1 + 4) i.toNat = (V 4 i.toNat) from (congrFun (hV 4 (by decide) (by decide) (by decide)) i.toNat)]
  refine x_callVV G [] [xR 1, xI (V 4 i.toNat)] rfl (by decide) (sa_n (ly_sa162 hY) 0 (by decide)) (sa_k (ly_sa162 hY) 0 (by decide)) hy_X2_ask hi_X2_ask hs_X2_ask ml_X6_208 rfl rfl (kX2_ask _ _ 162 1 V (V 4 i.toNat) (ly_sa162 hY) (ly_st1 hY) (by omega) hV hv (by omega)) (by decide) (by decide) (Nat.le_of_ble_eq_true rfl) dX6_aheadOfAlive_17 (fun M17 h17 => ?_)
  have hbp17 : 1 ≤ (2 : Int) ^ ((V 4 i.toNat) : Int).toNat ∧ (2 : Int) ^ ((V 4 i.toNat) : Int).toNat ≤ 8 := two_b (by omega)
  refine x_aload_n G 0 rfl rfl dX6_aheadOfAlive_20 ?_
  refine x_get G (xR 162) xf6_4 lk_X6_37 (ly_n hY 0 (by decide)) (ly_k hY 0 (by decide)) (Or.inr ⟨rfl, _, (ly_r hY 0 4 (by decide) (by decide)), rfl⟩) dX6_aheadOfAlive_21 ?_
  refine x_bipush G (by decide) dX6_aheadOfAlive_24 ?_
  refine x_put G  xf2_4 lk_X6_211 (sa_n (ly_sa162 hY) 0 (by decide)) (sa_k (ly_sa162 hY) 0 (by decide)) rfl dX6_aheadOfAlive_26 ?_
  refine x_aload_n G 0 rfl rfl dX6_aheadOfAlive_29 ?_
  refine x_get G (xR 162) xf6_4 lk_X6_37 (ly_n hY 0 (by decide)) (ly_k hY 0 (by decide)) (Or.inr ⟨rfl, _, (ly_r hY 0 4 (by decide) (by decide)), rfl⟩) dX6_aheadOfAlive_30 ?_
  refine x_aload_n G 0 rfl rfl dX6_aheadOfAlive_33 ?_
  refine x_get G (xR 1) xf6_0 lk_X6_10 (ly_n hY 0 (by decide)) (ly_k hY 0 (by decide)) (Or.inr ⟨rfl, _, (ly_r hY 0 0 (by decide) (by decide)), rfl⟩) dX6_aheadOfAlive_34 ?_
  refine x_callVV G [] [xR 1] rfl (by decide) (sa_n (ly_sa162 hY) 0 (by decide)) (sa_k (ly_sa162 hY) 0 (by decide)) hy_X2_fill hi_X2_fill hs_X2_fill ml_X6_214 rfl rfl (kX2_fill _ _ 162 1 V (2 ^ ((V 4 i.toNat) : Int).toNat) 100 (V 0 11) 100 (-1) 100 (ly_sa162 hY) (ly_st1 hY) (by omega) (shw_st (shw_xof hV h17.2 (by intro k9 h1 h2 h3; simp <;> omega)) (by omega)) hv (ask_s4 h17.1) (by omega) (by omega) hs) (by decide) (by decide) (Nat.le_of_ble_eq_true rfl) dX6_aheadOfAlive_37 (fun M37 h37 => ?_)
  have hsm37 : Smp M37 162 V (alL V (V 4 i.toNat) (V 0 11) (V 12 (V 4 i.toNat).toNat) (V 0 10)) := by
    have e9 := h37.1
    rw [fil_all hv hs hit.1 (Int.le_refl 100)] at e9
    exact e9
  have hn37 := hsm37.1
  have hl37 : (alL V (V 4 i.toNat) (V 0 11) (V 12 (V 4 i.toNat).toNat) (V 0 10)).length ≤ 100 := by
    rw [← fil_all hv hs hit.1 (Int.le_refl 100)]
    exact fil_len2 hv _ _ _
  refine x_aload_n G 0 rfl rfl dX6_aheadOfAlive_40 ?_
  refine x_get G (xR 162) xf6_4 lk_X6_37 (ly_n hY 0 (by decide)) (ly_k hY 0 (by decide)) (Or.inr ⟨rfl, _, (ly_r hY 0 4 (by decide) (by decide)), rfl⟩) dX6_aheadOfAlive_41 ?_
  refine x_iload_n G 1 rfl rfl dX6_aheadOfAlive_44 ?_
  refine x_callVp G [] [xI i] rfl (by decide) (sa_n (ly_sa162 hY) 0 (by decide)) (sa_k (ly_sa162 hY) 0 (by decide)) hy_X2_placeOf hi_X2_placeOf hs_X2_placeOf ml_X6_157 rfl rfl (kX2_placeOf _ _ 162 V (alL V (V 4 i.toNat) (V 0 11) (V 12 (V 4 i.toNat).toNat) (V 0 10)) i (ly_sa162 hY) hsm37 hl37 (by omega)) (by decide) (by decide) (Nat.le_of_ble_eq_true rfl) dX6_aheadOfAlive_45 ?_
  refine x_istore_n G [(2, xI (plc (alL V (V 4 i.toNat) (V 0 11) (V 12 (V 4 i.toNat).toNat) (V 0 10)) i.toNat)), (0, xR 0), (1, xI i)] rfl (by decide) rfl dX6_aheadOfAlive_48 ?_
  refine x_iload_n G 0 rfl rfl dX6_aheadOfAlive_49 ?_
  refine x_iconst G (by decide) dX6_aheadOfAlive_50 ?_
  refine x_icmp_ne G 59 (by decide) dX6_aheadOfAlive_51 (fun c51 => ?_) (fun c51 => ?_)
  · skip
    refine x_iload_n G 0 rfl rfl dX6_aheadOfAlive_59 ?_
    exact x_iret G Rt dX6_aheadOfAlive_60 ⟨rfl, rfl, _, rfl, ⟨(by rw [plc_q]; (repeat (first | rw [if_pos (by omega)] | rw [if_neg (by omega)])) <;> try rfl), (xof_trans (xof_trans (xof_trans (xof_refl _ _) (xof_mono h17.2 (by decide))) (xof_xst (by decide))) (xof_mono h37.2.2 (by decide)))⟩⟩
  · skip
    refine x_bipush G (by decide) dX6_aheadOfAlive_54 ?_
    refine x_goto G 60 (by decide) dX6_aheadOfAlive_56 ?_
    exact x_iret G Rt dX6_aheadOfAlive_60 ⟨rfl, rfl, _, rfl, ⟨(by rw [plc_q]; (repeat (first | rw [if_pos (by omega)] | rw [if_neg (by omega)])) <;> try rfl), (xof_trans (xof_trans (xof_trans (xof_refl _ _) (xof_mono h17.2 (by decide))) (xof_xst (by decide))) (xof_mono h37.2.2 (by decide)))⟩⟩
set_option maxRecDepth 100000 in
set_option maxHeartbeats 4000000 in
theorem kX6_of (D : xD) (l : Launch) {n : Nat} {T : xT} {M : xM} (V : xM) (i what : Int) (hY : LayOK n T) (hV : shw M 1 V) (hv : VOK V) (hs : Srt V (V 10) (V 0 10).toNat) : xC D l uX6_of 5 113 0 0 [xR 0, xI i, xI what] n T M (xPI n T (fun z M2 => z = qOf V i what ∧ xof [3, 4, 162, 163, 164, 165, 166, 167] M M2)) := by
  refine x_met uX6_of (by decide) (Nat.le_of_ble_eq_true rfl) ?_
  intro Γ G Rt _
  have G : xG Γ RX6 cX6_of 3 5 113 0 0 := G
  have Rt : xRt Γ (xPI n T (fun z M2 => z = qOf V i what ∧ xof [3, 4, 162, 163, 164, 165, 166, 167] M M2)) (some .int) 0 0 := Rt
  show xX Γ 0 0 n T 0 [(0, xR 0), (1, xI i), (2, xI what)] [] M
  have hc := ok_c hv
  refine x_aload_n G 0 rfl rfl dX6_of_0 ?_
  refine x_get G (xR 1) xf6_0 lk_X6_10 (ly_n hY 0 (by decide)) (ly_k hY 0 (by decide)) (Or.inr ⟨rfl, _, (ly_r hY 0 0 (by decide) (by decide)), rfl⟩) dX6_of_1 ?_
  refine x_iload_n G 1 rfl rfl dX6_of_4 ?_
  refine x_callVp G [] [xI i] rfl (by decide) (st_n (ly_st1 hY) 0 (by decide)) (st_k (ly_st1 hY) 0 (by decide)) hy_X3_hasItem hi_X3_hasItem hs_X3_hasItem ml_X6_187 rfl rfl (kX3_hasItem _ _ 1 V i (ly_st1 hY) hV hv) (by decide) (by decide) (Nat.le_of_ble_eq_true rfl) dX6_of_5 ?_
  refine x_if_ne G 13 (by decide) dX6_of_8 (fun c8 => ?_) (fun c8 => ?_)
  · skip
    have c8 := b2i_ne0.mp c8
    have hit := ok_i hv (i := i) (by omega) (by omega)
    refine x_iload_n G 2 rfl rfl dX6_of_13 ?_
    by_cases k14_0 : what = 0
    · refine x_tabIn G 60 (by omega) (by omega) (by rw [k14_0]; rfl) (by decide) dX6_of_14 ?_
      refine x_aload_n G 0 rfl rfl dX6_of_60 ?_
      refine x_get G (xR 1) xf6_0 lk_X6_10 (ly_n hY 0 (by decide)) (ly_k hY 0 (by decide)) (Or.inr ⟨rfl, _, (ly_r hY 0 0 (by decide) (by decide)), rfl⟩) dX6_of_61 ?_
      refine x_get G (xR (1 + 4)) xf3_1 lk_X6_133 (st_n (ly_st1 hY) 0 (by decide)) (st_k (ly_st1 hY) 0 (by decide)) (Or.inr ⟨rfl, _, (st_r (ly_st1 hY) 0 1 (by decide) (by decide)), rfl⟩) dX6_of_64 ?_
      refine x_iload_n G 1 rfl rfl dX6_of_67 ?_
      refine x_iald G (st_n (ly_st1 hY) 4 (by decide)) (st_k (ly_st1 hY) 4 (by decide)) (show _ = 100 from st_l (ly_st1 hY) 4 (by decide)) (by omega) (by omega) dX6_of_68 ?_
      rw [show M (1 + 4) i.toNat = (V 4 i.toNat) from (congrFun (hV 4 (by decide) (by decide) (by decide)) i.toNat)]
      exact x_iret G Rt dX6_of_69 ⟨rfl, rfl, _, rfl, ⟨(by unfold qOf; (repeat (first | rw [if_pos (by omega)] | rw [if_neg (by omega)])) <;> try rfl), (xof_refl _ _)⟩⟩
    by_cases k14_1 : what = 1
    · refine x_tabIn G 70 (by omega) (by omega) (by rw [k14_1]; rfl) (by decide) dX6_of_14 ?_
      refine x_aload_n G 0 rfl rfl dX6_of_70 ?_
      refine x_get G (xR 1) xf6_0 lk_X6_10 (ly_n hY 0 (by decide)) (ly_k hY 0 (by decide)) (Or.inr ⟨rfl, _, (ly_r hY 0 0 (by decide) (by decide)), rfl⟩) dX6_of_71 ?_
      refine x_get G (xR (1 + 5)) xf3_2 lk_X6_147 (st_n (ly_st1 hY) 0 (by decide)) (st_k (ly_st1 hY) 0 (by decide)) (Or.inr ⟨rfl, _, (st_r (ly_st1 hY) 0 2 (by decide) (by decide)), rfl⟩) dX6_of_74 ?_
      refine x_iload_n G 1 rfl rfl dX6_of_77 ?_
      refine x_iald G (st_n (ly_st1 hY) 5 (by decide)) (st_k (ly_st1 hY) 5 (by decide)) (show _ = 100 from st_l (ly_st1 hY) 5 (by decide)) (by omega) (by omega) dX6_of_78 ?_
      rw [show M (1 + 5) i.toNat = (V 5 i.toNat) from (congrFun (hV 5 (by decide) (by decide) (by decide)) i.toNat)]
      exact x_iret G Rt dX6_of_79 ⟨rfl, rfl, _, rfl, ⟨(by unfold qOf; (repeat (first | rw [if_pos (by omega)] | rw [if_neg (by omega)])) <;> try rfl), (xof_refl _ _)⟩⟩
    by_cases k14_2 : what = 2
    · refine x_tabIn G 80 (by omega) (by omega) (by rw [k14_2]; rfl) (by decide) dX6_of_14 ?_
      refine x_aload_n G 0 rfl rfl dX6_of_80 ?_
      refine x_get G (xR 1) xf6_0 lk_X6_10 (ly_n hY 0 (by decide)) (ly_k hY 0 (by decide)) (Or.inr ⟨rfl, _, (ly_r hY 0 0 (by decide) (by decide)), rfl⟩) dX6_of_81 ?_
      refine x_get G (xR (1 + 6)) xf3_3 lk_X6_123 (st_n (ly_st1 hY) 0 (by decide)) (st_k (ly_st1 hY) 0 (by decide)) (Or.inr ⟨rfl, _, (st_r (ly_st1 hY) 0 3 (by decide) (by decide)), rfl⟩) dX6_of_84 ?_
      refine x_iload_n G 1 rfl rfl dX6_of_87 ?_
      refine x_iald G (st_n (ly_st1 hY) 6 (by decide)) (st_k (ly_st1 hY) 6 (by decide)) (show _ = 100 from st_l (ly_st1 hY) 6 (by decide)) (by omega) (by omega) dX6_of_88 ?_
      rw [show M (1 + 6) i.toNat = (V 6 i.toNat) from (congrFun (hV 6 (by decide) (by decide) (by decide)) i.toNat)]
      exact x_iret G Rt dX6_of_89 ⟨rfl, rfl, _, rfl, ⟨(by unfold qOf; (repeat (first | rw [if_pos (by omega)] | rw [if_neg (by omega)])) <;> try rfl), (xof_refl _ _)⟩⟩
    by_cases k14_3 : what = 3
    · refine x_tabIn G 90 (by omega) (by omega) (by rw [k14_3]; rfl) (by decide) dX6_of_14 ?_
      refine x_aload_n G 0 rfl rfl dX6_of_90 ?_
      refine x_get G (xR 1) xf6_0 lk_X6_10 (ly_n hY 0 (by decide)) (ly_k hY 0 (by decide)) (Or.inr ⟨rfl, _, (ly_r hY 0 0 (by decide) (by decide)), rfl⟩) dX6_of_91 ?_
      refine x_get G (xR (1 + 7)) xf3_4 lk_X6_126 (st_n (ly_st1 hY) 0 (by decide)) (st_k (ly_st1 hY) 0 (by decide)) (Or.inr ⟨rfl, _, (st_r (ly_st1 hY) 0 4 (by decide) (by decide)), rfl⟩) dX6_of_94 ?_
      refine x_iload_n G 1 rfl rfl dX6_of_97 ?_
      refine x_iald G (st_n (ly_st1 hY) 7 (by decide)) (st_k (ly_st1 hY) 7 (by decide)) (show _ = 100 from st_l (ly_st1 hY) 7 (by decide)) (by omega) (by omega) dX6_of_98 ?_
      rw [show M (1 + 7) i.toNat = (V 7 i.toNat) from (congrFun (hV 7 (by decide) (by decide) (by decide)) i.toNat)]
      exact x_iret G Rt dX6_of_99 ⟨rfl, rfl, _, rfl, ⟨(by unfold qOf; (repeat (first | rw [if_pos (by omega)] | rw [if_neg (by omega)])) <;> try rfl), (xof_refl _ _)⟩⟩
    by_cases k14_4 : what = 4
    · refine x_tabIn G 100 (by omega) (by omega) (by rw [k14_4]; rfl) (by decide) dX6_of_14 ?_
      refine x_aload_n G 0 rfl rfl dX6_of_100 ?_
      refine x_get G (xR 1) xf6_0 lk_X6_10 (ly_n hY 0 (by decide)) (ly_k hY 0 (by decide)) (Or.inr ⟨rfl, _, (ly_r hY 0 0 (by decide) (by decide)), rfl⟩) dX6_of_101 ?_
      refine x_get G (xR (1 + 8)) xf3_5 lk_X6_190 (st_n (ly_st1 hY) 0 (by decide)) (st_k (ly_st1 hY) 0 (by decide)) (Or.inr ⟨rfl, _, (st_r (ly_st1 hY) 0 5 (by decide) (by decide)), rfl⟩) dX6_of_104 ?_
      refine x_iload_n G 1 rfl rfl dX6_of_107 ?_
      refine x_iald G (st_n (ly_st1 hY) 8 (by decide)) (st_k (ly_st1 hY) 8 (by decide)) (show _ = 100 from st_l (ly_st1 hY) 8 (by decide)) (by omega) (by omega) dX6_of_108 ?_
      rw [show M (1 + 8) i.toNat = (V 8 i.toNat) from (congrFun (hV 8 (by decide) (by decide) (by decide)) i.toNat)]
      exact x_iret G Rt dX6_of_109 ⟨rfl, rfl, _, rfl, ⟨(by unfold qOf; (repeat (first | rw [if_pos (by omega)] | rw [if_neg (by omega)])) <;> try rfl), (xof_refl _ _)⟩⟩
    by_cases k14_5 : what = 5
    · refine x_tabIn G 110 (by omega) (by omega) (by rw [k14_5]; rfl) (by decide) dX6_of_14 ?_
      refine x_aload_n G 0 rfl rfl dX6_of_110 ?_
      refine x_iload_n G 1 rfl rfl dX6_of_111 ?_
      refine x_callVI G [] [xI i] rfl (by decide) (ly_n hY 0 (by decide)) (ly_k hY 0 (by decide)) hy_X6_lifeOf hi_X6_lifeOf hs_X6_lifeOf ml_X6_193 rfl rfl (kX6_lifeOf _ _ V i hY hV hv hs (by omega)) (by decide) (by decide) (Nat.le_of_ble_eq_true rfl) dX6_of_112 (fun z112 M112 h112 => ?_)
      rw [h112.1]
      exact x_iret G Rt dX6_of_115 ⟨rfl, rfl, _, rfl, ⟨(by unfold qOf; (repeat (first | rw [if_pos (by omega)] | rw [if_neg (by omega)])) <;> try rfl), (xof_trans (xof_refl _ _) (xof_mono h112.2 (by decide)))⟩⟩
    by_cases k14_6 : what = 6
    · refine x_tabIn G 116 (by omega) (by omega) (by rw [k14_6]; rfl) (by decide) dX6_of_14 ?_
      refine x_aload_n G 0 rfl rfl dX6_of_116 ?_
      refine x_iload_n G 1 rfl rfl dX6_of_117 ?_
      refine x_callVI G [] [xI i] rfl (by decide) (ly_n hY 0 (by decide)) (ly_k hY 0 (by decide)) hy_X6_aheadInSample hi_X6_aheadInSample hs_X6_aheadInSample ml_X6_196 rfl rfl (kX6_aheadInSample _ _ V i hY hV hv hs (by omega)) (by decide) (by decide) (Nat.le_of_ble_eq_true rfl) dX6_of_118 (fun z118 M118 h118 => ?_)
      rw [h118.1]
      exact x_iret G Rt dX6_of_121 ⟨rfl, rfl, _, rfl, ⟨(by unfold qOf; (repeat (first | rw [if_pos (by omega)] | rw [if_neg (by omega)])) <;> try rfl), (xof_trans (xof_refl _ _) (xof_mono h118.2 (by decide)))⟩⟩
    by_cases k14_7 : what = 7
    · refine x_tabIn G 122 (by omega) (by omega) (by rw [k14_7]; rfl) (by decide) dX6_of_14 ?_
      refine x_aload_n G 0 rfl rfl dX6_of_122 ?_
      refine x_iload_n G 1 rfl rfl dX6_of_123 ?_
      refine x_callVI G [] [xI i] rfl (by decide) (ly_n hY 0 (by decide)) (ly_k hY 0 (by decide)) hy_X6_aheadOfAlive hi_X6_aheadOfAlive hs_X6_aheadOfAlive ml_X6_199 rfl rfl (kX6_aheadOfAlive _ _ V i hY hV hv hs (by omega)) (by decide) (by decide) (Nat.le_of_ble_eq_true rfl) dX6_of_124 (fun z124 M124 h124 => ?_)
      rw [h124.1]
      exact x_iret G Rt dX6_of_127 ⟨rfl, rfl, _, rfl, ⟨(by unfold qOf; (repeat (first | rw [if_pos (by omega)] | rw [if_neg (by omega)])) <;> try rfl), (xof_trans (xof_refl _ _) (xof_mono h124.2 (by decide)))⟩⟩
    refine x_tabOut G 128 (by omega) (by decide) dX6_of_14 ?_
    refine x_iconst G (by decide) dX6_of_128 ?_
    exact x_iret G Rt dX6_of_129 ⟨rfl, rfl, _, rfl, ⟨(by unfold qOf; (repeat (first | rw [if_pos (by omega)] | rw [if_neg (by omega)])) <;> try rfl), (xof_refl _ _)⟩⟩
  · skip
    have c8 := b2i_eq0.mp c8
    refine x_iconst G (by decide) dX6_of_11 ?_
    exact x_iret G Rt dX6_of_12 ⟨rfl, rfl, _, rfl, ⟨(by unfold qOf; (repeat (first | rw [if_pos (by omega)] | rw [if_neg (by omega)])) <;> try rfl), (xof_refl _ _)⟩⟩
set_option maxRecDepth 100000 in
set_option maxHeartbeats 4000000 in
theorem kX6_order (D : xD) (l : Launch) {n : Nat} {T : xT} {M : xM} (V : xM) (i j : Int) (hY : LayOK n T) (hV : shw M 1 V) (hv : VOK V) (hs : Srt V (V 10) (V 0 10).toNat) : xC D l uX6_order 5 114 0 0 [xR 0, xI i, xI j] n T M (xPI n T (fun z M2 => z = qOrd V i j ∧ xof [3, 4, 162, 163, 164, 165, 166, 167] M M2)) := by
  refine x_met uX6_order (by decide) (Nat.le_of_ble_eq_true rfl) ?_
  intro Γ G Rt _
  have G : xG Γ RX6 cX6_order 4 5 114 0 0 := G
  have Rt : xRt Γ (xPI n T (fun z M2 => z = qOrd V i j ∧ xof [3, 4, 162, 163, 164, 165, 166, 167] M M2)) (some .int) 0 0 := Rt
  show xX Γ 0 0 n T 0 [(0, xR 0), (1, xI i), (2, xI j)] [] M
  have hc := ok_c hv
  refine x_aload_n G 0 rfl rfl dX6_order_0 ?_
  refine x_get G (xR 1) xf6_0 lk_X6_10 (ly_n hY 0 (by decide)) (ly_k hY 0 (by decide)) (Or.inr ⟨rfl, _, (ly_r hY 0 0 (by decide) (by decide)), rfl⟩) dX6_order_1 ?_
  refine x_iload_n G 1 rfl rfl dX6_order_4 ?_
  refine x_callVp G [] [xI i] rfl (by decide) (st_n (ly_st1 hY) 0 (by decide)) (st_k (ly_st1 hY) 0 (by decide)) hy_X3_hasItem hi_X3_hasItem hs_X3_hasItem ml_X6_187 rfl rfl (kX3_hasItem _ _ 1 V i (ly_st1 hY) hV hv) (by decide) (by decide) (Nat.le_of_ble_eq_true rfl) dX6_order_5 ?_
  refine x_if_eq G 22 (by decide) dX6_order_8 (fun c8 => ?_) (fun c8 => ?_)
  · skip
    have c8 := b2i_eq0.mp c8
    refine x_iconst G (by decide) dX6_order_22 ?_
    exact x_iret G Rt dX6_order_23 ⟨rfl, rfl, _, rfl, ⟨(by unfold qOrd; (repeat (first | rw [if_pos (by omega)] | rw [if_neg (by omega)])) <;> try rfl), (xof_refl _ _)⟩⟩
  · skip
    have c8 := b2i_ne0.mp c8
    refine x_aload_n G 0 rfl rfl dX6_order_11 ?_
    refine x_get G (xR 1) xf6_0 lk_X6_10 (ly_n hY 0 (by decide)) (ly_k hY 0 (by decide)) (Or.inr ⟨rfl, _, (ly_r hY 0 0 (by decide) (by decide)), rfl⟩) dX6_order_12 ?_
    refine x_iload_n G 2 rfl rfl dX6_order_15 ?_
    refine x_callVp G [] [xI j] rfl (by decide) (st_n (ly_st1 hY) 0 (by decide)) (st_k (ly_st1 hY) 0 (by decide)) hy_X3_hasItem hi_X3_hasItem hs_X3_hasItem ml_X6_187 rfl rfl (kX3_hasItem _ _ 1 V j (ly_st1 hY) hV hv) (by decide) (by decide) (Nat.le_of_ble_eq_true rfl) dX6_order_16 ?_
    refine x_if_ne G 24 (by decide) dX6_order_19 (fun c19 => ?_) (fun c19 => ?_)
    · skip
      have c19 := b2i_ne0.mp c19
      refine x_aload_n G 0 rfl rfl dX6_order_24 ?_
      refine x_get G (xR 1) xf6_0 lk_X6_10 (ly_n hY 0 (by decide)) (ly_k hY 0 (by decide)) (Or.inr ⟨rfl, _, (ly_r hY 0 0 (by decide) (by decide)), rfl⟩) dX6_order_25 ?_
      refine x_iload_n G 1 rfl rfl dX6_order_28 ?_
      refine x_iload_n G 2 rfl rfl dX6_order_29 ?_
      refine x_callVI G [] [xI i, xI j] rfl (by decide) (st_n (ly_st1 hY) 0 (by decide)) (st_k (ly_st1 hY) 0 (by decide)) hy_X3_compareKeys hi_X3_compareKeys hs_X3_compareKeys ml_X6_202 rfl rfl (kX3_compareKeys _ _ 1 V i j (ly_st1 hY) hV hv (by omega) (by omega)) (by decide) (by decide) (Nat.le_of_ble_eq_true rfl) dX6_order_30 (fun z30 M30 h30 => ?_)
      rw [h30.1]
      refine x_istore_n G [(3, xI (kc (V 7 i.toNat) (V 6 i.toNat) (V 7 j.toNat) (V 6 j.toNat))), (0, xR 0), (1, xI i), (2, xI j)] rfl (by decide) rfl dX6_order_33 ?_
      refine x_iload_n G 0 rfl rfl dX6_order_34 ?_
      refine x_if_ne G 40 (by decide) dX6_order_35 (fun c35 => ?_) (fun c35 => ?_)
      · skip
        refine x_iload_n G 0 rfl rfl dX6_order_40 ?_
        refine x_if_le G 48 (by decide) dX6_order_41 (fun c41 => ?_) (fun c41 => ?_)
        · skip
          refine x_iconst G (by decide) dX6_order_48 ?_
          exact x_iret G Rt dX6_order_49 ⟨rfl, rfl, _, rfl, ⟨(by unfold qOrd; (repeat (first | rw [if_pos (by omega)] | rw [if_neg (by omega)])) <;> try rfl), (xof_trans (xof_refl _ _) (xof_mono h30.2 (by decide)))⟩⟩
        · skip
          refine x_iconst G (by decide) dX6_order_44 ?_
          refine x_goto G 49 (by decide) dX6_order_45 ?_
          exact x_iret G Rt dX6_order_49 ⟨rfl, rfl, _, rfl, ⟨(by unfold qOrd; (repeat (first | rw [if_pos (by omega)] | rw [if_neg (by omega)])) <;> try rfl), (xof_trans (xof_refl _ _) (xof_mono h30.2 (by decide)))⟩⟩
      · skip
        refine x_iconst G (by decide) dX6_order_38 ?_
        exact x_iret G Rt dX6_order_39 ⟨rfl, rfl, _, rfl, ⟨(by unfold qOrd; (repeat (first | rw [if_pos (by omega)] | rw [if_neg (by omega)])) <;> try rfl), (xof_trans (xof_refl _ _) (xof_mono h30.2 (by decide)))⟩⟩
    · skip
      have c19 := b2i_eq0.mp c19
      refine x_iconst G (by decide) dX6_order_22 ?_
      exact x_iret G Rt dX6_order_23 ⟨rfl, rfl, _, rfl, ⟨(by unfold qOrd; (repeat (first | rw [if_pos (by omega)] | rw [if_neg (by omega)])) <;> try rfl), (xof_refl _ _)⟩⟩
set_option maxRecDepth 100000 in
set_option maxHeartbeats 4000000 in
theorem kX6_sample (D : xD) (l : Launch) {n : Nat} {T : xT} {M : xM} (V : xM) (sh k : Int) (hY : LayOK n T) (hV : shw M 1 V) (hv : VOK V) (hs : Srt V (V 10) (V 0 10).toNat) : xC D l uX6_sample 4 91 0 0 [xR 0, xI sh, xI k] n T M (xPI n T (fun z M2 => z = qSample V sh k ∧ xof [3, 4, 162, 163, 164, 165, 166, 167] M M2)) := by
  refine x_met uX6_sample (by decide) (Nat.le_of_ble_eq_true rfl) ?_
  intro Γ G Rt _
  have G : xG Γ RX6 cX6_sample 3 4 91 0 0 := G
  have Rt : xRt Γ (xPI n T (fun z M2 => z = qSample V sh k ∧ xof [3, 4, 162, 163, 164, 165, 166, 167] M M2)) (some .int) 0 0 := Rt
  show xX Γ 0 0 n T 0 [(0, xR 0), (1, xI sh), (2, xI k)] [] M
  have hc := ok_c hv
  refine x_iload_n G 1 rfl rfl dX6_sample_0 ?_
  refine x_callSp G [] [xI sh] hy_X6_isShard ht_X6_isShard ml_X6_86 rfl rfl (kX6_isShard _ _ sh) (by decide) (by decide) (Nat.le_of_ble_eq_true rfl) dX6_sample_1 ?_
  refine x_if_eq G 12 (by decide) dX6_sample_4 (fun c4 => ?_) (fun c4 => ?_)
  · skip
    have c4 := b2i_eq0.mp c4
    refine x_iconst G (by decide) dX6_sample_12 ?_
    exact x_iret G Rt dX6_sample_13 ⟨rfl, rfl, _, rfl, ⟨(by unfold qSample; (repeat (first | rw [if_pos (by omega)] | rw [if_neg (by omega)])) <;> try rfl), (xof_refl _ _)⟩⟩
  · skip
    have c4 := b2i_ne0.mp c4
    refine x_iload_n G 2 rfl rfl dX6_sample_7 ?_
    refine x_iconst G (by decide) dX6_sample_8 ?_
    refine x_icmp_ge G 14 (by decide) dX6_sample_9 (fun c9 => ?_) (fun c9 => ?_)
    · skip
      refine x_aload_n G 0 rfl rfl dX6_sample_14 ?_
      refine x_get G (xR 162) xf6_4 lk_X6_37 (ly_n hY 0 (by decide)) (ly_k hY 0 (by decide)) (Or.inr ⟨rfl, _, (ly_r hY 0 4 (by decide) (by decide)), rfl⟩) dX6_sample_15 ?_
      refine x_aload_n G 0 rfl rfl dX6_sample_18 ?_
      refine x_get G (xR 1) xf6_0 lk_X6_10 (ly_n hY 0 (by decide)) (ly_k hY 0 (by decide)) (Or.inr ⟨rfl, _, (ly_r hY 0 0 (by decide) (by decide)), rfl⟩) dX6_sample_19 ?_
      refine x_iload_n G 1 rfl rfl dX6_sample_22 ?_
      refine x_callVV G [] [xR 1, xI sh] rfl (by decide) (sa_n (ly_sa162 hY) 0 (by decide)) (sa_k (ly_sa162 hY) 0 (by decide)) hy_X2_take hi_X2_take hs_X2_take ml_X6_150 rfl rfl (kX2_take _ _ 162 1 V sh (ly_sa162 hY) (ly_st1 hY) (by omega) hV hv (by omega) hs) (by decide) (by decide) (Nat.le_of_ble_eq_true rfl) dX6_sample_23 (fun M23 h23 => ?_)
      have hsm23 : Smp M23 162 V (smL V sh) := by
          have e9 := h23.1
          rw [tkL_eq hv hs (by omega)] at e9
          exact e9
      have hn23 := hsm23.1
      have hl23 : (smL V sh).length ≤ 100 := take_len (alL_len hv _ _ _ _)
      refine x_aload_n G 0 rfl rfl dX6_sample_26 ?_
      refine x_get G (xR 162) xf6_4 lk_X6_37 (ly_n hY 0 (by decide)) (ly_k hY 0 (by decide)) (Or.inr ⟨rfl, _, (ly_r hY 0 4 (by decide) (by decide)), rfl⟩) dX6_sample_27 ?_
      refine x_iload_n G 2 rfl rfl dX6_sample_30 ?_
      refine x_callVp G [] [xI k] rfl (by decide) (sa_n (ly_sa162 hY) 0 (by decide)) (sa_k (ly_sa162 hY) 0 (by decide)) hy_X2_kth hi_X2_kth hs_X2_kth ml_X6_217 rfl rfl (kX2_kth _ _ 162 V (smL V sh) k (ly_sa162 hY) hsm23 (take_len (alL_len hv _ _ _ _))) (by decide) (by decide) (Nat.le_of_ble_eq_true rfl) dX6_sample_31 ?_
      exact x_iret G Rt dX6_sample_34 ⟨rfl, rfl, _, rfl, ⟨(by unfold qSample; (repeat (first | rw [if_pos (by omega)] | rw [if_neg (by omega)])) <;> try rfl), (xof_trans (xof_refl _ _) (xof_mono h23.2.2 (by decide)))⟩⟩
    · skip
      refine x_iconst G (by decide) dX6_sample_12 ?_
      exact x_iret G Rt dX6_sample_13 ⟨rfl, rfl, _, rfl, ⟨(by unfold qSample; (repeat (first | rw [if_pos (by omega)] | rw [if_neg (by omega)])) <;> try rfl), (xof_refl _ _)⟩⟩
theorem mod16 {s : Int} (h : 1 ≤ s ∧ s ≤ 15) : 0 ≤ s ∧ s < 16 := by omega
set_option maxRecDepth 100000 in
set_option maxHeartbeats 4000000 in
theorem kX6_takeMerged (D : xD) (l : Launch) {n : Nat} {T : xT} {M : xM} (V : xM) (set mo : Int) (hY : LayOK n T) (hV : shw M 1 V) (hv : VOK V) (hs : Srt V (V 10) (V 0 10).toNat) (h1 : 1 ≤ set ∧ set ≤ 15) : xC D l uX6_takeMerged 3 69 0 0 [xR 0, xI set, xI mo] n T M (xPV n T (fun M2 => Smp M2 162 V (meL V set mo) ∧ xof [3, 4, 162, 163, 164, 165, 166, 167] M M2)) := by
  refine x_met uX6_takeMerged (by decide) (Nat.le_of_ble_eq_true rfl) ?_
  intro Γ G Rt _
  have G : xG Γ RX6 cX6_takeMerged 3 3 69 0 0 := G
  have Rt : xRt Γ (xPV n T (fun M2 => Smp M2 162 V (meL V set mo) ∧ xof [3, 4, 162, 163, 164, 165, 166, 167] M M2)) none 0 0 := Rt
  show xX Γ 0 0 n T 0 [(0, xR 0), (1, xI set), (2, xI mo)] [] M
  have hsc := hv.1
  refine x_aload_n G 0 rfl rfl dX6_takeMerged_0 ?_
  refine x_get G (xR 162) xf6_4 lk_X6_37 (ly_n hY 0 (by decide)) (ly_k hY 0 (by decide)) (Or.inr ⟨rfl, _, (ly_r hY 0 4 (by decide) (by decide)), rfl⟩) dX6_takeMerged_1 ?_
  refine x_aload_n G 0 rfl rfl dX6_takeMerged_4 ?_
  refine x_get G (xR 1) xf6_0 lk_X6_10 (ly_n hY 0 (by decide)) (ly_k hY 0 (by decide)) (Or.inr ⟨rfl, _, (ly_r hY 0 0 (by decide) (by decide)), rfl⟩) dX6_takeMerged_5 ?_
  refine x_iconst G (by decide) dX6_takeMerged_8 ?_
  refine x_callVV G [] [xR 1, xI 0] rfl (by decide) (sa_n (ly_sa162 hY) 0 (by decide)) (sa_k (ly_sa162 hY) 0 (by decide)) hy_X2_ask hi_X2_ask hs_X2_ask ml_X6_208 rfl rfl (kX2_ask _ _ 162 1 V 0 (ly_sa162 hY) (ly_st1 hY) (by omega) hV hv (by omega)) (by decide) (by decide) (Nat.le_of_ble_eq_true rfl) dX6_takeMerged_9 (fun M9 h9 => ?_)
  have hbp9 : 1 ≤ (2 : Int) ^ (0 : Int).toNat ∧ (2 : Int) ^ (0 : Int).toNat ≤ 8 := two_b (by omega)
  refine x_aload_n G 0 rfl rfl dX6_takeMerged_12 ?_
  refine x_get G (xR 162) xf6_4 lk_X6_37 (ly_n hY 0 (by decide)) (ly_k hY 0 (by decide)) (Or.inr ⟨rfl, _, (ly_r hY 0 4 (by decide) (by decide)), rfl⟩) dX6_takeMerged_13 ?_
  refine x_iload_n G 1 rfl rfl dX6_takeMerged_16 ?_
  refine x_put G  xf2_3 lk_X6_236 (sa_n (ly_sa162 hY) 0 (by decide)) (sa_k (ly_sa162 hY) 0 (by decide)) rfl dX6_takeMerged_17 ?_
  refine x_aload_n G 0 rfl rfl dX6_takeMerged_20 ?_
  refine x_get G (xR 162) xf6_4 lk_X6_37 (ly_n hY 0 (by decide)) (ly_k hY 0 (by decide)) (Or.inr ⟨rfl, _, (ly_r hY 0 4 (by decide) (by decide)), rfl⟩) dX6_takeMerged_21 ?_
  refine x_iload_n G 2 rfl rfl dX6_takeMerged_24 ?_
  refine x_put G  xf2_4 lk_X6_211 (sa_n (ly_sa162 hY) 0 (by decide)) (sa_k (ly_sa162 hY) 0 (by decide)) rfl dX6_takeMerged_25 ?_
  refine x_aload_n G 0 rfl rfl dX6_takeMerged_28 ?_
  refine x_get G (xR 162) xf6_4 lk_X6_37 (ly_n hY 0 (by decide)) (ly_k hY 0 (by decide)) (Or.inr ⟨rfl, _, (ly_r hY 0 4 (by decide) (by decide)), rfl⟩) dX6_takeMerged_29 ?_
  refine x_aload_n G 0 rfl rfl dX6_takeMerged_32 ?_
  refine x_get G (xR 1) xf6_0 lk_X6_10 (ly_n hY 0 (by decide)) (ly_k hY 0 (by decide)) (Or.inr ⟨rfl, _, (ly_r hY 0 0 (by decide) (by decide)), rfl⟩) dX6_takeMerged_33 ?_
  refine x_callVV G [] [xR 1] rfl (by decide) (sa_n (ly_sa162 hY) 0 (by decide)) (sa_k (ly_sa162 hY) 0 (by decide)) hy_X2_fill hi_X2_fill hs_X2_fill ml_X6_214 rfl rfl (kX2_fill _ _ 162 1 V set mo (V 0 11) 100 (-1) 100 (ly_sa162 hY) (ly_st1 hY) (by omega) (shw_st (shw_st (shw_xof hV h9.2 (by intro k9 h1 h2 h3; simp <;> omega)) (by omega)) (by omega)) hv (ask_s4 (ask_s3 h9.1)) (by omega) (by omega) hs) (by decide) (by decide) (Nat.le_of_ble_eq_true rfl) dX6_takeMerged_36 (fun M36 h36 => ?_)
  have hsm36 : Smp M36 162 V (meL V set mo) := by
    have e9 := h36.1
    rw [fil_me hv hs] at e9
    exact e9
  have hn36 := hsm36.1
  have hl36 : (meL V set mo).length ≤ 100 := by
    rw [← fil_me hv hs]
    exact fil_len2 hv _ _ _
  exact x_vret G Rt dX6_takeMerged_39 ⟨rfl, rfl, rfl, ⟨hsm36, (xof_trans (xof_trans (xof_trans (xof_trans (xof_refl _ _) (xof_mono h9.2 (by decide))) (xof_xst (by decide))) (xof_xst (by decide))) (xof_mono h36.2.2 (by decide)))⟩⟩
set_option maxRecDepth 100000 in
set_option maxHeartbeats 4000000 in
theorem kX6_merged (D : xD) (l : Launch) {n : Nat} {T : xT} {M : xM} (V : xM) (set mo k : Int) (hY : LayOK n T) (hV : shw M 1 V) (hv : VOK V) (hs : Srt V (V 10) (V 0 10).toNat) : xC D l uX6_merged 4 91 0 0 [xR 0, xI set, xI mo, xI k] n T M (xPI n T (fun z M2 => z = qMerged V set mo k ∧ xof [3, 4, 162, 163, 164, 165, 166, 167] M M2)) := by
  refine x_met uX6_merged (by decide) (Nat.le_of_ble_eq_true rfl) ?_
  intro Γ G Rt _
  have G : xG Γ RX6 cX6_merged 4 4 91 0 0 := G
  have Rt : xRt Γ (xPI n T (fun z M2 => z = qMerged V set mo k ∧ xof [3, 4, 162, 163, 164, 165, 166, 167] M M2)) (some .int) 0 0 := Rt
  show xX Γ 0 0 n T 0 [(0, xR 0), (1, xI set), (2, xI mo), (3, xI k)] [] M
  have hc := ok_c hv
  refine x_iload_n G 1 rfl rfl dX6_merged_0 ?_
  refine x_callSp G [] [xI set] hy_X6_isSet ht_X6_isSet ml_X6_220 rfl rfl (kX6_isSet _ _ set) (by decide) (by decide) (Nat.le_of_ble_eq_true rfl) dX6_merged_1 ?_
  refine x_if_eq G 22 (by decide) dX6_merged_4 (fun c4 => ?_) (fun c4 => ?_)
  · skip
    have c4 := b2i_eq0.mp c4
    refine x_iconst G (by decide) dX6_merged_22 ?_
    exact x_iret G Rt dX6_merged_23 ⟨rfl, rfl, _, rfl, ⟨(by unfold qMerged; (repeat (first | rw [if_pos (by omega)] | rw [if_neg (by omega)])) <;> try rfl), (xof_refl _ _)⟩⟩
  · skip
    have c4 := b2i_ne0.mp c4
    refine x_iload_n G 2 rfl rfl dX6_merged_7 ?_
    refine x_iconst G (by decide) dX6_merged_8 ?_
    refine x_bipush G (by decide) dX6_merged_9 ?_
    refine x_callSp G [] [xI mo, xI 1, xI 24] hy_X6_isWithin ht_X6_isWithin ml_X6_62 rfl rfl (kX6_isWithin _ _ mo 1 24) (by decide) (by decide) (Nat.le_of_ble_eq_true rfl) dX6_merged_11 ?_
    refine x_if_eq G 22 (by decide) dX6_merged_14 (fun c14 => ?_) (fun c14 => ?_)
    · skip
      have c14 := b2i_eq0.mp c14
      refine x_iconst G (by decide) dX6_merged_22 ?_
      exact x_iret G Rt dX6_merged_23 ⟨rfl, rfl, _, rfl, ⟨(by unfold qMerged; (repeat (first | rw [if_pos (by omega)] | rw [if_neg (by omega)])) <;> try rfl), (xof_refl _ _)⟩⟩
    · skip
      have c14 := b2i_ne0.mp c14
      refine x_iload_n G 3 rfl rfl dX6_merged_17 ?_
      refine x_iconst G (by decide) dX6_merged_18 ?_
      refine x_icmp_ge G 24 (by decide) dX6_merged_19 (fun c19 => ?_) (fun c19 => ?_)
      · skip
        refine x_aload_n G 0 rfl rfl dX6_merged_24 ?_
        refine x_iload_n G 1 rfl rfl dX6_merged_25 ?_
        refine x_iload_n G 2 rfl rfl dX6_merged_26 ?_
        refine x_callVV G [] [xI set, xI mo] rfl (by decide) (ly_n hY 0 (by decide)) (ly_k hY 0 (by decide)) hy_X6_takeMerged hi_X6_takeMerged hs_X6_takeMerged ml_X6_223 rfl rfl (kX6_takeMerged _ _ V set mo hY hV hv hs (by omega)) (by decide) (by decide) (Nat.le_of_ble_eq_true rfl) dX6_merged_27 (fun M27 h27 => ?_)
        have hn27 := h27.1.1
        have hl27 : (meL V set mo).length ≤ 100 := take_len (Nat.le_trans (List.length_filter_le _ _) (rkl_l100 hv))
        refine x_aload_n G 0 rfl rfl dX6_merged_30 ?_
        refine x_get G (xR 162) xf6_4 lk_X6_37 (ly_n hY 0 (by decide)) (ly_k hY 0 (by decide)) (Or.inr ⟨rfl, _, (ly_r hY 0 4 (by decide) (by decide)), rfl⟩) dX6_merged_31 ?_
        refine x_iload_n G 3 rfl rfl dX6_merged_34 ?_
        refine x_callVp G [] [xI k] rfl (by decide) (sa_n (ly_sa162 hY) 0 (by decide)) (sa_k (ly_sa162 hY) 0 (by decide)) hy_X2_kth hi_X2_kth hs_X2_kth ml_X6_217 rfl rfl (kX2_kth _ _ 162 V (meL V set mo) k (ly_sa162 hY) h27.1 hl27) (by decide) (by decide) (Nat.le_of_ble_eq_true rfl) dX6_merged_35 ?_
        exact x_iret G Rt dX6_merged_38 ⟨rfl, rfl, _, rfl, ⟨(by unfold qMerged; (repeat (first | rw [if_pos (by omega)] | rw [if_neg (by omega)])) <;> try rfl), (xof_trans (xof_refl _ _) (xof_mono h27.2 (by decide)))⟩⟩
      · skip
        refine x_iconst G (by decide) dX6_merged_22 ?_
        exact x_iret G Rt dX6_merged_23 ⟨rfl, rfl, _, rfl, ⟨(by unfold qMerged; (repeat (first | rw [if_pos (by omega)] | rw [if_neg (by omega)])) <;> try rfl), (xof_refl _ _)⟩⟩
set_option maxRecDepth 100000 in
set_option maxHeartbeats 4000000 in
theorem kX6_partOf (D : xD) (l : Launch) {n : Nat} {T : xT} {M : xM} (V : xM) (set mo sh : Int) (hY : LayOK n T) (hV : shw M 1 V) (hv : VOK V) (hs : Srt V (V 10) (V 0 10).toNat) : xC D l uX6_partOf 4 91 0 0 [xR 0, xI set, xI mo, xI sh] n T M (xPI n T (fun z M2 => z = qPartOf V set mo sh ∧ xof [3, 4, 162, 163, 164, 165, 166, 167] M M2)) := by
  refine x_met uX6_partOf (by decide) (Nat.le_of_ble_eq_true rfl) ?_
  intro Γ G Rt _
  have G : xG Γ RX6 cX6_partOf 6 4 91 0 0 := G
  have Rt : xRt Γ (xPI n T (fun z M2 => z = qPartOf V set mo sh ∧ xof [3, 4, 162, 163, 164, 165, 166, 167] M M2)) (some .int) 0 0 := Rt
  show xX Γ 0 0 n T 0 [(0, xR 0), (1, xI set), (2, xI mo), (3, xI sh)] [] M
  have hc := ok_c hv
  refine x_iload_n G 1 rfl rfl dX6_partOf_0 ?_
  refine x_callSp G [] [xI set] hy_X6_isSet ht_X6_isSet ml_X6_220 rfl rfl (kX6_isSet _ _ set) (by decide) (by decide) (Nat.le_of_ble_eq_true rfl) dX6_partOf_1 ?_
  refine x_if_eq G 24 (by decide) dX6_partOf_4 (fun c4 => ?_) (fun c4 => ?_)
  · skip
    have c4 := b2i_eq0.mp c4
    refine x_iconst G (by decide) dX6_partOf_24 ?_
    exact x_iret G Rt dX6_partOf_25 ⟨rfl, rfl, _, rfl, ⟨(by unfold qPartOf; (repeat (first | rw [if_pos (by omega)] | rw [if_neg (by omega)])) <;> try rfl), (xof_refl _ _)⟩⟩
  · skip
    have c4 := b2i_ne0.mp c4
    refine x_iload_n G 2 rfl rfl dX6_partOf_7 ?_
    refine x_iconst G (by decide) dX6_partOf_8 ?_
    refine x_bipush G (by decide) dX6_partOf_9 ?_
    refine x_callSp G [] [xI mo, xI 1, xI 24] hy_X6_isWithin ht_X6_isWithin ml_X6_62 rfl rfl (kX6_isWithin _ _ mo 1 24) (by decide) (by decide) (Nat.le_of_ble_eq_true rfl) dX6_partOf_11 ?_
    refine x_if_eq G 24 (by decide) dX6_partOf_14 (fun c14 => ?_) (fun c14 => ?_)
    · skip
      have c14 := b2i_eq0.mp c14
      refine x_iconst G (by decide) dX6_partOf_24 ?_
      exact x_iret G Rt dX6_partOf_25 ⟨rfl, rfl, _, rfl, ⟨(by unfold qPartOf; (repeat (first | rw [if_pos (by omega)] | rw [if_neg (by omega)])) <;> try rfl), (xof_refl _ _)⟩⟩
    · skip
      have c14 := b2i_ne0.mp c14
      refine x_iload_n G 3 rfl rfl dX6_partOf_17 ?_
      refine x_callSp G [] [xI sh] hy_X6_isShard ht_X6_isShard ml_X6_86 rfl rfl (kX6_isShard _ _ sh) (by decide) (by decide) (Nat.le_of_ble_eq_true rfl) dX6_partOf_18 ?_
      refine x_if_ne G 26 (by decide) dX6_partOf_21 (fun c21 => ?_) (fun c21 => ?_)
      · skip
        have c21 := b2i_ne0.mp c21
        refine x_aload_n G 0 rfl rfl dX6_partOf_26 ?_
        refine x_iload_n G 1 rfl rfl dX6_partOf_27 ?_
        refine x_iload_n G 2 rfl rfl dX6_partOf_28 ?_
        refine x_callVV G [] [xI set, xI mo] rfl (by decide) (ly_n hY 0 (by decide)) (ly_k hY 0 (by decide)) hy_X6_takeMerged hi_X6_takeMerged hs_X6_takeMerged ml_X6_223 rfl rfl (kX6_takeMerged _ _ V set mo hY hV hv hs (by omega)) (by decide) (by decide) (Nat.le_of_ble_eq_true rfl) dX6_partOf_29 (fun M29 h29 => ?_)
        have hn29 := h29.1.1
        have hl29 : (meL V set mo).length ≤ 100 := take_len (Nat.le_trans (List.length_filter_le _ _) (rkl_l100 hv))
        refine x_iconst G (by decide) dX6_partOf_32 ?_
        refine x_istore G [(4, xI 0), (0, xR 0), (1, xI set), (2, xI mo), (3, xI sh)] (by decide) rfl dX6_partOf_33 ?_
        refine x_iconst G (by decide) dX6_partOf_35 ?_
        refine x_istore G [(5, xI 0), (4, xI 0), (0, xR 0), (1, xI set), (2, xI mo), (3, xI sh)] (by decide) rfl dX6_partOf_36 ?_
        have loop38 : ∀ (d : Nat) (k : Int) (q : Int), ((meL V set mo).length - k).toNat = d → (0 ≤ k ∧ k ≤ (meL V set mo).length) → (q = cntL ((meL V set mo).take k.toNat) (fun i => V 4 i = sh)) → xX Γ 0 0 n T 38 [(0, xR 0), (1, xI set), (2, xI mo), (3, xI sh), (4, xI q), (5, xI k)] [] M29 := by
          intro d
          induction d using Nat.strongRecOn with
          | ind d ih38 =>
          intro k q hd38 hk hq
          have hcb := cnt_b ((meL V set mo).take k.toNat) (fun i => V 4 i = sh)
          have hcl := List.length_take_le k.toNat (meL V set mo)
          refine x_iload G 5 rfl dX6_partOf_38 ?_
          refine x_aload_n G 0 rfl rfl dX6_partOf_40 ?_
          refine x_get G (xR 162) xf6_4 lk_X6_37 (ly_n hY 0 (by decide)) (ly_k hY 0 (by decide)) (Or.inr ⟨rfl, _, (ly_r hY 0 4 (by decide) (by decide)), rfl⟩) dX6_partOf_41 ?_
          refine x_get G (xI (M29 162 2)) xf2_2 lk_X6_154 (sa_n (ly_sa162 hY) 0 (by decide)) (sa_k (ly_sa162 hY) 0 (by decide)) (Or.inl ⟨rfl, rfl⟩) dX6_partOf_44 ?_
          refine x_icmp_ge G 81 (by decide) dX6_partOf_47 (fun c47 => ?_) (fun c47 => ?_)
          · skip
            refine x_iload G 4 rfl dX6_partOf_81 ?_
            exact x_iret G Rt dX6_partOf_83 ⟨rfl, rfl, _, rfl, ⟨(by unfold qPartOf; rw [if_pos (by omega), hq, List.take_of_length_le (by omega)]), (xof_trans (xof_refl _ _) (xof_mono h29.2 (by decide)))⟩⟩
          · skip
            refine x_aload_n G 0 rfl rfl dX6_partOf_50 ?_
            refine x_get G (xR 1) xf6_0 lk_X6_10 (ly_n hY 0 (by decide)) (ly_k hY 0 (by decide)) (Or.inr ⟨rfl, _, (ly_r hY 0 0 (by decide) (by decide)), rfl⟩) dX6_partOf_51 ?_
            refine x_get G (xR (1 + 4)) xf3_1 lk_X6_133 (st_n (ly_st1 hY) 0 (by decide)) (st_k (ly_st1 hY) 0 (by decide)) (Or.inr ⟨rfl, _, (st_r (ly_st1 hY) 0 1 (by decide) (by decide)), rfl⟩) dX6_partOf_54 ?_
            refine x_aload_n G 0 rfl rfl dX6_partOf_57 ?_
            refine x_get G (xR 162) xf6_4 lk_X6_37 (ly_n hY 0 (by decide)) (ly_k hY 0 (by decide)) (Or.inr ⟨rfl, _, (ly_r hY 0 4 (by decide) (by decide)), rfl⟩) dX6_partOf_58 ?_
            refine x_get G (xR (162 + 1)) xf2_0 lk_X6_227 (sa_n (ly_sa162 hY) 0 (by decide)) (sa_k (ly_sa162 hY) 0 (by decide)) (Or.inr ⟨rfl, _, (sa_r (ly_sa162 hY) 0 0 (by decide) (by decide)), rfl⟩) dX6_partOf_61 ?_
            refine x_iload G 5 rfl dX6_partOf_64 ?_
            refine x_iald G (sa_n (ly_sa162 hY) 1 (by decide)) (sa_k (ly_sa162 hY) 1 (by decide)) (show _ = 100 from sa_l (ly_sa162 hY) 1 (by decide)) (by omega) (by omega) dX6_partOf_66 ?_
            have hf := h29.1.2.1 k.toNat (by omega)
            have hin := me_it hs (getD_in (L := meL V set mo) (j := k.toNat) (by omega))
            have hit := ok_i hv (i := M29 (162 + 1) k.toNat) (by omega) (by omega)
            have hgd : (M29 (162 + 1) k.toNat).toNat = (meL V set mo).getD k.toNat 0 := by omega
            rw [hgd] at hit
            refine x_iald G (st_n (ly_st1 hY) 4 (by decide)) (st_k (ly_st1 hY) 4 (by decide)) (show _ = 100 from st_l (ly_st1 hY) 4 (by decide)) (by omega) (by omega) dX6_partOf_67 ?_
            rw [show M29 (1 + 4) (M29 (162 + 1) k.toNat).toNat = (V 4 (M29 (162 + 1) k.toNat).toNat) from ((congrFun (h29.2 (1 + 4) (by simp <;> omega)) (M29 (162 + 1) k.toNat).toNat).trans (congrFun (hV 4 (by decide) (by decide) (by decide)) (M29 (162 + 1) k.toNat).toNat))]
            rw [hgd]
            skip
            refine x_iload_n G 3 rfl rfl dX6_partOf_68 ?_
            refine x_icmp_ne G 75 (by decide) dX6_partOf_69 (fun c69 => ?_) (fun c69 => ?_)
            · skip
              refine x_iinc G [(5, xI (k + 1)), (0, xR 0), (1, xI set), (2, xI mo), (3, xI sh), (4, xI q)] 5 rfl (by decide) (by omega) rfl dX6_partOf_75 ?_
              refine x_goto G 38 (by decide) dX6_partOf_78 ?_
              refine x_sub [(0, xR 0), (1, xI set), (2, xI mo), (3, xI sh), (4, xI q), (5, xI (k + 1))] [1, 2, 3, 4, 5, 0] rfl ?_
              exact ih38 _ (by omega) (k + 1) q rfl (by omega) (by rw [show (k + 1).toNat = k.toNat + 1 by omega, cnt_take _ _ (by omega), ← hq]; first | (rw [b2i_t (by omega)]) | (rw [b2i_f (by omega)]; omega))
            · skip
              refine x_iinc G [(4, xI (q + 1)), (0, xR 0), (1, xI set), (2, xI mo), (3, xI sh), (5, xI k)] 4 rfl (by decide) (by omega) rfl dX6_partOf_72 ?_
              refine x_iinc G [(5, xI (k + 1)), (4, xI (q + 1)), (0, xR 0), (1, xI set), (2, xI mo), (3, xI sh)] 5 rfl (by decide) (by omega) rfl dX6_partOf_75 ?_
              refine x_goto G 38 (by decide) dX6_partOf_78 ?_
              refine x_sub [(0, xR 0), (1, xI set), (2, xI mo), (3, xI sh), (4, xI (q + 1)), (5, xI (k + 1))] [2, 3, 4, 5, 1, 0] rfl ?_
              exact ih38 _ (by omega) (k + 1) (q + 1) rfl (by omega) (by rw [show (k + 1).toNat = k.toNat + 1 by omega, cnt_take _ _ (by omega), ← hq]; first | (rw [b2i_t (by omega)]) | (rw [b2i_f (by omega)]; omega))
        refine x_sub [(0, xR 0), (1, xI set), (2, xI mo), (3, xI sh), (4, xI 0), (5, xI 0)] [2, 3, 4, 5, 1, 0] rfl ?_
        exact loop38 _ 0 0 rfl (by omega) (rfl)
      · skip
        have c21 := b2i_eq0.mp c21
        refine x_iconst G (by decide) dX6_partOf_24 ?_
        exact x_iret G Rt dX6_partOf_25 ⟨rfl, rfl, _, rfl, ⟨(by unfold qPartOf; (repeat (first | rw [if_pos (by omega)] | rw [if_neg (by omega)])) <;> try rfl), (xof_refl _ _)⟩⟩
set_option maxRecDepth 100000 in
set_option maxHeartbeats 4000000 in
theorem kX6_capped (D : xD) (l : Launch) {n : Nat} {T : xT} {M : xM} (V : xM) (sh m k : Int) (hY : LayOK n T) (hV : shw M 1 V) (hv : VOK V) (hs : Srt V (V 10) (V 0 10).toNat) : xC D l uX6_capped 3 69 0 0 [xR 0, xI sh, xI m, xI k] n T M (xPI n T (fun z M2 => z = qCapped V sh m k ∧ xof [3, 4, 162, 163, 164, 165, 166, 167] M M2)) := by
  refine x_met uX6_capped (by decide) (Nat.le_of_ble_eq_true rfl) ?_
  intro Γ G Rt _
  have G : xG Γ RX6 cX6_capped 4 3 69 0 0 := G
  have Rt : xRt Γ (xPI n T (fun z M2 => z = qCapped V sh m k ∧ xof [3, 4, 162, 163, 164, 165, 166, 167] M M2)) (some .int) 0 0 := Rt
  show xX Γ 0 0 n T 0 [(0, xR 0), (1, xI sh), (2, xI m), (3, xI k)] [] M
  have hc := ok_c hv
  have hsc := hv.1
  refine x_iload_n G 1 rfl rfl dX6_capped_0 ?_
  refine x_callSp G [] [xI sh] hy_X6_isShard ht_X6_isShard ml_X6_86 rfl rfl (kX6_isShard _ _ sh) (by decide) (by decide) (Nat.le_of_ble_eq_true rfl) dX6_capped_1 ?_
  refine x_if_eq G 22 (by decide) dX6_capped_4 (fun c4 => ?_) (fun c4 => ?_)
  · skip
    have c4 := b2i_eq0.mp c4
    refine x_iconst G (by decide) dX6_capped_22 ?_
    exact x_iret G Rt dX6_capped_23 ⟨rfl, rfl, _, rfl, ⟨(by unfold qCapped; (repeat (first | rw [if_pos (by omega)] | rw [if_neg (by omega)])) <;> try rfl), (xof_refl _ _)⟩⟩
  · skip
    have c4 := b2i_ne0.mp c4
    refine x_iload_n G 2 rfl rfl dX6_capped_7 ?_
    refine x_iconst G (by decide) dX6_capped_8 ?_
    refine x_bipush G (by decide) dX6_capped_9 ?_
    refine x_callSp G [] [xI m, xI 1, xI 12] hy_X6_isWithin ht_X6_isWithin ml_X6_62 rfl rfl (kX6_isWithin _ _ m 1 12) (by decide) (by decide) (Nat.le_of_ble_eq_true rfl) dX6_capped_11 ?_
    refine x_if_eq G 22 (by decide) dX6_capped_14 (fun c14 => ?_) (fun c14 => ?_)
    · skip
      have c14 := b2i_eq0.mp c14
      refine x_iconst G (by decide) dX6_capped_22 ?_
      exact x_iret G Rt dX6_capped_23 ⟨rfl, rfl, _, rfl, ⟨(by unfold qCapped; (repeat (first | rw [if_pos (by omega)] | rw [if_neg (by omega)])) <;> try rfl), (xof_refl _ _)⟩⟩
    · skip
      have c14 := b2i_ne0.mp c14
      refine x_iload_n G 3 rfl rfl dX6_capped_17 ?_
      refine x_iconst G (by decide) dX6_capped_18 ?_
      refine x_icmp_ge G 24 (by decide) dX6_capped_19 (fun c19 => ?_) (fun c19 => ?_)
      · skip
        refine x_aload_n G 0 rfl rfl dX6_capped_24 ?_
        refine x_get G (xR 162) xf6_4 lk_X6_37 (ly_n hY 0 (by decide)) (ly_k hY 0 (by decide)) (Or.inr ⟨rfl, _, (ly_r hY 0 4 (by decide) (by decide)), rfl⟩) dX6_capped_25 ?_
        refine x_aload_n G 0 rfl rfl dX6_capped_28 ?_
        refine x_get G (xR 1) xf6_0 lk_X6_10 (ly_n hY 0 (by decide)) (ly_k hY 0 (by decide)) (Or.inr ⟨rfl, _, (ly_r hY 0 0 (by decide) (by decide)), rfl⟩) dX6_capped_29 ?_
        refine x_iload_n G 1 rfl rfl dX6_capped_32 ?_
        refine x_callVV G [] [xR 1, xI sh] rfl (by decide) (sa_n (ly_sa162 hY) 0 (by decide)) (sa_k (ly_sa162 hY) 0 (by decide)) hy_X2_ask hi_X2_ask hs_X2_ask ml_X6_208 rfl rfl (kX2_ask _ _ 162 1 V sh (ly_sa162 hY) (ly_st1 hY) (by omega) hV hv (by omega)) (by decide) (by decide) (Nat.le_of_ble_eq_true rfl) dX6_capped_33 (fun M33 h33 => ?_)
        have hbp33 : 1 ≤ (2 : Int) ^ (sh : Int).toNat ∧ (2 : Int) ^ (sh : Int).toNat ≤ 8 := two_b (by omega)
        refine x_aload_n G 0 rfl rfl dX6_capped_36 ?_
        refine x_get G (xR 162) xf6_4 lk_X6_37 (ly_n hY 0 (by decide)) (ly_k hY 0 (by decide)) (Or.inr ⟨rfl, _, (ly_r hY 0 4 (by decide) (by decide)), rfl⟩) dX6_capped_37 ?_
        refine x_iload_n G 2 rfl rfl dX6_capped_40 ?_
        refine x_put G  xf2_8 lk_X6_230 (sa_n (ly_sa162 hY) 0 (by decide)) (sa_k (ly_sa162 hY) 0 (by decide)) rfl dX6_capped_41 ?_
        refine x_aload_n G 0 rfl rfl dX6_capped_44 ?_
        refine x_get G (xR 162) xf6_4 lk_X6_37 (ly_n hY 0 (by decide)) (ly_k hY 0 (by decide)) (Or.inr ⟨rfl, _, (ly_r hY 0 4 (by decide) (by decide)), rfl⟩) dX6_capped_45 ?_
        refine x_aload_n G 0 rfl rfl dX6_capped_48 ?_
        refine x_get G (xR 1) xf6_0 lk_X6_10 (ly_n hY 0 (by decide)) (ly_k hY 0 (by decide)) (Or.inr ⟨rfl, _, (ly_r hY 0 0 (by decide) (by decide)), rfl⟩) dX6_capped_49 ?_
        refine x_callVV G [] [xR 1] rfl (by decide) (sa_n (ly_sa162 hY) 0 (by decide)) (sa_k (ly_sa162 hY) 0 (by decide)) hy_X2_fill hi_X2_fill hs_X2_fill ml_X6_214 rfl rfl (kX2_fill _ _ 162 1 V (2 ^ (sh : Int).toNat) (V 11 (sh : Int).toNat) (V 0 11) 100 (-1) m (ly_sa162 hY) (ly_st1 hY) (by omega) (shw_st (shw_xof hV h33.2 (by intro k9 h1 h2 h3; simp <;> omega)) (by omega)) hv (ask_s8 h33.1) (by omega) (by omega) hs) (by decide) (by decide) (Nat.le_of_ble_eq_true rfl) dX6_capped_52 (fun M52 h52 => ?_)
        have hsm52 : Smp M52 162 V (fil V (fun i => decide (asd V (2 ^ (sh : Int).toNat) (V 0 11) 100 (-1) i)) (V 11 (sh : Int).toNat) m (rkl V)) := h52.1
        have hn52 := hsm52.1
        have hl52 : (fil V (fun i => decide (asd V (2 ^ (sh : Int).toNat) (V 0 11) 100 (-1) i)) (V 11 (sh : Int).toNat) m (rkl V)).length ≤ 100 := by
          exact fil_len2 hv _ _ _
        refine x_aload_n G 0 rfl rfl dX6_capped_55 ?_
        refine x_get G (xR 162) xf6_4 lk_X6_37 (ly_n hY 0 (by decide)) (ly_k hY 0 (by decide)) (Or.inr ⟨rfl, _, (ly_r hY 0 4 (by decide) (by decide)), rfl⟩) dX6_capped_56 ?_
        refine x_iload_n G 3 rfl rfl dX6_capped_59 ?_
        refine x_callVp G [] [xI k] rfl (by decide) (sa_n (ly_sa162 hY) 0 (by decide)) (sa_k (ly_sa162 hY) 0 (by decide)) hy_X2_kth hi_X2_kth hs_X2_kth ml_X6_217 rfl rfl (kX2_kth _ _ 162 V (fil V (fun i => decide (asd V (2 ^ (sh : Int).toNat) (V 0 11) 100 (-1) i)) (V 11 (sh : Int).toNat) m (rkl V)) k (ly_sa162 hY) hsm52 hl52) (by decide) (by decide) (Nat.le_of_ble_eq_true rfl) dX6_capped_60 ?_
        exact x_iret G Rt dX6_capped_63 ⟨rfl, rfl, _, rfl, ⟨(by unfold qCapped; (repeat (first | rw [if_pos (by omega)] | rw [if_neg (by omega)])) <;> try rfl), (xof_trans (xof_trans (xof_trans (xof_refl _ _) (xof_mono h33.2 (by decide))) (xof_xst (by decide))) (xof_mono h52.2.2 (by decide)))⟩⟩
      · skip
        refine x_iconst G (by decide) dX6_capped_22 ?_
        exact x_iret G Rt dX6_capped_23 ⟨rfl, rfl, _, rfl, ⟨(by unfold qCapped; (repeat (first | rw [if_pos (by omega)] | rw [if_neg (by omega)])) <;> try rfl), (xof_refl _ _)⟩⟩
set_option maxRecDepth 100000 in
set_option maxHeartbeats 4000000 in
theorem kX6_lastOfFull (D : xD) (l : Launch) {n : Nat} {T : xT} {M : xM} (V : xM) (sh : Int) (hY : LayOK n T) (hV : shw M 1 V) (hv : VOK V) (hs : Srt V (V 10) (V 0 10).toNat) (hsh : 0 ≤ sh ∧ sh ≤ 3) : xC D l uX6_lastOfFull 4 91 0 0 [xR 0, xI sh] n T M (xPI n T (fun z M2 => z = qFull V sh ∧ xof [3, 4, 162, 163, 164, 165, 166, 167] M M2)) := by
  refine x_met uX6_lastOfFull (by decide) (Nat.le_of_ble_eq_true rfl) ?_
  intro Γ G Rt _
  have G : xG Γ RX6 cX6_lastOfFull 2 4 91 0 0 := G
  have Rt : xRt Γ (xPI n T (fun z M2 => z = qFull V sh ∧ xof [3, 4, 162, 163, 164, 165, 166, 167] M M2)) (some .int) 0 0 := Rt
  show xX Γ 0 0 n T 0 [(0, xR 0), (1, xI sh)] [] M
  have hc := ok_c hv
  refine x_aload_n G 0 rfl rfl dX6_lastOfFull_0 ?_
  refine x_get G (xR 162) xf6_4 lk_X6_37 (ly_n hY 0 (by decide)) (ly_k hY 0 (by decide)) (Or.inr ⟨rfl, _, (ly_r hY 0 4 (by decide) (by decide)), rfl⟩) dX6_lastOfFull_1 ?_
  refine x_aload_n G 0 rfl rfl dX6_lastOfFull_4 ?_
  refine x_get G (xR 1) xf6_0 lk_X6_10 (ly_n hY 0 (by decide)) (ly_k hY 0 (by decide)) (Or.inr ⟨rfl, _, (ly_r hY 0 0 (by decide) (by decide)), rfl⟩) dX6_lastOfFull_5 ?_
  refine x_iload_n G 1 rfl rfl dX6_lastOfFull_8 ?_
  refine x_callVV G [] [xR 1, xI sh] rfl (by decide) (sa_n (ly_sa162 hY) 0 (by decide)) (sa_k (ly_sa162 hY) 0 (by decide)) hy_X2_take hi_X2_take hs_X2_take ml_X6_150 rfl rfl (kX2_take _ _ 162 1 V sh (ly_sa162 hY) (ly_st1 hY) (by omega) hV hv (by omega) hs) (by decide) (by decide) (Nat.le_of_ble_eq_true rfl) dX6_lastOfFull_9 (fun M9 h9 => ?_)
  have hsm9 : Smp M9 162 V (smL V sh) := by
      have e9 := h9.1
      rw [tkL_eq hv hs (by omega)] at e9
      exact e9
  have hn9 := hsm9.1
  have hl9 : (smL V sh).length ≤ 100 := take_len (alL_len hv _ _ _ _)
  refine x_aload_n G 0 rfl rfl dX6_lastOfFull_12 ?_
  refine x_get G (xR 162) xf6_4 lk_X6_37 (ly_n hY 0 (by decide)) (ly_k hY 0 (by decide)) (Or.inr ⟨rfl, _, (ly_r hY 0 4 (by decide) (by decide)), rfl⟩) dX6_lastOfFull_13 ?_
  refine x_get G (xI (M9 162 2)) xf2_2 lk_X6_154 (sa_n (ly_sa162 hY) 0 (by decide)) (sa_k (ly_sa162 hY) 0 (by decide)) (Or.inl ⟨rfl, rfl⟩) dX6_lastOfFull_16 ?_
  refine x_aload_n G 0 rfl rfl dX6_lastOfFull_19 ?_
  refine x_get G (xR 162) xf6_4 lk_X6_37 (ly_n hY 0 (by decide)) (ly_k hY 0 (by decide)) (Or.inr ⟨rfl, _, (ly_r hY 0 4 (by decide) (by decide)), rfl⟩) dX6_lastOfFull_20 ?_
  refine x_get G (xI (M9 162 4)) xf2_4 lk_X6_211 (sa_n (ly_sa162 hY) 0 (by decide)) (sa_k (ly_sa162 hY) 0 (by decide)) (Or.inl ⟨rfl, rfl⟩) dX6_lastOfFull_23 ?_
  have h4 := h9.2.1
  refine x_icmp_ge G 32 (by decide) dX6_lastOfFull_26 (fun c26 => ?_) (fun c26 => ?_)
  · skip
    refine x_aload_n G 0 rfl rfl dX6_lastOfFull_32 ?_
    refine x_get G (xR 162) xf6_4 lk_X6_37 (ly_n hY 0 (by decide)) (ly_k hY 0 (by decide)) (Or.inr ⟨rfl, _, (ly_r hY 0 4 (by decide) (by decide)), rfl⟩) dX6_lastOfFull_33 ?_
    refine x_callVp G [] [] rfl (by decide) (sa_n (ly_sa162 hY) 0 (by decide)) (sa_k (ly_sa162 hY) 0 (by decide)) hy_X2_lastOne hi_X2_lastOne hs_X2_lastOne ml_X6_239 rfl rfl (kX2_lastOne _ _ 162 V (smL V sh) (ly_sa162 hY) hsm9 (take_len (alL_len hv _ _ _ _))) (by decide) (by decide) (Nat.le_of_ble_eq_true rfl) dX6_lastOfFull_36 ?_
    exact x_iret G Rt dX6_lastOfFull_39 ⟨rfl, rfl, _, rfl, ⟨(by unfold qFull; (repeat (first | rw [if_pos (by omega)] | rw [if_neg (by omega)])) <;> try rfl), (xof_trans (xof_refl _ _) (xof_mono h9.2.2 (by decide)))⟩⟩
  · skip
    refine x_bipush G (by decide) dX6_lastOfFull_29 ?_
    exact x_iret G Rt dX6_lastOfFull_31 ⟨rfl, rfl, _, rfl, ⟨(by unfold qFull; (repeat (first | rw [if_pos (by omega)] | rw [if_neg (by omega)])) <;> try rfl), (xof_trans (xof_refl _ _) (xof_mono h9.2.2 (by decide)))⟩⟩
set_option maxRecDepth 100000 in
set_option maxHeartbeats 4000000 in
theorem kX6_last (D : xD) (l : Launch) {n : Nat} {T : xT} {M : xM} (V : xM) (sh : Int) (hY : LayOK n T) (hV : shw M 1 V) (hv : VOK V) (hs : Srt V (V 10) (V 0 10).toNat) : xC D l uX6_last 5 112 0 0 [xR 0, xI sh] n T M (xPI n T (fun z M2 => z = qLast V sh ∧ xof [3, 4, 162, 163, 164, 165, 166, 167] M M2)) := by
  refine x_met uX6_last (by decide) (Nat.le_of_ble_eq_true rfl) ?_
  intro Γ G Rt _
  have G : xG Γ RX6 cX6_last 2 5 112 0 0 := G
  have Rt : xRt Γ (xPI n T (fun z M2 => z = qLast V sh ∧ xof [3, 4, 162, 163, 164, 165, 166, 167] M M2)) (some .int) 0 0 := Rt
  show xX Γ 0 0 n T 0 [(0, xR 0), (1, xI sh)] [] M
  have hc := ok_c hv
  refine x_iload_n G 1 rfl rfl dX6_last_0 ?_
  refine x_callSp G [] [xI sh] hy_X6_isShard ht_X6_isShard ml_X6_86 rfl rfl (kX6_isShard _ _ sh) (by decide) (by decide) (Nat.le_of_ble_eq_true rfl) dX6_last_1 ?_
  refine x_if_ne G 9 (by decide) dX6_last_4 (fun c4 => ?_) (fun c4 => ?_)
  · skip
    have c4 := b2i_ne0.mp c4
    refine x_aload_n G 0 rfl rfl dX6_last_9 ?_
    refine x_iload_n G 1 rfl rfl dX6_last_10 ?_
    refine x_callVI G [] [xI sh] rfl (by decide) (ly_n hY 0 (by decide)) (ly_k hY 0 (by decide)) hy_X6_lastOfFull hi_X6_lastOfFull hs_X6_lastOfFull ml_X6_233 rfl rfl (kX6_lastOfFull _ _ V sh hY hV hv hs (by omega)) (by decide) (by decide) (Nat.le_of_ble_eq_true rfl) dX6_last_11 (fun z11 M11 h11 => ?_)
    rw [h11.1]
    exact x_iret G Rt dX6_last_14 ⟨rfl, rfl, _, rfl, ⟨(by unfold qLast; (repeat (first | rw [if_pos (by omega)] | rw [if_neg (by omega)])) <;> try rfl), (xof_trans (xof_refl _ _) (xof_mono h11.2 (by decide)))⟩⟩
  · skip
    have c4 := b2i_eq0.mp c4
    refine x_iconst G (by decide) dX6_last_7 ?_
    exact x_iret G Rt dX6_last_8 ⟨rfl, rfl, _, rfl, ⟨(by unfold qLast; (repeat (first | rw [if_pos (by omega)] | rw [if_neg (by omega)])) <;> try rfl), (xof_refl _ _)⟩⟩
