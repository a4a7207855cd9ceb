set_option maxRecDepth 100000 in
set_option maxHeartbeats 4000000 in
theorem kX6_put (D : xD) (l : Launch) {n : Nat} {T : xT} {M : xM} (V : xM) (Hs : List xM) (sh lab w lo : Int) (hY : LayOK n T) (hV : shw M 1 V) (hv : VOK V) (hs : Srt V (V 10) (V 0 10).toNat) (hH : Hst M Hs) : xC D l uX6_put 7 163 0 0 [xR 0, xI sh, xI lab, xI w, xI lo] n T M (xPI n T (fun z M2 => z = (aPut V sh lab w lo).1 ∧ Fin1 M2 (nxV V (aPut V sh lab w lo)) (nxH V Hs (aPut V sh lab w lo)) ∧ afr M M2)) := by
  refine x_met uX6_put (by decide) (Nat.le_of_ble_eq_true rfl) ?_
  intro Γ G Rt _
  have G : xG Γ RX6 cX6_put 5 7 163 0 0 := G
  have Rt : xRt Γ (xPI n T (fun z M2 => z = (aPut V sh lab w lo).1 ∧ Fin1 M2 (nxV V (aPut V sh lab w lo)) (nxH V Hs (aPut V sh lab w lo)) ∧ afr M M2)) (some .int) 0 0 := Rt
  show xX Γ 0 0 n T 0 [(0, xR 0), (1, xI sh), (2, xI lab), (3, xI w), (4, xI lo)] [] M
  have hc := ok_c hv
  have hsc := hv.1
  refine x_iload_n G 1 rfl rfl dX6_put_0 ?_
  refine x_callSp G [] [xI sh] hy_X6_isShard ht_X6_isShard ml_X6_86 rfl rfl (kX6_isShard _ _ sh) (by decide) (by decide) (Nat.le_of_ble_eq_true rfl) dX6_put_1 ?_
  refine x_if_eq G 29 (by decide) dX6_put_4 (fun c4 => ?_) (fun c4 => ?_)
  · skip
    have c4 := b2i_eq0.mp c4
    refine x_iconst G (by decide) dX6_put_29 ?_
    exact x_iret G Rt dX6_put_30 ⟨rfl, rfl, _, rfl, (by
        have e9 : aPut V sh lab w lo = ((-1), none) := (by unfold aPut; (repeat (first | rw [if_pos (by omega)] | rw [if_neg (by omega)])) <;> try rfl)
        rw [e9]
        exact ⟨rfl, fin_same hV hs hH, (afr_refl _)⟩)⟩
  · skip
    have c4 := b2i_ne0.mp c4
    refine x_iload_n G 2 rfl rfl dX6_put_7 ?_
    refine x_callSp G [] [xI lab] hy_X6_isLabel ht_X6_isLabel ml_X6_90 rfl rfl (kX6_isLabel _ _ lab) (by decide) (by decide) (Nat.le_of_ble_eq_true rfl) dX6_put_8 ?_
    refine x_if_eq G 29 (by decide) dX6_put_11 (fun c11 => ?_) (fun c11 => ?_)
    · skip
      have c11 := b2i_eq0.mp c11
      refine x_iconst G (by decide) dX6_put_29 ?_
      exact x_iret G Rt dX6_put_30 ⟨rfl, rfl, _, rfl, (by
        have e9 : aPut V sh lab w lo = ((-1), none) := (by unfold aPut; (repeat (first | rw [if_pos (by omega)] | rw [if_neg (by omega)])) <;> try rfl)
        rw [e9]
        exact ⟨rfl, fin_same hV hs hH, (afr_refl _)⟩)⟩
    · skip
      have c11 := b2i_ne0.mp c11
      refine x_iload_n G 3 rfl rfl dX6_put_14 ?_
      refine x_callSp G [] [xI w] hy_X6_isWeight ht_X6_isWeight ml_X6_93 rfl rfl (kX6_isWeight _ _ w) (by decide) (by decide) (Nat.le_of_ble_eq_true rfl) dX6_put_15 ?_
      refine x_if_eq G 29 (by decide) dX6_put_18 (fun c18 => ?_) (fun c18 => ?_)
      · skip
        have c18 := b2i_eq0.mp c18
        refine x_iconst G (by decide) dX6_put_29 ?_
        exact x_iret G Rt dX6_put_30 ⟨rfl, rfl, _, rfl, (by
        have e9 : aPut V sh lab w lo = ((-1), none) := (by unfold aPut; (repeat (first | rw [if_pos (by omega)] | rw [if_neg (by omega)])) <;> try rfl)
        rw [e9]
        exact ⟨rfl, fin_same hV hs hH, (afr_refl _)⟩)⟩
      · skip
        have c18 := b2i_ne0.mp c18
        refine x_iload G 4 rfl dX6_put_21 ?_
        refine x_callSp G [] [xI lo] hy_X6_isLot ht_X6_isLot ml_X6_106 rfl rfl (kX6_isLot _ _ lo) (by decide) (by decide) (Nat.le_of_ble_eq_true rfl) dX6_put_23 ?_
        refine x_if_ne G 31 (by decide) dX6_put_26 (fun c26 => ?_) (fun c26 => ?_)
        · skip
          have c26 := b2i_ne0.mp c26
          refine x_aload_n G 0 rfl rfl dX6_put_31 ?_
          refine x_get G (xR 1) xf6_0 lk_X6_10 (ly_n hY 0 (by decide)) (ly_k hY 0 (by decide)) (Or.inr ⟨rfl, _, (ly_r hY 0 0 (by decide) (by decide)), rfl⟩) dX6_put_32 ?_
          refine x_get G (xI (M 1 10)) xf3_10 lk_X6_83 (st_n (ly_st1 hY) 0 (by decide)) (st_k (ly_st1 hY) 0 (by decide)) (Or.inl ⟨rfl, rfl⟩) dX6_put_35 ?_
          rw [show M 1 10 = (V 0 10) from (congrFun (hV 0 (by decide) (by decide) (by decide)) 10)]
          refine x_bipush G (by decide) dX6_put_38 ?_
          refine x_icmp_lt G 46 (by decide) dX6_put_40 (fun c40 => ?_) (fun c40 => ?_)
          · skip
            refine x_aload_n G 0 rfl rfl dX6_put_46 ?_
            refine x_get G (xR 14) xf6_1 lk_X6_19 (ly_n hY 0 (by decide)) (ly_k hY 0 (by decide)) (Or.inr ⟨rfl, _, (ly_r hY 0 1 (by decide) (by decide)), rfl⟩) dX6_put_47 ?_
            refine x_aload_n G 0 rfl rfl dX6_put_50 ?_
            refine x_get G (xR 1) xf6_0 lk_X6_10 (ly_n hY 0 (by decide)) (ly_k hY 0 (by decide)) (Or.inr ⟨rfl, _, (ly_r hY 0 0 (by decide) (by decide)), rfl⟩) dX6_put_51 ?_
            refine x_callVV G [] [xR 1] rfl (by decide) (ly_n hY 14 (by decide)) (ly_k hY 14 (by decide)) hy_X0_add hi_X0_add hs_X0_add ml_X6_96 rfl rfl (kX0_add _ _ V Hs hY hV hv hH) (by decide) (by decide) (Nat.le_of_ble_eq_true rfl) dX6_put_54 (fun M54 h54 => ?_)
            refine x_aload_n G 0 rfl rfl dX6_put_57 ?_
            refine x_get G (xR 1) xf6_0 lk_X6_10 (ly_n hY 0 (by decide)) (ly_k hY 0 (by decide)) (Or.inr ⟨rfl, _, (ly_r hY 0 0 (by decide) (by decide)), rfl⟩) dX6_put_58 ?_
            refine x_iload_n G 1 rfl rfl dX6_put_61 ?_
            refine x_iload_n G 2 rfl rfl dX6_put_62 ?_
            refine x_iload_n G 3 rfl rfl dX6_put_63 ?_
            refine x_iload G 4 rfl dX6_put_64 ?_
            refine x_callVI G [] [xI sh, xI lab, xI w, xI lo] rfl (by decide) (st_n (ly_st1 hY) 0 (by decide)) (st_k (ly_st1 hY) 0 (by decide)) hy_X3_addRanked hi_X3_addRanked hs_X3_addRanked ml_X6_102 rfl rfl (kX3_addRanked _ _ 1 V sh lab w lo (ly_st1 hY) (shw_fr hV (fun k9 g1 g2 g3 => h54.2 (1 + k9) (by omega))) hv (by omega) (by omega) (by omega) (by omega) (by omega) hs) (by decide) (by decide) (Nat.le_of_ble_eq_true rfl) dX6_put_66 (fun z66 M66 h66 => ?_)
            rw [h66.1]
            exact x_iret G Rt dX6_put_69 ⟨rfl, rfl, _, rfl, (by
        have e9 : aPut V sh lab w lo = ((V 0 10), some (addV V sh lab w lo)) := (by unfold aPut; (repeat (first | rw [if_pos (by omega)] | rw [if_neg (by omega)])) <;> try rfl)
        rw [e9]
        exact ⟨rfl, ⟨h66.2.1, h66.2.2.1, (hst_fr h54.1 (h66.2.2.2 14 (by omega)) (fun q9 g1 g2 => h66.2.2.2 q9 (by omega)))⟩, (afr_trans (afr_trans (afr_refl _) (fun q9 g9 => h54.2 q9 (by omega))) (fun q9 g9 => h66.2.2.2 q9 (by omega)))⟩)⟩
          · skip
            refine x_bipush G (by decide) dX6_put_43 ?_
            exact x_iret G Rt dX6_put_45 ⟨rfl, rfl, _, rfl, (by
        have e9 : aPut V sh lab w lo = ((-2), none) := (by unfold aPut; (repeat (first | rw [if_pos (by omega)] | rw [if_neg (by omega)])) <;> try rfl)
        rw [e9]
        exact ⟨rfl, fin_same hV hs hH, (afr_refl _)⟩)⟩
        · skip
          have c26 := b2i_eq0.mp c26
          refine x_iconst G (by decide) dX6_put_29 ?_
          exact x_iret G Rt dX6_put_30 ⟨rfl, rfl, _, rfl, (by
        have e9 : aPut V sh lab w lo = ((-1), none) := (by unfold aPut; (repeat (first | rw [if_pos (by omega)] | rw [if_neg (by omega)])) <;> try rfl)
        rw [e9]
        exact ⟨rfl, fin_same hV hs hH, (afr_refl _)⟩)⟩
set_option maxRecDepth 100000 in
set_option maxHeartbeats 4000000 in
theorem kX6_come (D : xD) (l : Launch) {n : Nat} {T : xT} {M : xM} (V : xM) (Hs : List xM) (sh lab w : Int) (hY : LayOK n T) (hV : shw M 1 V) (hv : VOK V) (hs : Srt V (V 10) (V 0 10).toNat) (hH : Hst M Hs) : xC D l uX6_come 7 163 0 0 [xR 0, xI sh, xI lab, xI w] n T M (xPI n T (fun z M2 => z = (aCome V sh lab w).1 ∧ Fin1 M2 (nxV V (aCome V sh lab w)) (nxH V Hs (aCome V sh lab w)) ∧ afr M M2)) := by
  refine x_met uX6_come (by decide) (Nat.le_of_ble_eq_true rfl) ?_
  intro Γ G Rt _
  have G : xG Γ RX6 cX6_come 4 7 163 0 0 := G
  have Rt : xRt Γ (xPI n T (fun z M2 => z = (aCome V sh lab w).1 ∧ Fin1 M2 (nxV V (aCome V sh lab w)) (nxH V Hs (aCome V sh lab w)) ∧ afr M M2)) (some .int) 0 0 := Rt
  show xX Γ 0 0 n T 0 [(0, xR 0), (1, xI sh), (2, xI lab), (3, xI w)] [] M
  have hc := ok_c hv
  have hsc := hv.1
  have hdb := drw_b (V 0 12)
  refine x_iload_n G 1 rfl rfl dX6_come_0 ?_
  refine x_callSp G [] [xI sh] hy_X6_isShard ht_X6_isShard ml_X6_86 rfl rfl (kX6_isShard _ _ sh) (by decide) (by decide) (Nat.le_of_ble_eq_true rfl) dX6_come_1 ?_
  refine x_if_eq G 21 (by decide) dX6_come_4 (fun c4 => ?_) (fun c4 => ?_)
  · skip
    have c4 := b2i_eq0.mp c4
    refine x_iconst G (by decide) dX6_come_21 ?_
    exact x_iret G Rt dX6_come_22 ⟨rfl, rfl, _, rfl, (by
        have e9 : aCome V sh lab w = ((-1), none) := (by unfold aCome; (repeat (first | rw [if_pos (by omega)] | rw [if_neg (by omega)])) <;> try rfl)
        rw [e9]
        exact ⟨rfl, fin_same hV hs hH, (afr_refl _)⟩)⟩
  · skip
    have c4 := b2i_ne0.mp c4
    refine x_iload_n G 2 rfl rfl dX6_come_7 ?_
    refine x_callSp G [] [xI lab] hy_X6_isLabel ht_X6_isLabel ml_X6_90 rfl rfl (kX6_isLabel _ _ lab) (by decide) (by decide) (Nat.le_of_ble_eq_true rfl) dX6_come_8 ?_
    refine x_if_eq G 21 (by decide) dX6_come_11 (fun c11 => ?_) (fun c11 => ?_)
    · skip
      have c11 := b2i_eq0.mp c11
      refine x_iconst G (by decide) dX6_come_21 ?_
      exact x_iret G Rt dX6_come_22 ⟨rfl, rfl, _, rfl, (by
        have e9 : aCome V sh lab w = ((-1), none) := (by unfold aCome; (repeat (first | rw [if_pos (by omega)] | rw [if_neg (by omega)])) <;> try rfl)
        rw [e9]
        exact ⟨rfl, fin_same hV hs hH, (afr_refl _)⟩)⟩
    · skip
      have c11 := b2i_ne0.mp c11
      refine x_iload_n G 3 rfl rfl dX6_come_14 ?_
      refine x_callSp G [] [xI w] hy_X6_isWeight ht_X6_isWeight ml_X6_93 rfl rfl (kX6_isWeight _ _ w) (by decide) (by decide) (Nat.le_of_ble_eq_true rfl) dX6_come_15 ?_
      refine x_if_ne G 23 (by decide) dX6_come_18 (fun c18 => ?_) (fun c18 => ?_)
      · skip
        have c18 := b2i_ne0.mp c18
        refine x_aload_n G 0 rfl rfl dX6_come_23 ?_
        refine x_get G (xR 1) xf6_0 lk_X6_10 (ly_n hY 0 (by decide)) (ly_k hY 0 (by decide)) (Or.inr ⟨rfl, _, (ly_r hY 0 0 (by decide) (by decide)), rfl⟩) dX6_come_24 ?_
        refine x_get G (xI (M 1 10)) xf3_10 lk_X6_83 (st_n (ly_st1 hY) 0 (by decide)) (st_k (ly_st1 hY) 0 (by decide)) (Or.inl ⟨rfl, rfl⟩) dX6_come_27 ?_
        rw [show M 1 10 = (V 0 10) from (congrFun (hV 0 (by decide) (by decide) (by decide)) 10)]
        refine x_bipush G (by decide) dX6_come_30 ?_
        refine x_icmp_lt G 38 (by decide) dX6_come_32 (fun c32 => ?_) (fun c32 => ?_)
        · skip
          have hvs : VOK (xst V 0 12 (drw (V 0 12))) := ok_seed hv (by have := drw_b (V 0 12); omega)
          have hsd0 : (xst V 0 12 (drw (V 0 12))) 0 10 = V 0 10 := rfl
          refine x_aload_n G 0 rfl rfl dX6_come_38 ?_
          refine x_get G (xR 14) xf6_1 lk_X6_19 (ly_n hY 0 (by decide)) (ly_k hY 0 (by decide)) (Or.inr ⟨rfl, _, (ly_r hY 0 1 (by decide) (by decide)), rfl⟩) dX6_come_39 ?_
          refine x_aload_n G 0 rfl rfl dX6_come_42 ?_
          refine x_get G (xR 1) xf6_0 lk_X6_10 (ly_n hY 0 (by decide)) (ly_k hY 0 (by decide)) (Or.inr ⟨rfl, _, (ly_r hY 0 0 (by decide) (by decide)), rfl⟩) dX6_come_43 ?_
          refine x_callVV G [] [xR 1] rfl (by decide) (ly_n hY 14 (by decide)) (ly_k hY 14 (by decide)) hy_X0_add hi_X0_add hs_X0_add ml_X6_96 rfl rfl (kX0_add _ _ V Hs hY hV hv hH) (by decide) (by decide) (Nat.le_of_ble_eq_true rfl) dX6_come_46 (fun M46 h46 => ?_)
          refine x_aload_n G 0 rfl rfl dX6_come_49 ?_
          refine x_get G (xR 1) xf6_0 lk_X6_10 (ly_n hY 0 (by decide)) (ly_k hY 0 (by decide)) (Or.inr ⟨rfl, _, (ly_r hY 0 0 (by decide) (by decide)), rfl⟩) dX6_come_50 ?_
          refine x_iload_n G 1 rfl rfl dX6_come_53 ?_
          refine x_iload_n G 2 rfl rfl dX6_come_54 ?_
          refine x_iload_n G 3 rfl rfl dX6_come_55 ?_
          refine x_aload_n G 0 rfl rfl dX6_come_56 ?_
          refine x_get G (xR 1) xf6_0 lk_X6_10 (ly_n hY 0 (by decide)) (ly_k hY 0 (by decide)) (Or.inr ⟨rfl, _, (ly_r hY 0 0 (by decide) (by decide)), rfl⟩) dX6_come_57 ?_
          refine x_callVI G [xI w, xI lab, xI sh, xR 1] [] rfl (by decide) (st_n (ly_st1 hY) 0 (by decide)) (st_k (ly_st1 hY) 0 (by decide)) hy_X3_drawLot hi_X3_drawLot hs_X3_drawLot ml_X6_99 rfl rfl (kX3_drawLot _ _ 1 V (ly_st1 hY) (shw_fr hV (fun k9 g1 g2 g3 => h46.2 (1 + k9) (by omega))) hv) (by decide) (by decide) (Nat.le_of_ble_eq_true rfl) dX6_come_60 (fun z60 M60 h60 => ?_)
          rw [h60.1]
          obtain ⟨hz60, rfl⟩ := h60
          refine x_callVI G [] [xI sh, xI lab, xI w, xI (drw (V 0 12) / 64)] rfl (by decide) (st_n (ly_st1 hY) 0 (by decide)) (st_k (ly_st1 hY) 0 (by decide)) hy_X3_addRanked hi_X3_addRanked hs_X3_addRanked ml_X6_102 rfl rfl (kX3_addRanked _ _ 1 (xst V 0 12 (drw (V 0 12))) sh lab w (drw (V 0 12) / 64) (ly_st1 hY) (shw_xst (shw_fr hV (fun k9 g1 g2 g3 => h46.2 (1 + k9) (by omega))) (k := 0) (by decide)) hvs (by omega) (by omega) (by omega) (by omega) (by omega) hs) (by decide) (by decide) (Nat.le_of_ble_eq_true rfl) dX6_come_63 (fun z63 M63 h63 => ?_)
          rw [h63.1]
          exact x_iret G Rt dX6_come_66 ⟨rfl, rfl, _, rfl, (by
        have e9 : aCome V sh lab w = (((xst V 0 12 (drw (V 0 12))) 0 10), some (addV (xst V 0 12 (drw (V 0 12))) sh lab w (drw (V 0 12) / 64))) := (by unfold aCome; (repeat (first | rw [if_pos (by omega)] | rw [if_neg (by omega)])) <;> try rfl)
        rw [e9]
        exact ⟨rfl, ⟨h63.2.1, h63.2.2.1, (hst_fr (hst_st h46.1 (by omega)) (h63.2.2.2 14 (by omega)) (fun q9 g1 g2 => h63.2.2.2 q9 (by omega)))⟩, (afr_trans (afr_st (afr_trans (afr_refl _) (fun q9 g9 => h46.2 q9 (by omega))) (by omega)) (fun q9 g9 => h63.2.2.2 q9 (by omega)))⟩)⟩
        · skip
          refine x_bipush G (by decide) dX6_come_35 ?_
          exact x_iret G Rt dX6_come_37 ⟨rfl, rfl, _, rfl, (by
        have e9 : aCome V sh lab w = ((-2), none) := (by unfold aCome; (repeat (first | rw [if_pos (by omega)] | rw [if_neg (by omega)])) <;> try rfl)
        rw [e9]
        exact ⟨rfl, fin_same hV hs hH, (afr_refl _)⟩)⟩
      · skip
        have c18 := b2i_eq0.mp c18
        refine x_iconst G (by decide) dX6_come_21 ?_
        exact x_iret G Rt dX6_come_22 ⟨rfl, rfl, _, rfl, (by
        have e9 : aCome V sh lab w = ((-1), none) := (by unfold aCome; (repeat (first | rw [if_pos (by omega)] | rw [if_neg (by omega)])) <;> try rfl)
        rw [e9]
        exact ⟨rfl, fin_same hV hs hH, (afr_refl _)⟩)⟩
set_option maxRecDepth 100000 in
set_option maxHeartbeats 4000000 in
theorem kX6_pass (D : xD) (l : Launch) {n : Nat} {T : xT} {M : xM} (V : xM) (Hs : List xM) (t : Int) (hY : LayOK n T) (hV : shw M 1 V) (hv : VOK V) (hs : Srt V (V 10) (V 0 10).toNat) (hH : Hst M Hs) : xC D l uX6_pass 2 61 0 0 [xR 0, xI t] n T M (xPI n T (fun z M2 => z = (aPass V t).1 ∧ Fin1 M2 (nxV V (aPass V t)) (nxH V Hs (aPass V t)) ∧ afr M M2)) := by
  refine x_met uX6_pass (by decide) (Nat.le_of_ble_eq_true rfl) ?_
  intro Γ G Rt _
  have G : xG Γ RX6 cX6_pass 2 2 61 0 0 := G
  have Rt : xRt Γ (xPI n T (fun z M2 => z = (aPass V t).1 ∧ Fin1 M2 (nxV V (aPass V t)) (nxH V Hs (aPass V t)) ∧ afr M M2)) (some .int) 0 0 := Rt
  show xX Γ 0 0 n T 0 [(0, xR 0), (1, xI t)] [] M
  have hc := ok_c hv
  have hsc := hv.1
  refine x_iload_n G 1 rfl rfl dX6_pass_0 ?_
  refine x_iconst G (by decide) dX6_pass_1 ?_
  refine x_sipush G (by decide) dX6_pass_2 ?_
  refine x_callSp G [] [xI t, xI 1, xI 9999] hy_X6_isWithin ht_X6_isWithin ml_X6_62 rfl rfl (kX6_isWithin _ _ t 1 9999) (by decide) (by decide) (Nat.le_of_ble_eq_true rfl) dX6_pass_5 ?_
  refine x_if_ne G 13 (by decide) dX6_pass_8 (fun c8 => ?_) (fun c8 => ?_)
  · skip
    have c8 := b2i_ne0.mp c8
    refine x_aload_n G 0 rfl rfl dX6_pass_13 ?_
    refine x_get G (xR 1) xf6_0 lk_X6_10 (ly_n hY 0 (by decide)) (ly_k hY 0 (by decide)) (Or.inr ⟨rfl, _, (ly_r hY 0 0 (by decide) (by decide)), rfl⟩) dX6_pass_14 ?_
    refine x_get G (xI (M 1 11)) xf3_11 lk_X6_109 (st_n (ly_st1 hY) 0 (by decide)) (st_k (ly_st1 hY) 0 (by decide)) (Or.inl ⟨rfl, rfl⟩) dX6_pass_17 ?_
    rw [show M 1 11 = (V 0 11) from (congrFun (hV 0 (by decide) (by decide) (by decide)) 11)]
    refine x_iload_n G 1 rfl rfl dX6_pass_20 ?_
    refine x_iadd G (by omega) dX6_pass_21 ?_
    refine x_ldc G (z := 99999) (by decide) kc_X6_112 dX6_pass_22 ?_
    refine x_icmp_le G 30 (by decide) dX6_pass_24 (fun c24 => ?_) (fun c24 => ?_)
    · skip
      refine x_aload_n G 0 rfl rfl dX6_pass_30 ?_
      refine x_get G (xR 14) xf6_1 lk_X6_19 (ly_n hY 0 (by decide)) (ly_k hY 0 (by decide)) (Or.inr ⟨rfl, _, (ly_r hY 0 1 (by decide) (by decide)), rfl⟩) dX6_pass_31 ?_
      refine x_aload_n G 0 rfl rfl dX6_pass_34 ?_
      refine x_get G (xR 1) xf6_0 lk_X6_10 (ly_n hY 0 (by decide)) (ly_k hY 0 (by decide)) (Or.inr ⟨rfl, _, (ly_r hY 0 0 (by decide) (by decide)), rfl⟩) dX6_pass_35 ?_
      refine x_callVV G [] [xR 1] rfl (by decide) (ly_n hY 14 (by decide)) (ly_k hY 14 (by decide)) hy_X0_add hi_X0_add hs_X0_add ml_X6_96 rfl rfl (kX0_add _ _ V Hs hY hV hv hH) (by decide) (by decide) (Nat.le_of_ble_eq_true rfl) dX6_pass_38 (fun M38 h38 => ?_)
      refine x_aload_n G 0 rfl rfl dX6_pass_41 ?_
      refine x_get G (xR 1) xf6_0 lk_X6_10 (ly_n hY 0 (by decide)) (ly_k hY 0 (by decide)) (Or.inr ⟨rfl, _, (ly_r hY 0 0 (by decide) (by decide)), rfl⟩) dX6_pass_42 ?_
      refine x_dup G rfl dX6_pass_45 ?_
      refine x_get G (xI (M38 1 11)) xf3_11 lk_X6_109 (st_n (ly_st1 hY) 0 (by decide)) (st_k (ly_st1 hY) 0 (by decide)) (Or.inl ⟨rfl, rfl⟩) dX6_pass_46 ?_
      rw [show M38 1 11 = (V 0 11) from (congrFun ((shw_fr hV (fun k9 g1 g2 g3 => h38.2 (1 + k9) (by omega))) 0 (by decide) (by decide) (by decide)) 11)]
      refine x_iload_n G 1 rfl rfl dX6_pass_49 ?_
      refine x_iadd G (by omega) dX6_pass_50 ?_
      refine x_put G  xf3_11 lk_X6_109 (st_n (ly_st1 hY) 0 (by decide)) (st_k (ly_st1 hY) 0 (by decide)) rfl dX6_pass_51 ?_
      refine x_aload_n G 0 rfl rfl dX6_pass_54 ?_
      refine x_get G (xR 1) xf6_0 lk_X6_10 (ly_n hY 0 (by decide)) (ly_k hY 0 (by decide)) (Or.inr ⟨rfl, _, (ly_r hY 0 0 (by decide) (by decide)), rfl⟩) dX6_pass_55 ?_
      refine x_get G (xI ((xst M38 1 11 ((V 0 11) + t)) 1 11)) xf3_11 lk_X6_109 (st_n (ly_st1 hY) 0 (by decide)) (st_k (ly_st1 hY) 0 (by decide)) (Or.inl ⟨rfl, rfl⟩) dX6_pass_58 ?_
      rw [show (xst M38 1 11 ((V 0 11) + t)) 1 11 = ((V 0 11) + t) from (xst_same ..)]
      exact x_iret G Rt dX6_pass_61 ⟨rfl, rfl, _, rfl, (by
        have e9 : aPass V t = (((V 0 11) + t), some (xst V 0 11 ((V 0 11) + t))) := (by unfold aPass; (repeat (first | rw [if_pos (by omega)] | rw [if_neg (by omega)])) <;> try rfl)
        rw [e9]
        exact ⟨rfl, (fin_same (shw_xst (shw_fr hV (fun k9 g1 g2 g3 => h38.2 (1 + k9) (by omega))) (k := 0) (by decide)) hs (hst_st h38.1 (by omega))), (afr_st (afr_trans (afr_refl _) (fun q9 g9 => h38.2 q9 (by omega))) (by omega))⟩)⟩
    · skip
      refine x_bipush G (by decide) dX6_pass_27 ?_
      exact x_iret G Rt dX6_pass_29 ⟨rfl, rfl, _, rfl, (by
        have e9 : aPass V t = ((-2), none) := (by unfold aPass; (repeat (first | rw [if_pos (by omega)] | rw [if_neg (by omega)])) <;> try rfl)
        rw [e9]
        exact ⟨rfl, fin_same hV hs hH, (afr_refl _)⟩)⟩
  · skip
    have c8 := b2i_eq0.mp c8
    refine x_iconst G (by decide) dX6_pass_11 ?_
    exact x_iret G Rt dX6_pass_12 ⟨rfl, rfl, _, rfl, (by
        have e9 : aPass V t = ((-1), none) := (by unfold aPass; (repeat (first | rw [if_pos (by omega)] | rw [if_neg (by omega)])) <;> try rfl)
        rw [e9]
        exact ⟨rfl, fin_same hV hs hH, (afr_refl _)⟩)⟩
set_option maxRecDepth 100000 in
set_option maxHeartbeats 4000000 in
theorem kX6_size (D : xD) (l : Launch) {n : Nat} {T : xT} {M : xM} (V : xM) (Hs : List xM) (sh m : Int) (hY : LayOK n T) (hV : shw M 1 V) (hv : VOK V) (hs : Srt V (V 10) (V 0 10).toNat) (hH : Hst M Hs) : xC D l uX6_size 2 61 0 0 [xR 0, xI sh, xI m] n T M (xPI n T (fun z M2 => z = (aSize V sh m).1 ∧ Fin1 M2 (nxV V (aSize V sh m)) (nxH V Hs (aSize V sh m)) ∧ afr M M2)) := by
  refine x_met uX6_size (by decide) (Nat.le_of_ble_eq_true rfl) ?_
  intro Γ G Rt _
  have G : xG Γ RX6 cX6_size 4 2 61 0 0 := G
  have Rt : xRt Γ (xPI n T (fun z M2 => z = (aSize V sh m).1 ∧ Fin1 M2 (nxV V (aSize V sh m)) (nxH V Hs (aSize V sh m)) ∧ afr M M2)) (some .int) 0 0 := Rt
  show xX Γ 0 0 n T 0 [(0, xR 0), (1, xI sh), (2, xI m)] [] M
  have hc := ok_c hv
  have hsc := hv.1
  refine x_iload_n G 1 rfl rfl dX6_size_0 ?_
  refine x_callSp G [] [xI sh] hy_X6_isShard ht_X6_isShard ml_X6_86 rfl rfl (kX6_isShard _ _ sh) (by decide) (by decide) (Nat.le_of_ble_eq_true rfl) dX6_size_1 ?_
  refine x_if_eq G 17 (by decide) dX6_size_4 (fun c4 => ?_) (fun c4 => ?_)
  · skip
    have c4 := b2i_eq0.mp c4
    refine x_iconst G (by decide) dX6_size_17 ?_
    exact x_iret G Rt dX6_size_18 ⟨rfl, rfl, _, rfl, (by
        have e9 : aSize V sh m = ((-1), none) := (by unfold aSize; (repeat (first | rw [if_pos (by omega)] | rw [if_neg (by omega)])) <;> try rfl)
        rw [e9]
        exact ⟨rfl, fin_same hV hs hH, (afr_refl _)⟩)⟩
  · skip
    have c4 := b2i_ne0.mp c4
    refine x_iload_n G 2 rfl rfl dX6_size_7 ?_
    refine x_iconst G (by decide) dX6_size_8 ?_
    refine x_bipush G (by decide) dX6_size_9 ?_
    refine x_callSp G [] [xI m, xI 1, xI 12] hy_X6_isWithin ht_X6_isWithin ml_X6_62 rfl rfl (kX6_isWithin _ _ m 1 12) (by decide) (by decide) (Nat.le_of_ble_eq_true rfl) dX6_size_11 ?_
    refine x_if_ne G 19 (by decide) dX6_size_14 (fun c14 => ?_) (fun c14 => ?_)
    · skip
      have c14 := b2i_ne0.mp c14
      have hsw := ok_s hv (s := sh) (by omega) (by omega)
      refine x_aload_n G 0 rfl rfl dX6_size_19 ?_
      refine x_get G (xR 1) xf6_0 lk_X6_10 (ly_n hY 0 (by decide)) (ly_k hY 0 (by decide)) (Or.inr ⟨rfl, _, (ly_r hY 0 0 (by decide) (by decide)), rfl⟩) dX6_size_20 ?_
      refine x_get G (xR (1 + 11)) xf3_8 lk_X6_113 (st_n (ly_st1 hY) 0 (by decide)) (st_k (ly_st1 hY) 0 (by decide)) (Or.inr ⟨rfl, _, (st_r (ly_st1 hY) 0 8 (by decide) (by decide)), rfl⟩) dX6_size_23 ?_
      refine x_iload_n G 1 rfl rfl dX6_size_26 ?_
      refine x_iald G (st_n (ly_st1 hY) 11 (by decide)) (st_k (ly_st1 hY) 11 (by decide)) (show _ = 4 from st_l (ly_st1 hY) 11 (by decide)) (by omega) (by omega) dX6_size_27 ?_
      rw [show M (1 + 11) sh.toNat = (V 11 sh.toNat) from (congrFun (hV 11 (by decide) (by decide) (by decide)) sh.toNat)]
      refine x_istore_n G [(3, xI (V 11 sh.toNat)), (0, xR 0), (1, xI sh), (2, xI m)] rfl (by decide) rfl dX6_size_28 ?_
      refine x_iload_n G 0 rfl rfl dX6_size_29 ?_
      refine x_iload_n G 3 rfl rfl dX6_size_30 ?_
      refine x_icmp_ne G 37 (by decide) dX6_size_31 (fun c31 => ?_) (fun c31 => ?_)
      · skip
        refine x_aload_n G 1 rfl rfl dX6_size_37 ?_
        refine x_get G (xR 14) xf6_1 lk_X6_19 (ly_n hY 0 (by decide)) (ly_k hY 0 (by decide)) (Or.inr ⟨rfl, _, (ly_r hY 0 1 (by decide) (by decide)), rfl⟩) dX6_size_38 ?_
        refine x_aload_n G 1 rfl rfl dX6_size_41 ?_
        refine x_get G (xR 1) xf6_0 lk_X6_10 (ly_n hY 0 (by decide)) (ly_k hY 0 (by decide)) (Or.inr ⟨rfl, _, (ly_r hY 0 0 (by decide) (by decide)), rfl⟩) dX6_size_42 ?_
        refine x_callVV G [] [xR 1] rfl (by decide) (ly_n hY 14 (by decide)) (ly_k hY 14 (by decide)) hy_X0_add hi_X0_add hs_X0_add ml_X6_96 rfl rfl (kX0_add _ _ V Hs hY hV hv hH) (by decide) (by decide) (Nat.le_of_ble_eq_true rfl) dX6_size_45 (fun M45 h45 => ?_)
        refine x_aload_n G 1 rfl rfl dX6_size_48 ?_
        refine x_get G (xR 1) xf6_0 lk_X6_10 (ly_n hY 0 (by decide)) (ly_k hY 0 (by decide)) (Or.inr ⟨rfl, _, (ly_r hY 0 0 (by decide) (by decide)), rfl⟩) dX6_size_49 ?_
        refine x_get G (xR (1 + 11)) xf3_8 lk_X6_113 (st_n (ly_st1 hY) 0 (by decide)) (st_k (ly_st1 hY) 0 (by decide)) (Or.inr ⟨rfl, _, (st_r (ly_st1 hY) 0 8 (by decide) (by decide)), rfl⟩) dX6_size_52 ?_
        refine x_iload_n G 2 rfl rfl dX6_size_55 ?_
        refine x_iload_n G 3 rfl rfl dX6_size_56 ?_
        refine x_iast G (st_n (ly_st1 hY) 11 (by decide)) (st_k (ly_st1 hY) 11 (by decide)) (show _ = 4 from st_l (ly_st1 hY) 11 (by decide)) (by omega) (by omega) dX6_size_57 ?_
        refine x_iload_n G 0 rfl rfl dX6_size_58 ?_
        exact x_iret G Rt dX6_size_59 ⟨rfl, rfl, _, rfl, (by
        have e9 : aSize V sh m = ((V 11 sh.toNat), some (xst V 11 sh.toNat m)) := (by unfold aSize; (repeat (first | rw [if_pos (by omega)] | rw [if_neg (by omega)])) <;> try rfl)
        rw [e9]
        exact ⟨rfl, (fin_same (shw_xst (shw_fr hV (fun k9 g1 g2 g3 => h45.2 (1 + k9) (by omega))) (k := 11) (by decide)) hs (hst_st h45.1 (by omega))), (afr_st (afr_trans (afr_refl _) (fun q9 g9 => h45.2 q9 (by omega))) (by omega))⟩)⟩
      · skip
        refine x_bipush G (by decide) dX6_size_34 ?_
        exact x_iret G Rt dX6_size_36 ⟨rfl, rfl, _, rfl, (by
        have e9 : aSize V sh m = ((-2), none) := (by unfold aSize; (repeat (first | rw [if_pos (by omega)] | rw [if_neg (by omega)])) <;> try rfl)
        rw [e9]
        exact ⟨rfl, fin_same hV hs hH, (afr_refl _)⟩)⟩
    · skip
      have c14 := b2i_eq0.mp c14
      refine x_iconst G (by decide) dX6_size_17 ?_
      exact x_iret G Rt dX6_size_18 ⟨rfl, rfl, _, rfl, (by
        have e9 : aSize V sh m = ((-1), none) := (by unfold aSize; (repeat (first | rw [if_pos (by omega)] | rw [if_neg (by omega)])) <;> try rfl)
        rw [e9]
        exact ⟨rfl, fin_same hV hs hH, (afr_refl _)⟩)⟩
set_option maxRecDepth 100000 in
set_option maxHeartbeats 4000000 in
theorem kX6_window (D : xD) (l : Launch) {n : Nat} {T : xT} {M : xM} (V : xM) (Hs : List xM) (sh m : Int) (hY : LayOK n T) (hV : shw M 1 V) (hv : VOK V) (hs : Srt V (V 10) (V 0 10).toNat) (hH : Hst M Hs) : xC D l uX6_window 2 61 0 0 [xR 0, xI sh, xI m] n T M (xPI n T (fun z M2 => z = (aWind V sh m).1 ∧ Fin1 M2 (nxV V (aWind V sh m)) (nxH V Hs (aWind V sh m)) ∧ afr M M2)) := by
  refine x_met uX6_window (by decide) (Nat.le_of_ble_eq_true rfl) ?_
  intro Γ G Rt _
  have G : xG Γ RX6 cX6_window 4 2 61 0 0 := G
  have Rt : xRt Γ (xPI n T (fun z M2 => z = (aWind V sh m).1 ∧ Fin1 M2 (nxV V (aWind V sh m)) (nxH V Hs (aWind V sh m)) ∧ afr M M2)) (some .int) 0 0 := Rt
  show xX Γ 0 0 n T 0 [(0, xR 0), (1, xI sh), (2, xI m)] [] M
  have hc := ok_c hv
  have hsc := hv.1
  refine x_iload_n G 1 rfl rfl dX6_window_0 ?_
  refine x_callSp G [] [xI sh] hy_X6_isShard ht_X6_isShard ml_X6_86 rfl rfl (kX6_isShard _ _ sh) (by decide) (by decide) (Nat.le_of_ble_eq_true rfl) dX6_window_1 ?_
  refine x_if_eq G 18 (by decide) dX6_window_4 (fun c4 => ?_) (fun c4 => ?_)
  · skip
    have c4 := b2i_eq0.mp c4
    refine x_iconst G (by decide) dX6_window_18 ?_
    exact x_iret G Rt dX6_window_19 ⟨rfl, rfl, _, rfl, (by
        have e9 : aWind V sh m = ((-1), none) := (by unfold aWind; (repeat (first | rw [if_pos (by omega)] | rw [if_neg (by omega)])) <;> try rfl)
        rw [e9]
        exact ⟨rfl, fin_same hV hs hH, (afr_refl _)⟩)⟩
  · skip
    have c4 := b2i_ne0.mp c4
    refine x_iload_n G 2 rfl rfl dX6_window_7 ?_
    refine x_iconst G (by decide) dX6_window_8 ?_
    refine x_sipush G (by decide) dX6_window_9 ?_
    refine x_callSp G [] [xI m, xI 0, xI 9999] hy_X6_isWithin ht_X6_isWithin ml_X6_62 rfl rfl (kX6_isWithin _ _ m 0 9999) (by decide) (by decide) (Nat.le_of_ble_eq_true rfl) dX6_window_12 ?_
    refine x_if_ne G 20 (by decide) dX6_window_15 (fun c15 => ?_) (fun c15 => ?_)
    · skip
      have c15 := b2i_ne0.mp c15
      have hsw := ok_s hv (s := sh) (by omega) (by omega)
      refine x_aload_n G 0 rfl rfl dX6_window_20 ?_
      refine x_get G (xR 1) xf6_0 lk_X6_10 (ly_n hY 0 (by decide)) (ly_k hY 0 (by decide)) (Or.inr ⟨rfl, _, (ly_r hY 0 0 (by decide) (by decide)), rfl⟩) dX6_window_21 ?_
      refine x_get G (xR (1 + 12)) xf3_9 lk_X6_117 (st_n (ly_st1 hY) 0 (by decide)) (st_k (ly_st1 hY) 0 (by decide)) (Or.inr ⟨rfl, _, (st_r (ly_st1 hY) 0 9 (by decide) (by decide)), rfl⟩) dX6_window_24 ?_
      refine x_iload_n G 1 rfl rfl dX6_window_27 ?_
      refine x_iald G (st_n (ly_st1 hY) 12 (by decide)) (st_k (ly_st1 hY) 12 (by decide)) (show _ = 4 from st_l (ly_st1 hY) 12 (by decide)) (by omega) (by omega) dX6_window_28 ?_
      rw [show M (1 + 12) sh.toNat = (V 12 sh.toNat) from (congrFun (hV 12 (by decide) (by decide) (by decide)) sh.toNat)]
      refine x_istore_n G [(3, xI (V 12 sh.toNat)), (0, xR 0), (1, xI sh), (2, xI m)] rfl (by decide) rfl dX6_window_29 ?_
      refine x_iload_n G 0 rfl rfl dX6_window_30 ?_
      refine x_iload_n G 3 rfl rfl dX6_window_31 ?_
      refine x_icmp_ne G 38 (by decide) dX6_window_32 (fun c32 => ?_) (fun c32 => ?_)
      · skip
        refine x_aload_n G 1 rfl rfl dX6_window_38 ?_
        refine x_get G (xR 14) xf6_1 lk_X6_19 (ly_n hY 0 (by decide)) (ly_k hY 0 (by decide)) (Or.inr ⟨rfl, _, (ly_r hY 0 1 (by decide) (by decide)), rfl⟩) dX6_window_39 ?_
        refine x_aload_n G 1 rfl rfl dX6_window_42 ?_
        refine x_get G (xR 1) xf6_0 lk_X6_10 (ly_n hY 0 (by decide)) (ly_k hY 0 (by decide)) (Or.inr ⟨rfl, _, (ly_r hY 0 0 (by decide) (by decide)), rfl⟩) dX6_window_43 ?_
        refine x_callVV G [] [xR 1] rfl (by decide) (ly_n hY 14 (by decide)) (ly_k hY 14 (by decide)) hy_X0_add hi_X0_add hs_X0_add ml_X6_96 rfl rfl (kX0_add _ _ V Hs hY hV hv hH) (by decide) (by decide) (Nat.le_of_ble_eq_true rfl) dX6_window_46 (fun M46 h46 => ?_)
        refine x_aload_n G 1 rfl rfl dX6_window_49 ?_
        refine x_get G (xR 1) xf6_0 lk_X6_10 (ly_n hY 0 (by decide)) (ly_k hY 0 (by decide)) (Or.inr ⟨rfl, _, (ly_r hY 0 0 (by decide) (by decide)), rfl⟩) dX6_window_50 ?_
        refine x_get G (xR (1 + 12)) xf3_9 lk_X6_117 (st_n (ly_st1 hY) 0 (by decide)) (st_k (ly_st1 hY) 0 (by decide)) (Or.inr ⟨rfl, _, (st_r (ly_st1 hY) 0 9 (by decide) (by decide)), rfl⟩) dX6_window_53 ?_
        refine x_iload_n G 2 rfl rfl dX6_window_56 ?_
        refine x_iload_n G 3 rfl rfl dX6_window_57 ?_
        refine x_iast G (st_n (ly_st1 hY) 12 (by decide)) (st_k (ly_st1 hY) 12 (by decide)) (show _ = 4 from st_l (ly_st1 hY) 12 (by decide)) (by omega) (by omega) dX6_window_58 ?_
        refine x_iload_n G 0 rfl rfl dX6_window_59 ?_
        exact x_iret G Rt dX6_window_60 ⟨rfl, rfl, _, rfl, (by
        have e9 : aWind V sh m = ((V 12 sh.toNat), some (xst V 12 sh.toNat m)) := (by unfold aWind; (repeat (first | rw [if_pos (by omega)] | rw [if_neg (by omega)])) <;> try rfl)
        rw [e9]
        exact ⟨rfl, (fin_same (shw_xst (shw_fr hV (fun k9 g1 g2 g3 => h46.2 (1 + k9) (by omega))) (k := 12) (by decide)) hs (hst_st h46.1 (by omega))), (afr_st (afr_trans (afr_refl _) (fun q9 g9 => h46.2 q9 (by omega))) (by omega))⟩)⟩
      · skip
        refine x_bipush G (by decide) dX6_window_35 ?_
        exact x_iret G Rt dX6_window_37 ⟨rfl, rfl, _, rfl, (by
        have e9 : aWind V sh m = ((-2), none) := (by unfold aWind; (repeat (first | rw [if_pos (by omega)] | rw [if_neg (by omega)])) <;> try rfl)
        rw [e9]
        exact ⟨rfl, fin_same hV hs hH, (afr_refl _)⟩)⟩
    · skip
      have c15 := b2i_eq0.mp c15
      refine x_iconst G (by decide) dX6_window_18 ?_
      exact x_iret G Rt dX6_window_19 ⟨rfl, rfl, _, rfl, (by
        have e9 : aWind V sh m = ((-1), none) := (by unfold aWind; (repeat (first | rw [if_pos (by omega)] | rw [if_neg (by omega)])) <;> try rfl)
        rw [e9]
        exact ⟨rfl, fin_same hV hs hH, (afr_refl _)⟩)⟩
set_option maxRecDepth 100000 in
set_option maxHeartbeats 4000000 in
theorem kX6_weigh (D : xD) (l : Launch) {n : Nat} {T : xT} {M : xM} (V : xM) (Hs : List xM) (i w : Int) (hY : LayOK n T) (hV : shw M 1 V) (hv : VOK V) (hs : Srt V (V 10) (V 0 10).toNat) (hH : Hst M Hs) : xC D l uX6_weigh 7 159 0 0 [xR 0, xI i, xI w] n T M (xPI n T (fun z M2 => z = (aWeigh V i w).1 ∧ Fin1 M2 (nxV V (aWeigh V i w)) (nxH V Hs (aWeigh V i w)) ∧ afr M M2)) := by
  refine x_met uX6_weigh (by decide) (Nat.le_of_ble_eq_true rfl) ?_
  intro Γ G Rt _
  have G : xG Γ RX6 cX6_weigh 4 7 159 0 0 := G
  have Rt : xRt Γ (xPI n T (fun z M2 => z = (aWeigh V i w).1 ∧ Fin1 M2 (nxV V (aWeigh V i w)) (nxH V Hs (aWeigh V i w)) ∧ afr M M2)) (some .int) 0 0 := Rt
  show xX Γ 0 0 n T 0 [(0, xR 0), (1, xI i), (2, xI w)] [] M
  have hc := ok_c hv
  have hsc := hv.1
  refine x_aload_n G 0 rfl rfl dX6_weigh_0 ?_
  refine x_get G (xR 1) xf6_0 lk_X6_10 (ly_n hY 0 (by decide)) (ly_k hY 0 (by decide)) (Or.inr ⟨rfl, _, (ly_r hY 0 0 (by decide) (by decide)), rfl⟩) dX6_weigh_1 ?_
  refine x_iload_n G 1 rfl rfl dX6_weigh_4 ?_
  refine x_callVp G [] [xI i] rfl (by decide) (st_n (ly_st1 hY) 0 (by decide)) (st_k (ly_st1 hY) 0 (by decide)) hy_X3_hasUndropped hi_X3_hasUndropped hs_X3_hasUndropped ml_X6_120 rfl rfl (kX3_hasUndropped _ _ 1 V i (ly_st1 hY) hV hv) (by decide) (by decide) (Nat.le_of_ble_eq_true rfl) dX6_weigh_5 ?_
  refine x_if_eq G 18 (by decide) dX6_weigh_8 (fun c8 => ?_) (fun c8 => ?_)
  · skip
    have c8 := b2i_eq0.mp c8
    refine x_iconst G (by decide) dX6_weigh_18 ?_
    exact x_iret G Rt dX6_weigh_19 ⟨rfl, rfl, _, rfl, (by
        have e9 : aWeigh V i w = ((-1), none) := (by unfold aWeigh; (repeat (first | rw [if_pos (by omega)] | rw [if_neg (by omega)])) <;> try rfl)
        rw [e9]
        exact ⟨rfl, fin_same hV hs hH, (afr_refl _)⟩)⟩
  · skip
    have c8 := b2i_ne0.mp c8
    refine x_iload_n G 2 rfl rfl dX6_weigh_11 ?_
    refine x_callSp G [] [xI w] hy_X6_isWeight ht_X6_isWeight ml_X6_93 rfl rfl (kX6_isWeight _ _ w) (by decide) (by decide) (Nat.le_of_ble_eq_true rfl) dX6_weigh_12 ?_
    refine x_if_ne G 20 (by decide) dX6_weigh_15 (fun c15 => ?_) (fun c15 => ?_)
    · skip
      have c15 := b2i_ne0.mp c15
      have hit := ok_i hv (i := i) (by omega) (by omega)
      refine x_aload_n G 0 rfl rfl dX6_weigh_20 ?_
      refine x_get G (xR 1) xf6_0 lk_X6_10 (ly_n hY 0 (by decide)) (ly_k hY 0 (by decide)) (Or.inr ⟨rfl, _, (ly_r hY 0 0 (by decide) (by decide)), rfl⟩) dX6_weigh_21 ?_
      refine x_get G (xR (1 + 6)) xf3_3 lk_X6_123 (st_n (ly_st1 hY) 0 (by decide)) (st_k (ly_st1 hY) 0 (by decide)) (Or.inr ⟨rfl, _, (st_r (ly_st1 hY) 0 3 (by decide) (by decide)), rfl⟩) dX6_weigh_24 ?_
      refine x_iload_n G 1 rfl rfl dX6_weigh_27 ?_
      refine x_iald G (st_n (ly_st1 hY) 6 (by decide)) (st_k (ly_st1 hY) 6 (by decide)) (show _ = 100 from st_l (ly_st1 hY) 6 (by decide)) (by omega) (by omega) dX6_weigh_28 ?_
      rw [show M (1 + 6) i.toNat = (V 6 i.toNat) from (congrFun (hV 6 (by decide) (by decide) (by decide)) i.toNat)]
      refine x_istore_n G [(3, xI (V 6 i.toNat)), (0, xR 0), (1, xI i), (2, xI w)] rfl (by decide) rfl dX6_weigh_29 ?_
      refine x_iload_n G 0 rfl rfl dX6_weigh_30 ?_
      refine x_iload_n G 3 rfl rfl dX6_weigh_31 ?_
      refine x_icmp_ne G 38 (by decide) dX6_weigh_32 (fun c32 => ?_) (fun c32 => ?_)
      · skip
        have hv2 : VOK (xst V 6 i.toNat w) := ok_item hv (by decide) (fun _ => by simp [xst_eq, itm]; omega)
        refine x_aload_n G 1 rfl rfl dX6_weigh_38 ?_
        refine x_get G (xR 14) xf6_1 lk_X6_19 (ly_n hY 0 (by decide)) (ly_k hY 0 (by decide)) (Or.inr ⟨rfl, _, (ly_r hY 0 1 (by decide) (by decide)), rfl⟩) dX6_weigh_39 ?_
        refine x_aload_n G 1 rfl rfl dX6_weigh_42 ?_
        refine x_get G (xR 1) xf6_0 lk_X6_10 (ly_n hY 0 (by decide)) (ly_k hY 0 (by decide)) (Or.inr ⟨rfl, _, (ly_r hY 0 0 (by decide) (by decide)), rfl⟩) dX6_weigh_43 ?_
        refine x_callVV G [] [xR 1] rfl (by decide) (ly_n hY 14 (by decide)) (ly_k hY 14 (by decide)) hy_X0_add hi_X0_add hs_X0_add ml_X6_96 rfl rfl (kX0_add _ _ V Hs hY hV hv hH) (by decide) (by decide) (Nat.le_of_ble_eq_true rfl) dX6_weigh_46 (fun M46 h46 => ?_)
        refine x_aload_n G 1 rfl rfl dX6_weigh_49 ?_
        refine x_get G (xR 1) xf6_0 lk_X6_10 (ly_n hY 0 (by decide)) (ly_k hY 0 (by decide)) (Or.inr ⟨rfl, _, (ly_r hY 0 0 (by decide) (by decide)), rfl⟩) dX6_weigh_50 ?_
        refine x_get G (xR (1 + 6)) xf3_3 lk_X6_123 (st_n (ly_st1 hY) 0 (by decide)) (st_k (ly_st1 hY) 0 (by decide)) (Or.inr ⟨rfl, _, (st_r (ly_st1 hY) 0 3 (by decide) (by decide)), rfl⟩) dX6_weigh_53 ?_
        refine x_iload_n G 2 rfl rfl dX6_weigh_56 ?_
        refine x_iload_n G 3 rfl rfl dX6_weigh_57 ?_
        refine x_iast G (st_n (ly_st1 hY) 6 (by decide)) (st_k (ly_st1 hY) 6 (by decide)) (show _ = 100 from st_l (ly_st1 hY) 6 (by decide)) (by omega) (by omega) dX6_weigh_58 ?_
        refine x_aload_n G 1 rfl rfl dX6_weigh_59 ?_
        refine x_get G (xR 1) xf6_0 lk_X6_10 (ly_n hY 0 (by decide)) (ly_k hY 0 (by decide)) (Or.inr ⟨rfl, _, (ly_r hY 0 0 (by decide) (by decide)), rfl⟩) dX6_weigh_60 ?_
        refine x_callVV G [] [] rfl (by decide) (st_n (ly_st1 hY) 0 (by decide)) (st_k (ly_st1 hY) 0 (by decide)) hy_X3_rankAll hi_X3_rankAll hs_X3_rankAll ml_X6_77 rfl rfl (kX3_rankAll _ _ 1 (xst V 6 i.toNat w) (ly_st1 hY) (shw_xst (shw_fr hV (fun k9 g1 g2 g3 => h46.2 (1 + k9) (by omega))) (k := 6) (by decide)) hv2) (by decide) (by decide) (Nat.le_of_ble_eq_true rfl) dX6_weigh_63 (fun M63 h63 => ?_)
        refine x_iload_n G 0 rfl rfl dX6_weigh_66 ?_
        exact x_iret G Rt dX6_weigh_67 ⟨rfl, rfl, _, rfl, (by
        have e9 : aWeigh V i w = ((V 6 i.toNat), some (xst V 6 i.toNat w)) := (by unfold aWeigh; (repeat (first | rw [if_pos (by omega)] | rw [if_neg (by omega)])) <;> try rfl)
        rw [e9]
        exact ⟨rfl, (fin_rank (shw_xst (shw_fr hV (fun k9 g1 g2 g3 => h46.2 (1 + k9) (by omega))) (k := 6) (by decide)) h63.2 h63.1 (hst_fr (hst_st h46.1 (by omega)) (h63.2 14 (by simp <;> omega)) (fun q9 g1 g2 => h63.2 q9 (by simp <;> omega)))), (afr_trans (afr_st (afr_trans (afr_refl _) (fun q9 g9 => h46.2 q9 (by omega))) (by omega)) (fun q9 g9 => h63.2 q9 (by simp <;> omega)))⟩)⟩
      · skip
        refine x_bipush G (by decide) dX6_weigh_35 ?_
        exact x_iret G Rt dX6_weigh_37 ⟨rfl, rfl, _, rfl, (by
        have e9 : aWeigh V i w = ((-2), none) := (by unfold aWeigh; (repeat (first | rw [if_pos (by omega)] | rw [if_neg (by omega)])) <;> try rfl)
        rw [e9]
        exact ⟨rfl, fin_same hV hs hH, (afr_refl _)⟩)⟩
    · skip
      have c15 := b2i_eq0.mp c15
      refine x_iconst G (by decide) dX6_weigh_18 ?_
      exact x_iret G Rt dX6_weigh_19 ⟨rfl, rfl, _, rfl, (by
        have e9 : aWeigh V i w = ((-1), none) := (by unfold aWeigh; (repeat (first | rw [if_pos (by omega)] | rw [if_neg (by omega)])) <;> try rfl)
        rw [e9]
        exact ⟨rfl, fin_same hV hs hH, (afr_refl _)⟩)⟩
set_option maxRecDepth 100000 in
set_option maxHeartbeats 4000000 in
theorem kX6_again (D : xD) (l : Launch) {n : Nat} {T : xT} {M : xM} (V : xM) (Hs : List xM) (i : Int) (hY : LayOK n T) (hV : shw M 1 V) (hv : VOK V) (hs : Srt V (V 10) (V 0 10).toNat) (hH : Hst M Hs) : xC D l uX6_again 7 159 0 0 [xR 0, xI i] n T M (xPI n T (fun z M2 => z = (aAgain V i).1 ∧ Fin1 M2 (nxV V (aAgain V i)) (nxH V Hs (aAgain V i)) ∧ afr M M2)) := by
  refine x_met uX6_again (by decide) (Nat.le_of_ble_eq_true rfl) ?_
  intro Γ G Rt _
  have G : xG Γ RX6 cX6_again 3 7 159 0 0 := G
  have Rt : xRt Γ (xPI n T (fun z M2 => z = (aAgain V i).1 ∧ Fin1 M2 (nxV V (aAgain V i)) (nxH V Hs (aAgain V i)) ∧ afr M M2)) (some .int) 0 0 := Rt
  show xX Γ 0 0 n T 0 [(0, xR 0), (1, xI i)] [] M
  have hc := ok_c hv
  have hsc := hv.1
  have hdb := drw_b (V 0 12)
  refine x_aload_n G 0 rfl rfl dX6_again_0 ?_
  refine x_get G (xR 1) xf6_0 lk_X6_10 (ly_n hY 0 (by decide)) (ly_k hY 0 (by decide)) (Or.inr ⟨rfl, _, (ly_r hY 0 0 (by decide) (by decide)), rfl⟩) dX6_again_1 ?_
  refine x_iload_n G 1 rfl rfl dX6_again_4 ?_
  refine x_callVp G [] [xI i] rfl (by decide) (st_n (ly_st1 hY) 0 (by decide)) (st_k (ly_st1 hY) 0 (by decide)) hy_X3_hasUndropped hi_X3_hasUndropped hs_X3_hasUndropped ml_X6_120 rfl rfl (kX3_hasUndropped _ _ 1 V i (ly_st1 hY) hV hv) (by decide) (by decide) (Nat.le_of_ble_eq_true rfl) dX6_again_5 ?_
  refine x_if_ne G 13 (by decide) dX6_again_8 (fun c8 => ?_) (fun c8 => ?_)
  · skip
    have c8 := b2i_ne0.mp c8
    have hit := ok_i hv (i := i) (by omega) (by omega)
    have hvs : VOK (xst V 0 12 (drw (V 0 12))) := ok_seed hv (by have := drw_b (V 0 12); omega)
    have hv2 : VOK (xst (xst V 0 12 (drw (V 0 12))) 7 i.toNat (drw (V 0 12) / 64)) := ok_item hvs (by decide) (fun _ => by simp [xst_eq, itm]; omega)
    refine x_aload_n G 0 rfl rfl dX6_again_13 ?_
    refine x_get G (xR 14) xf6_1 lk_X6_19 (ly_n hY 0 (by decide)) (ly_k hY 0 (by decide)) (Or.inr ⟨rfl, _, (ly_r hY 0 1 (by decide) (by decide)), rfl⟩) dX6_again_14 ?_
    refine x_aload_n G 0 rfl rfl dX6_again_17 ?_
    refine x_get G (xR 1) xf6_0 lk_X6_10 (ly_n hY 0 (by decide)) (ly_k hY 0 (by decide)) (Or.inr ⟨rfl, _, (ly_r hY 0 0 (by decide) (by decide)), rfl⟩) dX6_again_18 ?_
    refine x_callVV G [] [xR 1] rfl (by decide) (ly_n hY 14 (by decide)) (ly_k hY 14 (by decide)) hy_X0_add hi_X0_add hs_X0_add ml_X6_96 rfl rfl (kX0_add _ _ V Hs hY hV hv hH) (by decide) (by decide) (Nat.le_of_ble_eq_true rfl) dX6_again_21 (fun M21 h21 => ?_)
    refine x_aload_n G 0 rfl rfl dX6_again_24 ?_
    refine x_get G (xR 1) xf6_0 lk_X6_10 (ly_n hY 0 (by decide)) (ly_k hY 0 (by decide)) (Or.inr ⟨rfl, _, (ly_r hY 0 0 (by decide) (by decide)), rfl⟩) dX6_again_25 ?_
    refine x_callVI G [] [] rfl (by decide) (st_n (ly_st1 hY) 0 (by decide)) (st_k (ly_st1 hY) 0 (by decide)) hy_X3_drawLot hi_X3_drawLot hs_X3_drawLot ml_X6_99 rfl rfl (kX3_drawLot _ _ 1 V (ly_st1 hY) (shw_fr hV (fun k9 g1 g2 g3 => h21.2 (1 + k9) (by omega))) hv) (by decide) (by decide) (Nat.le_of_ble_eq_true rfl) dX6_again_28 (fun z28 M28 h28 => ?_)
    rw [h28.1]
    obtain ⟨hz28, rfl⟩ := h28
    refine x_istore_n G [(2, xI (drw (V 0 12) / 64)), (0, xR 0), (1, xI i)] rfl (by decide) rfl dX6_again_31 ?_
    refine x_aload_n G 1 rfl rfl dX6_again_32 ?_
    refine x_get G (xR 1) xf6_0 lk_X6_10 (ly_n hY 0 (by decide)) (ly_k hY 0 (by decide)) (Or.inr ⟨rfl, _, (ly_r hY 0 0 (by decide) (by decide)), rfl⟩) dX6_again_33 ?_
    refine x_get G (xR (1 + 7)) xf3_4 lk_X6_126 (st_n (ly_st1 hY) 0 (by decide)) (st_k (ly_st1 hY) 0 (by decide)) (Or.inr ⟨rfl, _, (st_r (ly_st1 hY) 0 4 (by decide) (by decide)), rfl⟩) dX6_again_36 ?_
    refine x_iload_n G 2 rfl rfl dX6_again_39 ?_
    refine x_iload_n G 0 rfl rfl dX6_again_40 ?_
    refine x_iast G (st_n (ly_st1 hY) 7 (by decide)) (st_k (ly_st1 hY) 7 (by decide)) (show _ = 100 from st_l (ly_st1 hY) 7 (by decide)) (by omega) (by omega) dX6_again_41 ?_
    refine x_aload_n G 1 rfl rfl dX6_again_42 ?_
    refine x_get G (xR 1) xf6_0 lk_X6_10 (ly_n hY 0 (by decide)) (ly_k hY 0 (by decide)) (Or.inr ⟨rfl, _, (ly_r hY 0 0 (by decide) (by decide)), rfl⟩) dX6_again_43 ?_
    refine x_callVV G [] [] rfl (by decide) (st_n (ly_st1 hY) 0 (by decide)) (st_k (ly_st1 hY) 0 (by decide)) hy_X3_rankAll hi_X3_rankAll hs_X3_rankAll ml_X6_77 rfl rfl (kX3_rankAll _ _ 1 (xst (xst V 0 12 (drw (V 0 12))) 7 i.toNat (drw (V 0 12) / 64)) (ly_st1 hY) (shw_xst (shw_xst (shw_fr hV (fun k9 g1 g2 g3 => h21.2 (1 + k9) (by omega))) (k := 0) (by decide)) (k := 7) (by decide)) hv2) (by decide) (by decide) (Nat.le_of_ble_eq_true rfl) dX6_again_46 (fun M46 h46 => ?_)
    refine x_iload_n G 0 rfl rfl dX6_again_49 ?_
    exact x_iret G Rt dX6_again_50 ⟨rfl, rfl, _, rfl, (by
        have e9 : aAgain V i = ((drw (V 0 12) / 64), some (xst (xst V 0 12 (drw (V 0 12))) 7 i.toNat (drw (V 0 12) / 64))) := (by unfold aAgain; (repeat (first | rw [if_pos (by omega)] | rw [if_neg (by omega)])) <;> try rfl)
        rw [e9]
        exact ⟨rfl, (fin_rank (shw_xst (shw_xst (shw_fr hV (fun k9 g1 g2 g3 => h21.2 (1 + k9) (by omega))) (k := 0) (by decide)) (k := 7) (by decide)) h46.2 h46.1 (hst_fr (hst_st (hst_st h21.1 (by omega)) (by omega)) (h46.2 14 (by simp <;> omega)) (fun q9 g1 g2 => h46.2 q9 (by simp <;> omega)))), (afr_trans (afr_st (afr_st (afr_trans (afr_refl _) (fun q9 g9 => h21.2 q9 (by omega))) (by omega)) (by omega)) (fun q9 g9 => h46.2 q9 (by simp <;> omega)))⟩)⟩
  · skip
    have c8 := b2i_eq0.mp c8
    refine x_iconst G (by decide) dX6_again_11 ?_
    exact x_iret G Rt dX6_again_12 ⟨rfl, rfl, _, rfl, (by
        have e9 : aAgain V i = ((-1), none) := (by unfold aAgain; (repeat (first | rw [if_pos (by omega)] | rw [if_neg (by omega)])) <;> try rfl)
        rw [e9]
        exact ⟨rfl, fin_same hV hs hH, (afr_refl _)⟩)⟩
set_option maxRecDepth 100000 in
set_option maxHeartbeats 4000000 in
theorem kX6_drop (D : xD) (l : Launch) {n : Nat} {T : xT} {M : xM} (V : xM) (Hs : List xM) (i : Int) (hY : LayOK n T) (hV : shw M 1 V) (hv : VOK V) (hs : Srt V (V 10) (V 0 10).toNat) (hH : Hst M Hs) : xC D l uX6_drop 3 64 0 0 [xR 0, xI i] n T M (xPI n T (fun z M2 => z = (aDrop V i).1 ∧ Fin1 M2 (nxV V (aDrop V i)) (nxH V Hs (aDrop V i)) ∧ afr M M2)) := by
  refine x_met uX6_drop (by decide) (Nat.le_of_ble_eq_true rfl) ?_
  intro Γ G Rt _
  have G : xG Γ RX6 cX6_drop 2 3 64 0 0 := G
  have Rt : xRt Γ (xPI n T (fun z M2 => z = (aDrop V i).1 ∧ Fin1 M2 (nxV V (aDrop V i)) (nxH V Hs (aDrop V i)) ∧ afr M M2)) (some .int) 0 0 := Rt
  show xX Γ 0 0 n T 0 [(0, xR 0), (1, xI i)] [] M
  have hc := ok_c hv
  have hsc := hv.1
  refine x_aload_n G 0 rfl rfl dX6_drop_0 ?_
  refine x_get G (xR 1) xf6_0 lk_X6_10 (ly_n hY 0 (by decide)) (ly_k hY 0 (by decide)) (Or.inr ⟨rfl, _, (ly_r hY 0 0 (by decide) (by decide)), rfl⟩) dX6_drop_1 ?_
  refine x_iload_n G 1 rfl rfl dX6_drop_4 ?_
  refine x_callVp G [] [xI i] rfl (by decide) (st_n (ly_st1 hY) 0 (by decide)) (st_k (ly_st1 hY) 0 (by decide)) hy_X3_hasUndropped hi_X3_hasUndropped hs_X3_hasUndropped ml_X6_120 rfl rfl (kX3_hasUndropped _ _ 1 V i (ly_st1 hY) hV hv) (by decide) (by decide) (Nat.le_of_ble_eq_true rfl) dX6_drop_5 ?_
  refine x_if_ne G 13 (by decide) dX6_drop_8 (fun c8 => ?_) (fun c8 => ?_)
  · skip
    have c8 := b2i_ne0.mp c8
    have hit := ok_i hv (i := i) (by omega) (by omega)
    have hv2 : VOK (xst V 9 i.toNat 1) := ok_item hv (by decide) (fun _ => by simp [xst_eq, itm]; omega)
    refine x_aload_n G 0 rfl rfl dX6_drop_13 ?_
    refine x_get G (xR 14) xf6_1 lk_X6_19 (ly_n hY 0 (by decide)) (ly_k hY 0 (by decide)) (Or.inr ⟨rfl, _, (ly_r hY 0 1 (by decide) (by decide)), rfl⟩) dX6_drop_14 ?_
    refine x_aload_n G 0 rfl rfl dX6_drop_17 ?_
    refine x_get G (xR 1) xf6_0 lk_X6_10 (ly_n hY 0 (by decide)) (ly_k hY 0 (by decide)) (Or.inr ⟨rfl, _, (ly_r hY 0 0 (by decide) (by decide)), rfl⟩) dX6_drop_18 ?_
    refine x_callVV G [] [xR 1] rfl (by decide) (ly_n hY 14 (by decide)) (ly_k hY 14 (by decide)) hy_X0_add hi_X0_add hs_X0_add ml_X6_96 rfl rfl (kX0_add _ _ V Hs hY hV hv hH) (by decide) (by decide) (Nat.le_of_ble_eq_true rfl) dX6_drop_21 (fun M21 h21 => ?_)
    refine x_aload_n G 0 rfl rfl dX6_drop_24 ?_
    refine x_get G (xR 1) xf6_0 lk_X6_10 (ly_n hY 0 (by decide)) (ly_k hY 0 (by decide)) (Or.inr ⟨rfl, _, (ly_r hY 0 0 (by decide) (by decide)), rfl⟩) dX6_drop_25 ?_
    refine x_get G (xR (1 + 9)) xf3_6 lk_X6_129 (st_n (ly_st1 hY) 0 (by decide)) (st_k (ly_st1 hY) 0 (by decide)) (Or.inr ⟨rfl, _, (st_r (ly_st1 hY) 0 6 (by decide) (by decide)), rfl⟩) dX6_drop_28 ?_
    refine x_iload_n G 1 rfl rfl dX6_drop_31 ?_
    refine x_iconst G (by decide) dX6_drop_32 ?_
    refine x_zast G (by omega) (st_n (ly_st1 hY) 9 (by decide)) (st_k (ly_st1 hY) 9 (by decide)) (show _ = 100 from st_l (ly_st1 hY) 9 (by decide)) (by omega) (by omega) dX6_drop_33 ?_
    refine x_aload_n G 0 rfl rfl dX6_drop_34 ?_
    refine x_get G (xR 1) xf6_0 lk_X6_10 (ly_n hY 0 (by decide)) (ly_k hY 0 (by decide)) (Or.inr ⟨rfl, _, (ly_r hY 0 0 (by decide) (by decide)), rfl⟩) dX6_drop_35 ?_
    refine x_aload_n G 0 rfl rfl dX6_drop_38 ?_
    refine x_get G (xR 1) xf6_0 lk_X6_10 (ly_n hY 0 (by decide)) (ly_k hY 0 (by decide)) (Or.inr ⟨rfl, _, (ly_r hY 0 0 (by decide) (by decide)), rfl⟩) dX6_drop_39 ?_
    refine x_get G (xR (1 + 4)) xf3_1 lk_X6_133 (st_n (ly_st1 hY) 0 (by decide)) (st_k (ly_st1 hY) 0 (by decide)) (Or.inr ⟨rfl, _, (st_r (ly_st1 hY) 0 1 (by decide) (by decide)), rfl⟩) dX6_drop_42 ?_
    refine x_iload_n G 1 rfl rfl dX6_drop_45 ?_
    refine x_iald G (st_n (ly_st1 hY) 4 (by decide)) (st_k (ly_st1 hY) 4 (by decide)) (show _ = 100 from st_l (ly_st1 hY) 4 (by decide)) (by omega) (by omega) dX6_drop_46 ?_
    rw [show (xst M21 (1 + 9) i.toNat 1) (1 + 4) i.toNat = (V 4 i.toNat) from ((xst_nq (by omega)).trans (congrFun ((shw_fr hV (fun k9 g1 g2 g3 => h21.2 (1 + k9) (by omega))) 4 (by decide) (by decide) (by decide)) i.toNat))]
    refine x_iconst G (by decide) dX6_drop_47 ?_
    refine x_callVp G [] [xI (V 4 i.toNat), xI (-1)] rfl (by decide) (st_n (ly_st1 hY) 0 (by decide)) (st_k (ly_st1 hY) 0 (by decide)) hy_X3_countUndropped hi_X3_countUndropped hs_X3_countUndropped ml_X6_136 rfl rfl (kX3_countUndropped _ _ 1 (xst V 9 i.toNat 1) (V 4 i.toNat) (-1) (ly_st1 hY) (shw_xst (shw_fr hV (fun k9 g1 g2 g3 => h21.2 (1 + k9) (by omega))) (k := 9) (by decide)) hv2) (by decide) (by decide) (Nat.le_of_ble_eq_true rfl) dX6_drop_48 ?_
    exact x_iret G Rt dX6_drop_51 ⟨rfl, rfl, _, rfl, (by
        have e9 : aDrop V i = ((fb_si (fun j => b2i (und (xst V 9 i.toNat 1) j (V 4 i.toNat) (-1))) ((xst V 9 i.toNat 1) 0 10).toNat), some (xst V 9 i.toNat 1)) := (by unfold aDrop; (repeat (first | rw [if_pos (by omega)] | rw [if_neg (by omega)])) <;> try rfl)
        rw [e9]
        exact ⟨rfl, (fin_same (shw_xst (shw_fr hV (fun k9 g1 g2 g3 => h21.2 (1 + k9) (by omega))) (k := 9) (by decide)) hs (hst_st h21.1 (by omega))), (afr_st (afr_trans (afr_refl _) (fun q9 g9 => h21.2 q9 (by omega))) (by omega))⟩)⟩
  · skip
    have c8 := b2i_eq0.mp c8
    refine x_iconst G (by decide) dX6_drop_11 ?_
    exact x_iret G Rt dX6_drop_12 ⟨rfl, rfl, _, rfl, (by
        have e9 : aDrop V i = ((-1), none) := (by unfold aDrop; (repeat (first | rw [if_pos (by omega)] | rw [if_neg (by omega)])) <;> try rfl)
        rw [e9]
        exact ⟨rfl, fin_same hV hs hH, (afr_refl _)⟩)⟩
set_option maxRecDepth 100000 in
set_option maxHeartbeats 4000000 in
theorem kX6_move (D : xD) (l : Launch) {n : Nat} {T : xT} {M : xM} (V : xM) (Hs : List xM) (i sh : Int) (hY : LayOK n T) (hV : shw M 1 V) (hv : VOK V) (hs : Srt V (V 10) (V 0 10).toNat) (hH : Hst M Hs) : xC D l uX6_move 3 64 0 0 [xR 0, xI i, xI sh] n T M (xPI n T (fun z M2 => z = (aMove V i sh).1 ∧ Fin1 M2 (nxV V (aMove V i sh)) (nxH V Hs (aMove V i sh)) ∧ afr M M2)) := by
  refine x_met uX6_move (by decide) (Nat.le_of_ble_eq_true rfl) ?_
  intro Γ G Rt _
  have G : xG Γ RX6 cX6_move 4 3 64 0 0 := G
  have Rt : xRt Γ (xPI n T (fun z M2 => z = (aMove V i sh).1 ∧ Fin1 M2 (nxV V (aMove V i sh)) (nxH V Hs (aMove V i sh)) ∧ afr M M2)) (some .int) 0 0 := Rt
  show xX Γ 0 0 n T 0 [(0, xR 0), (1, xI i), (2, xI sh)] [] M
  have hc := ok_c hv
  have hsc := hv.1
  refine x_aload_n G 0 rfl rfl dX6_move_0 ?_
  refine x_get G (xR 1) xf6_0 lk_X6_10 (ly_n hY 0 (by decide)) (ly_k hY 0 (by decide)) (Or.inr ⟨rfl, _, (ly_r hY 0 0 (by decide) (by decide)), rfl⟩) dX6_move_1 ?_
  refine x_iload_n G 1 rfl rfl dX6_move_4 ?_
  refine x_callVp G [] [xI i] rfl (by decide) (st_n (ly_st1 hY) 0 (by decide)) (st_k (ly_st1 hY) 0 (by decide)) hy_X3_hasUndropped hi_X3_hasUndropped hs_X3_hasUndropped ml_X6_120 rfl rfl (kX3_hasUndropped _ _ 1 V i (ly_st1 hY) hV hv) (by decide) (by decide) (Nat.le_of_ble_eq_true rfl) dX6_move_5 ?_
  refine x_if_eq G 18 (by decide) dX6_move_8 (fun c8 => ?_) (fun c8 => ?_)
  · skip
    have c8 := b2i_eq0.mp c8
    refine x_iconst G (by decide) dX6_move_18 ?_
    exact x_iret G Rt dX6_move_19 ⟨rfl, rfl, _, rfl, (by
        have e9 : aMove V i sh = ((-1), none) := (by unfold aMove; (repeat (first | rw [if_pos (by omega)] | rw [if_neg (by omega)])) <;> try rfl)
        rw [e9]
        exact ⟨rfl, fin_same hV hs hH, (afr_refl _)⟩)⟩
  · skip
    have c8 := b2i_ne0.mp c8
    refine x_iload_n G 2 rfl rfl dX6_move_11 ?_
    refine x_callSp G [] [xI sh] hy_X6_isShard ht_X6_isShard ml_X6_86 rfl rfl (kX6_isShard _ _ sh) (by decide) (by decide) (Nat.le_of_ble_eq_true rfl) dX6_move_12 ?_
    refine x_if_ne G 20 (by decide) dX6_move_15 (fun c15 => ?_) (fun c15 => ?_)
    · skip
      have c15 := b2i_ne0.mp c15
      have hit := ok_i hv (i := i) (by omega) (by omega)
      refine x_aload_n G 0 rfl rfl dX6_move_20 ?_
      refine x_get G (xR 1) xf6_0 lk_X6_10 (ly_n hY 0 (by decide)) (ly_k hY 0 (by decide)) (Or.inr ⟨rfl, _, (ly_r hY 0 0 (by decide) (by decide)), rfl⟩) dX6_move_21 ?_
      refine x_get G (xR (1 + 4)) xf3_1 lk_X6_133 (st_n (ly_st1 hY) 0 (by decide)) (st_k (ly_st1 hY) 0 (by decide)) (Or.inr ⟨rfl, _, (st_r (ly_st1 hY) 0 1 (by decide) (by decide)), rfl⟩) dX6_move_24 ?_
      refine x_iload_n G 1 rfl rfl dX6_move_27 ?_
      refine x_iald G (st_n (ly_st1 hY) 4 (by decide)) (st_k (ly_st1 hY) 4 (by decide)) (show _ = 100 from st_l (ly_st1 hY) 4 (by decide)) (by omega) (by omega) dX6_move_28 ?_
      rw [show M (1 + 4) i.toNat = (V 4 i.toNat) from (congrFun (hV 4 (by decide) (by decide) (by decide)) i.toNat)]
      refine x_istore_n G [(3, xI (V 4 i.toNat)), (0, xR 0), (1, xI i), (2, xI sh)] rfl (by decide) rfl dX6_move_29 ?_
      refine x_iload_n G 0 rfl rfl dX6_move_30 ?_
      refine x_iload_n G 3 rfl rfl dX6_move_31 ?_
      refine x_icmp_ne G 38 (by decide) dX6_move_32 (fun c32 => ?_) (fun c32 => ?_)
      · skip
        refine x_aload_n G 1 rfl rfl dX6_move_38 ?_
        refine x_get G (xR 14) xf6_1 lk_X6_19 (ly_n hY 0 (by decide)) (ly_k hY 0 (by decide)) (Or.inr ⟨rfl, _, (ly_r hY 0 1 (by decide) (by decide)), rfl⟩) dX6_move_39 ?_
        refine x_aload_n G 1 rfl rfl dX6_move_42 ?_
        refine x_get G (xR 1) xf6_0 lk_X6_10 (ly_n hY 0 (by decide)) (ly_k hY 0 (by decide)) (Or.inr ⟨rfl, _, (ly_r hY 0 0 (by decide) (by decide)), rfl⟩) dX6_move_43 ?_
        refine x_callVV G [] [xR 1] rfl (by decide) (ly_n hY 14 (by decide)) (ly_k hY 14 (by decide)) hy_X0_add hi_X0_add hs_X0_add ml_X6_96 rfl rfl (kX0_add _ _ V Hs hY hV hv hH) (by decide) (by decide) (Nat.le_of_ble_eq_true rfl) dX6_move_46 (fun M46 h46 => ?_)
        refine x_aload_n G 1 rfl rfl dX6_move_49 ?_
        refine x_get G (xR 1) xf6_0 lk_X6_10 (ly_n hY 0 (by decide)) (ly_k hY 0 (by decide)) (Or.inr ⟨rfl, _, (ly_r hY 0 0 (by decide) (by decide)), rfl⟩) dX6_move_50 ?_
        refine x_get G (xR (1 + 4)) xf3_1 lk_X6_133 (st_n (ly_st1 hY) 0 (by decide)) (st_k (ly_st1 hY) 0 (by decide)) (Or.inr ⟨rfl, _, (st_r (ly_st1 hY) 0 1 (by decide) (by decide)), rfl⟩) dX6_move_53 ?_
        refine x_iload_n G 2 rfl rfl dX6_move_56 ?_
        refine x_iload_n G 3 rfl rfl dX6_move_57 ?_
        refine x_iast G (st_n (ly_st1 hY) 4 (by decide)) (st_k (ly_st1 hY) 4 (by decide)) (show _ = 100 from st_l (ly_st1 hY) 4 (by decide)) (by omega) (by omega) dX6_move_58 ?_
        refine x_iload_n G 0 rfl rfl dX6_move_59 ?_
        exact x_iret G Rt dX6_move_60 ⟨rfl, rfl, _, rfl, (by
        have e9 : aMove V i sh = ((V 4 i.toNat), some (xst V 4 i.toNat sh)) := (by unfold aMove; (repeat (first | rw [if_pos (by omega)] | rw [if_neg (by omega)])) <;> try rfl)
        rw [e9]
        exact ⟨rfl, (fin_same (shw_xst (shw_fr hV (fun k9 g1 g2 g3 => h46.2 (1 + k9) (by omega))) (k := 4) (by decide)) hs (hst_st h46.1 (by omega))), (afr_st (afr_trans (afr_refl _) (fun q9 g9 => h46.2 q9 (by omega))) (by omega))⟩)⟩
      · skip
        refine x_bipush G (by decide) dX6_move_35 ?_
        exact x_iret G Rt dX6_move_37 ⟨rfl, rfl, _, rfl, (by
        have e9 : aMove V i sh = ((-2), none) := (by unfold aMove; (repeat (first | rw [if_pos (by omega)] | rw [if_neg (by omega)])) <;> try rfl)
        rw [e9]
        exact ⟨rfl, fin_same hV hs hH, (afr_refl _)⟩)⟩
    · skip
      have c15 := b2i_eq0.mp c15
      refine x_iconst G (by decide) dX6_move_18 ?_
      exact x_iret G Rt dX6_move_19 ⟨rfl, rfl, _, rfl, (by
        have e9 : aMove V i sh = ((-1), none) := (by unfold aMove; (repeat (first | rw [if_pos (by omega)] | rw [if_neg (by omega)])) <;> try rfl)
        rw [e9]
        exact ⟨rfl, fin_same hV hs hH, (afr_refl _)⟩)⟩
set_option maxRecDepth 100000 in
set_option maxHeartbeats 4000000 in
theorem kX6_seed (D : xD) (l : Launch) {n : Nat} {T : xT} {M : xM} (V : xM) (Hs : List xM) (m : Int) (hY : LayOK n T) (hV : shw M 1 V) (hv : VOK V) (hs : Srt V (V 10) (V 0 10).toNat) (hH : Hst M Hs) : xC D l uX6_seed 2 61 0 0 [xR 0, xI m] n T M (xPI n T (fun z M2 => z = (aSeed V m).1 ∧ Fin1 M2 (nxV V (aSeed V m)) (nxH V Hs (aSeed V m)) ∧ afr M M2)) := by
  refine x_met uX6_seed (by decide) (Nat.le_of_ble_eq_true rfl) ?_
  intro Γ G Rt _
  have G : xG Γ RX6 cX6_seed 3 2 61 0 0 := G
  have Rt : xRt Γ (xPI n T (fun z M2 => z = (aSeed V m).1 ∧ Fin1 M2 (nxV V (aSeed V m)) (nxH V Hs (aSeed V m)) ∧ afr M M2)) (some .int) 0 0 := Rt
  show xX Γ 0 0 n T 0 [(0, xR 0), (1, xI m)] [] M
  have hc := ok_c hv
  have hsc := hv.1
  refine x_iload_n G 1 rfl rfl dX6_seed_0 ?_
  refine x_iconst G (by decide) dX6_seed_1 ?_
  refine x_ldc G (z := 65535) (by decide) kc_X6_172 dX6_seed_2 ?_
  refine x_callSp G [] [xI m, xI 0, xI 65535] hy_X6_isWithin ht_X6_isWithin ml_X6_62 rfl rfl (kX6_isWithin _ _ m 0 65535) (by decide) (by decide) (Nat.le_of_ble_eq_true rfl) dX6_seed_4 ?_
  refine x_if_ne G 12 (by decide) dX6_seed_7 (fun c7 => ?_) (fun c7 => ?_)
  · skip
    have c7 := b2i_ne0.mp c7
    refine x_aload_n G 0 rfl rfl dX6_seed_12 ?_
    refine x_get G (xR 1) xf6_0 lk_X6_10 (ly_n hY 0 (by decide)) (ly_k hY 0 (by decide)) (Or.inr ⟨rfl, _, (ly_r hY 0 0 (by decide) (by decide)), rfl⟩) dX6_seed_13 ?_
    refine x_get G (xI (M 1 12)) xf3_12 lk_X6_173 (st_n (ly_st1 hY) 0 (by decide)) (st_k (ly_st1 hY) 0 (by decide)) (Or.inl ⟨rfl, rfl⟩) dX6_seed_16 ?_
    rw [show M 1 12 = (V 0 12) from (congrFun (hV 0 (by decide) (by decide) (by decide)) 12)]
    refine x_istore_n G [(2, xI (V 0 12)), (0, xR 0), (1, xI m)] rfl (by decide) rfl dX6_seed_19 ?_
    refine x_iload_n G 0 rfl rfl dX6_seed_20 ?_
    refine x_iload_n G 2 rfl rfl dX6_seed_21 ?_
    refine x_icmp_ne G 28 (by decide) dX6_seed_22 (fun c22 => ?_) (fun c22 => ?_)
    · skip
      refine x_aload_n G 1 rfl rfl dX6_seed_28 ?_
      refine x_get G (xR 14) xf6_1 lk_X6_19 (ly_n hY 0 (by decide)) (ly_k hY 0 (by decide)) (Or.inr ⟨rfl, _, (ly_r hY 0 1 (by decide) (by decide)), rfl⟩) dX6_seed_29 ?_
      refine x_aload_n G 1 rfl rfl dX6_seed_32 ?_
      refine x_get G (xR 1) xf6_0 lk_X6_10 (ly_n hY 0 (by decide)) (ly_k hY 0 (by decide)) (Or.inr ⟨rfl, _, (ly_r hY 0 0 (by decide) (by decide)), rfl⟩) dX6_seed_33 ?_
      refine x_callVV G [] [xR 1] rfl (by decide) (ly_n hY 14 (by decide)) (ly_k hY 14 (by decide)) hy_X0_add hi_X0_add hs_X0_add ml_X6_96 rfl rfl (kX0_add _ _ V Hs hY hV hv hH) (by decide) (by decide) (Nat.le_of_ble_eq_true rfl) dX6_seed_36 (fun M36 h36 => ?_)
      refine x_aload_n G 1 rfl rfl dX6_seed_39 ?_
      refine x_get G (xR 1) xf6_0 lk_X6_10 (ly_n hY 0 (by decide)) (ly_k hY 0 (by decide)) (Or.inr ⟨rfl, _, (ly_r hY 0 0 (by decide) (by decide)), rfl⟩) dX6_seed_40 ?_
      refine x_iload_n G 2 rfl rfl dX6_seed_43 ?_
      refine x_put G  xf3_12 lk_X6_173 (st_n (ly_st1 hY) 0 (by decide)) (st_k (ly_st1 hY) 0 (by decide)) rfl dX6_seed_44 ?_
      refine x_iload_n G 0 rfl rfl dX6_seed_47 ?_
      exact x_iret G Rt dX6_seed_48 ⟨rfl, rfl, _, rfl, (by
        have e9 : aSeed V m = ((V 0 12), some (xst V 0 12 m)) := (by unfold aSeed; (repeat (first | rw [if_pos (by omega)] | rw [if_neg (by omega)])) <;> try rfl)
        rw [e9]
        exact ⟨rfl, (fin_same (shw_xst (shw_fr hV (fun k9 g1 g2 g3 => h36.2 (1 + k9) (by omega))) (k := 0) (by decide)) hs (hst_st h36.1 (by omega))), (afr_st (afr_trans (afr_refl _) (fun q9 g9 => h36.2 q9 (by omega))) (by omega))⟩)⟩
    · skip
      refine x_bipush G (by decide) dX6_seed_25 ?_
      exact x_iret G Rt dX6_seed_27 ⟨rfl, rfl, _, rfl, (by
        have e9 : aSeed V m = ((-2), none) := (by unfold aSeed; (repeat (first | rw [if_pos (by omega)] | rw [if_neg (by omega)])) <;> try rfl)
        rw [e9]
        exact ⟨rfl, fin_same hV hs hH, (afr_refl _)⟩)⟩
  · skip
    have c7 := b2i_eq0.mp c7
    refine x_iconst G (by decide) dX6_seed_10 ?_
    exact x_iret G Rt dX6_seed_11 ⟨rfl, rfl, _, rfl, (by
        have e9 : aSeed V m = ((-1), none) := (by unfold aSeed; (repeat (first | rw [if_pos (by omega)] | rw [if_neg (by omega)])) <;> try rfl)
        rw [e9]
        exact ⟨rfl, fin_same hV hs hH, (afr_refl _)⟩)⟩
set_option maxRecDepth 100000 in
set_option maxHeartbeats 4000000 in
theorem kX6_swap (D : xD) (l : Launch) {n : Nat} {T : xT} {M : xM} (V : xM) (Hs : List xM) (i j : Int) (hY : LayOK n T) (hV : shw M 1 V) (hv : VOK V) (hs : Srt V (V 10) (V 0 10).toNat) (hH : Hst M Hs) : xC D l uX6_swap 7 159 0 0 [xR 0, xI i, xI j] n T M (xPI n T (fun z M2 => z = (aSwap V i j).1 ∧ Fin1 M2 (nxV V (aSwap V i j)) (nxH V Hs (aSwap V i j)) ∧ afr M M2)) := by
  refine x_met uX6_swap (by decide) (Nat.le_of_ble_eq_true rfl) ?_
  intro Γ G Rt _
  have G : xG Γ RX6 cX6_swap 4 7 159 0 0 := G
  have Rt : xRt Γ (xPI n T (fun z M2 => z = (aSwap V i j).1 ∧ Fin1 M2 (nxV V (aSwap V i j)) (nxH V Hs (aSwap V i j)) ∧ afr M M2)) (some .int) 0 0 := Rt
  show xX Γ 0 0 n T 0 [(0, xR 0), (1, xI i), (2, xI j)] [] M
  have hc := ok_c hv
  have hsc := hv.1
  refine x_aload_n G 0 rfl rfl dX6_swap_0 ?_
  refine x_get G (xR 1) xf6_0 lk_X6_10 (ly_n hY 0 (by decide)) (ly_k hY 0 (by decide)) (Or.inr ⟨rfl, _, (ly_r hY 0 0 (by decide) (by decide)), rfl⟩) dX6_swap_1 ?_
  refine x_iload_n G 1 rfl rfl dX6_swap_4 ?_
  refine x_callVp G [] [xI i] rfl (by decide) (st_n (ly_st1 hY) 0 (by decide)) (st_k (ly_st1 hY) 0 (by decide)) hy_X3_hasUndropped hi_X3_hasUndropped hs_X3_hasUndropped ml_X6_120 rfl rfl (kX3_hasUndropped _ _ 1 V i (ly_st1 hY) hV hv) (by decide) (by decide) (Nat.le_of_ble_eq_true rfl) dX6_swap_5 ?_
  refine x_if_eq G 27 (by decide) dX6_swap_8 (fun c8 => ?_) (fun c8 => ?_)
  · skip
    have c8 := b2i_eq0.mp c8
    refine x_iconst G (by decide) dX6_swap_27 ?_
    exact x_iret G Rt dX6_swap_28 ⟨rfl, rfl, _, rfl, (by
        have e9 : aSwap V i j = ((-1), none) := (by unfold aSwap; (repeat (first | rw [if_pos (by omega)] | rw [if_neg (by omega)])) <;> try rfl)
        rw [e9]
        exact ⟨rfl, fin_same hV hs hH, (afr_refl _)⟩)⟩
  · skip
    have c8 := b2i_ne0.mp c8
    refine x_aload_n G 0 rfl rfl dX6_swap_11 ?_
    refine x_get G (xR 1) xf6_0 lk_X6_10 (ly_n hY 0 (by decide)) (ly_k hY 0 (by decide)) (Or.inr ⟨rfl, _, (ly_r hY 0 0 (by decide) (by decide)), rfl⟩) dX6_swap_12 ?_
    refine x_iload_n G 2 rfl rfl dX6_swap_15 ?_
    refine x_callVp G [] [xI j] rfl (by decide) (st_n (ly_st1 hY) 0 (by decide)) (st_k (ly_st1 hY) 0 (by decide)) hy_X3_hasUndropped hi_X3_hasUndropped hs_X3_hasUndropped ml_X6_120 rfl rfl (kX3_hasUndropped _ _ 1 V j (ly_st1 hY) hV hv) (by decide) (by decide) (Nat.le_of_ble_eq_true rfl) dX6_swap_16 ?_
    refine x_if_eq G 27 (by decide) dX6_swap_19 (fun c19 => ?_) (fun c19 => ?_)
    · skip
      have c19 := b2i_eq0.mp c19
      refine x_iconst G (by decide) dX6_swap_27 ?_
      exact x_iret G Rt dX6_swap_28 ⟨rfl, rfl, _, rfl, (by
        have e9 : aSwap V i j = ((-1), none) := (by unfold aSwap; (repeat (first | rw [if_pos (by omega)] | rw [if_neg (by omega)])) <;> try rfl)
        rw [e9]
        exact ⟨rfl, fin_same hV hs hH, (afr_refl _)⟩)⟩
    · skip
      have c19 := b2i_ne0.mp c19
      refine x_iload_n G 1 rfl rfl dX6_swap_22 ?_
      refine x_iload_n G 2 rfl rfl dX6_swap_23 ?_
      refine x_icmp_ne G 29 (by decide) dX6_swap_24 (fun c24 => ?_) (fun c24 => ?_)
      · skip
        have hit := ok_i hv (i := i) (by omega) (by omega)
        have hjt := ok_i hv (i := j) (by omega) (by omega)
        refine x_aload_n G 0 rfl rfl dX6_swap_29 ?_
        refine x_get G (xR 1) xf6_0 lk_X6_10 (ly_n hY 0 (by decide)) (ly_k hY 0 (by decide)) (Or.inr ⟨rfl, _, (ly_r hY 0 0 (by decide) (by decide)), rfl⟩) dX6_swap_30 ?_
        refine x_get G (xR (1 + 7)) xf3_4 lk_X6_126 (st_n (ly_st1 hY) 0 (by decide)) (st_k (ly_st1 hY) 0 (by decide)) (Or.inr ⟨rfl, _, (st_r (ly_st1 hY) 0 4 (by decide) (by decide)), rfl⟩) dX6_swap_33 ?_
        refine x_iload_n G 1 rfl rfl dX6_swap_36 ?_
        refine x_iald G (st_n (ly_st1 hY) 7 (by decide)) (st_k (ly_st1 hY) 7 (by decide)) (show _ = 100 from st_l (ly_st1 hY) 7 (by decide)) (by omega) (by omega) dX6_swap_37 ?_
        rw [show M (1 + 7) i.toNat = (V 7 i.toNat) from (congrFun (hV 7 (by decide) (by decide) (by decide)) i.toNat)]
        refine x_istore_n G [(3, xI (V 7 i.toNat)), (0, xR 0), (1, xI i), (2, xI j)] rfl (by decide) rfl dX6_swap_38 ?_
        refine x_iload_n G 0 rfl rfl dX6_swap_39 ?_
        refine x_aload_n G 1 rfl rfl dX6_swap_40 ?_
        refine x_get G (xR 1) xf6_0 lk_X6_10 (ly_n hY 0 (by decide)) (ly_k hY 0 (by decide)) (Or.inr ⟨rfl, _, (ly_r hY 0 0 (by decide) (by decide)), rfl⟩) dX6_swap_41 ?_
        refine x_get G (xR (1 + 7)) xf3_4 lk_X6_126 (st_n (ly_st1 hY) 0 (by decide)) (st_k (ly_st1 hY) 0 (by decide)) (Or.inr ⟨rfl, _, (st_r (ly_st1 hY) 0 4 (by decide) (by decide)), rfl⟩) dX6_swap_44 ?_
        refine x_iload_n G 3 rfl rfl dX6_swap_47 ?_
        refine x_iald G (st_n (ly_st1 hY) 7 (by decide)) (st_k (ly_st1 hY) 7 (by decide)) (show _ = 100 from st_l (ly_st1 hY) 7 (by decide)) (by omega) (by omega) dX6_swap_48 ?_
        rw [show M (1 + 7) j.toNat = (V 7 j.toNat) from (congrFun (hV 7 (by decide) (by decide) (by decide)) j.toNat)]
        refine x_icmp_ne G 55 (by decide) dX6_swap_49 (fun c49 => ?_) (fun c49 => ?_)
        · skip
          have hv2 : VOK (xst V 7 i.toNat (V 7 j.toNat)) := ok_item hv (by decide) (fun _ => by simp [xst_eq, itm]; omega)
          have hv3 : VOK (xst (xst V 7 i.toNat (V 7 j.toNat)) 7 j.toNat (V 7 i.toNat)) := ok_item hv2 (by decide) (fun _ => by simp [xst_eq, itm]; omega)
          refine x_aload_n G 1 rfl rfl dX6_swap_55 ?_
          refine x_get G (xR 14) xf6_1 lk_X6_19 (ly_n hY 0 (by decide)) (ly_k hY 0 (by decide)) (Or.inr ⟨rfl, _, (ly_r hY 0 1 (by decide) (by decide)), rfl⟩) dX6_swap_56 ?_
          refine x_aload_n G 1 rfl rfl dX6_swap_59 ?_
          refine x_get G (xR 1) xf6_0 lk_X6_10 (ly_n hY 0 (by decide)) (ly_k hY 0 (by decide)) (Or.inr ⟨rfl, _, (ly_r hY 0 0 (by decide) (by decide)), rfl⟩) dX6_swap_60 ?_
          refine x_callVV G [] [xR 1] rfl (by decide) (ly_n hY 14 (by decide)) (ly_k hY 14 (by decide)) hy_X0_add hi_X0_add hs_X0_add ml_X6_96 rfl rfl (kX0_add _ _ V Hs hY hV hv hH) (by decide) (by decide) (Nat.le_of_ble_eq_true rfl) dX6_swap_63 (fun M63 h63 => ?_)
          refine x_aload_n G 1 rfl rfl dX6_swap_66 ?_
          refine x_get G (xR 1) xf6_0 lk_X6_10 (ly_n hY 0 (by decide)) (ly_k hY 0 (by decide)) (Or.inr ⟨rfl, _, (ly_r hY 0 0 (by decide) (by decide)), rfl⟩) dX6_swap_67 ?_
          refine x_get G (xR (1 + 7)) xf3_4 lk_X6_126 (st_n (ly_st1 hY) 0 (by decide)) (st_k (ly_st1 hY) 0 (by decide)) (Or.inr ⟨rfl, _, (st_r (ly_st1 hY) 0 4 (by decide) (by decide)), rfl⟩) dX6_swap_70 ?_
          refine x_iload_n G 2 rfl rfl dX6_swap_73 ?_
          refine x_aload_n G 1 rfl rfl dX6_swap_74 ?_
          refine x_get G (xR 1) xf6_0 lk_X6_10 (ly_n hY 0 (by decide)) (ly_k hY 0 (by decide)) (Or.inr ⟨rfl, _, (ly_r hY 0 0 (by decide) (by decide)), rfl⟩) dX6_swap_75 ?_
          refine x_get G (xR (1 + 7)) xf3_4 lk_X6_126 (st_n (ly_st1 hY) 0 (by decide)) (st_k (ly_st1 hY) 0 (by decide)) (Or.inr ⟨rfl, _, (st_r (ly_st1 hY) 0 4 (by decide) (by decide)), rfl⟩) dX6_swap_78 ?_
          refine x_iload_n G 3 rfl rfl dX6_swap_81 ?_
          refine x_iald G (st_n (ly_st1 hY) 7 (by decide)) (st_k (ly_st1 hY) 7 (by decide)) (show _ = 100 from st_l (ly_st1 hY) 7 (by decide)) (by omega) (by omega) dX6_swap_82 ?_
          rw [show M63 (1 + 7) j.toNat = (V 7 j.toNat) from (congrFun ((shw_fr hV (fun k9 g1 g2 g3 => h63.2 (1 + k9) (by omega))) 7 (by decide) (by decide) (by decide)) j.toNat)]
          refine x_iast G (st_n (ly_st1 hY) 7 (by decide)) (st_k (ly_st1 hY) 7 (by decide)) (show _ = 100 from st_l (ly_st1 hY) 7 (by decide)) (by omega) (by omega) dX6_swap_83 ?_
          refine x_aload_n G 1 rfl rfl dX6_swap_84 ?_
          refine x_get G (xR 1) xf6_0 lk_X6_10 (ly_n hY 0 (by decide)) (ly_k hY 0 (by decide)) (Or.inr ⟨rfl, _, (ly_r hY 0 0 (by decide) (by decide)), rfl⟩) dX6_swap_85 ?_
          refine x_get G (xR (1 + 7)) xf3_4 lk_X6_126 (st_n (ly_st1 hY) 0 (by decide)) (st_k (ly_st1 hY) 0 (by decide)) (Or.inr ⟨rfl, _, (st_r (ly_st1 hY) 0 4 (by decide) (by decide)), rfl⟩) dX6_swap_88 ?_
          refine x_iload_n G 3 rfl rfl dX6_swap_91 ?_
          refine x_iload_n G 0 rfl rfl dX6_swap_92 ?_
          refine x_iast G (st_n (ly_st1 hY) 7 (by decide)) (st_k (ly_st1 hY) 7 (by decide)) (show _ = 100 from st_l (ly_st1 hY) 7 (by decide)) (by omega) (by omega) dX6_swap_93 ?_
          refine x_aload_n G 1 rfl rfl dX6_swap_94 ?_
          refine x_get G (xR 1) xf6_0 lk_X6_10 (ly_n hY 0 (by decide)) (ly_k hY 0 (by decide)) (Or.inr ⟨rfl, _, (ly_r hY 0 0 (by decide) (by decide)), rfl⟩) dX6_swap_95 ?_
          refine x_callVV G [] [] rfl (by decide) (st_n (ly_st1 hY) 0 (by decide)) (st_k (ly_st1 hY) 0 (by decide)) hy_X3_rankAll hi_X3_rankAll hs_X3_rankAll ml_X6_77 rfl rfl (kX3_rankAll _ _ 1 (xst (xst V 7 i.toNat (V 7 j.toNat)) 7 j.toNat (V 7 i.toNat)) (ly_st1 hY) (shw_xst (shw_xst (shw_fr hV (fun k9 g1 g2 g3 => h63.2 (1 + k9) (by omega))) (k := 7) (by decide)) (k := 7) (by decide)) hv3) (by decide) (by decide) (Nat.le_of_ble_eq_true rfl) dX6_swap_98 (fun M98 h98 => ?_)
          refine x_iconst G (by decide) dX6_swap_101 ?_
          exact x_iret G Rt dX6_swap_102 ⟨rfl, rfl, _, rfl, (by
        have e9 : aSwap V i j = (1, some (xst (xst V 7 i.toNat (V 7 j.toNat)) 7 j.toNat (V 7 i.toNat))) := (by unfold aSwap; (repeat (first | rw [if_pos (by omega)] | rw [if_neg (by omega)])) <;> try rfl)
        rw [e9]
        exact ⟨rfl, (fin_rank (shw_xst (shw_xst (shw_fr hV (fun k9 g1 g2 g3 => h63.2 (1 + k9) (by omega))) (k := 7) (by decide)) (k := 7) (by decide)) h98.2 h98.1 (hst_fr (hst_st (hst_st h63.1 (by omega)) (by omega)) (h98.2 14 (by simp <;> omega)) (fun q9 g1 g2 => h98.2 q9 (by simp <;> omega)))), (afr_trans (afr_st (afr_st (afr_trans (afr_refl _) (fun q9 g9 => h63.2 q9 (by omega))) (by omega)) (by omega)) (fun q9 g9 => h98.2 q9 (by simp <;> omega)))⟩)⟩
        · skip
          refine x_bipush G (by decide) dX6_swap_52 ?_
          exact x_iret G Rt dX6_swap_54 ⟨rfl, rfl, _, rfl, (by
        have e9 : aSwap V i j = ((-2), none) := (by unfold aSwap; (repeat (first | rw [if_pos (by omega)] | rw [if_neg (by omega)])) <;> try rfl)
        rw [e9]
        exact ⟨rfl, fin_same hV hs hH, (afr_refl _)⟩)⟩
      · skip
        refine x_iconst G (by decide) dX6_swap_27 ?_
        exact x_iret G Rt dX6_swap_28 ⟨rfl, rfl, _, rfl, (by
        have e9 : aSwap V i j = ((-1), none) := (by unfold aSwap; (repeat (first | rw [if_pos (by omega)] | rw [if_neg (by omega)])) <;> try rfl)
        rw [e9]
        exact ⟨rfl, fin_same hV hs hH, (afr_refl _)⟩)⟩
