def minAt (V : xM) (L : List Nat) (k f : Int) : Prop := (k = 0 ∧ f = 99999) ∨ ∃ j : Nat, (j : Int) < k ∧ f = V 8 (L.getD j 0)
theorem wo_len {V : xM} (hv : VOK V) (i : Nat) : (woL V i).length ≤ 100 := take_len (Nat.le_trans (List.length_filter_le _ _) (alL_len hv _ _ _ _))
theorem qPl_b (L : List Nat) (i : Nat) (h : L.length ≤ 100) : -2 ≤ qPl L i ∧ qPl L i < 100 := by
  unfold qPl
  split
  · next hm => have := List.idxOf_lt_length_of_mem hm; omega
  · omega
theorem rvt_b {V : xM} (hv : VOK V) {i : Nat} {z : Int} (h : Rvt V i z) : z = -1 ∨ (0 ≤ z ∧ z ≤ V 0 11) := by
  rcases h with h | ⟨j, hj, _, e, _⟩
  · exact Or.inl h.1
  · have := hv.2.2.1 j hj
    exact Or.inr (by omega)
theorem fil_lt {V : xM} (hv : VOK V) (hs : Srt V (V 10) (V 0 10).toNat) {sh t : Int} (h : 0 ≤ sh ∧ sh ≤ 3) : fil V (fun i => decide (asd V (2 ^ sh.toNat) (V 0 11 + t) 100 (-1) i)) (V 11 sh.toNat) 100 (rkl V) = ltL V sh t := by
  rw [fil_al hv hs h, alL_up hs (by have := ok_c hv; omega)]
  rfl
set_option maxRecDepth 100000 in
set_option maxHeartbeats 4000000 in
theorem kX6_takeWithout (D : xD) (l : Launch) {n : Nat} {T : xT} {M : xM} (V : xM) (i : Int) (hY : LayOK n T) (hV : shw M 1 V) (hv : VOK V) (hs : Srt V (V 10) (V 0 10).toNat) (hi : isI V i) : xC D l uX6_takeWithout 3 69 0 0 [xR 0, xI i] n T M (xPV n T (fun M2 => Smp M2 162 V (woL V i.toNat) ∧ M2 162 4 = V 11 (V 4 i.toNat).toNat ∧ xof [3, 4, 162, 163, 164, 165, 166, 167] M M2)) := by
  refine x_met uX6_takeWithout (by decide) (Nat.le_of_ble_eq_true rfl) ?_
  intro Γ G Rt _
  have G : xG Γ RX6 cX6_takeWithout 2 3 69 0 0 := G
  have Rt : xRt Γ (xPV n T (fun M2 => Smp M2 162 V (woL V i.toNat) ∧ M2 162 4 = V 11 (V 4 i.toNat).toNat ∧ xof [3, 4, 162, 163, 164, 165, 166, 167] M M2)) none 0 0 := Rt
  show xX Γ 0 0 n T 0 [(0, xR 0), (1, xI i)] [] M
  have hsc := hv.1
  have hc := ok_c hv
  have hit := ok_i hv hi.1 hi.2
  refine x_aload_n G 0 rfl rfl dX6_takeWithout_0 ?_
  refine x_get G (xR 162) xf6_4 lk_X6_37 (ly_n hY 0 (by decide)) (ly_k hY 0 (by decide)) (Or.inr ⟨rfl, _, (ly_r hY 0 4 (by decide) (by decide)), rfl⟩) dX6_takeWithout_1 ?_
  refine x_aload_n G 0 rfl rfl dX6_takeWithout_4 ?_
  refine x_get G (xR 1) xf6_0 lk_X6_10 (ly_n hY 0 (by decide)) (ly_k hY 0 (by decide)) (Or.inr ⟨rfl, _, (ly_r hY 0 0 (by decide) (by decide)), rfl⟩) dX6_takeWithout_5 ?_
  refine x_aload_n G 0 rfl rfl dX6_takeWithout_8 ?_
  refine x_get G (xR 1) xf6_0 lk_X6_10 (ly_n hY 0 (by decide)) (ly_k hY 0 (by decide)) (Or.inr ⟨rfl, _, (ly_r hY 0 0 (by decide) (by decide)), rfl⟩) dX6_takeWithout_9 ?_
  refine x_get G (xR (1 + 4)) xf3_1 lk_X6_133 (st_n (ly_st1 hY) 0 (by decide)) (st_k (ly_st1 hY) 0 (by decide)) (Or.inr ⟨rfl, _, (st_r (ly_st1 hY) 0 1 (by decide) (by decide)), rfl⟩) dX6_takeWithout_12 ?_
  refine x_iload_n G 1 rfl rfl dX6_takeWithout_15 ?_
  refine x_iald G (st_n (ly_st1 hY) 4 (by decide)) (st_k (ly_st1 hY) 4 (by decide)) (show _ = 100 from st_l (ly_st1 hY) 4 (by decide)) (by omega) (by omega) dX6_takeWithout_16 ?_
  rw [show M (1 + 4) i.toNat = (V 4 i.toNat) from (congrFun (hV 4 (by decide) (by decide) (by decide)) i.toNat)]
  refine x_callVV G [] [xR 1, xI (V 4 i.toNat)] rfl (by decide) (sa_n (ly_sa162 hY) 0 (by decide)) (sa_k (ly_sa162 hY) 0 (by decide)) hy_X2_ask hi_X2_ask hs_X2_ask ml_X6_208 rfl rfl (kX2_ask _ _ 162 1 V (V 4 i.toNat) (ly_sa162 hY) (ly_st1 hY) (by omega) hV hv (by omega)) (by decide) (by decide) (Nat.le_of_ble_eq_true rfl) dX6_takeWithout_17 (fun M17 h17 => ?_)
  have hbp17 : 1 ≤ (2 : Int) ^ ((V 4 i.toNat) : Int).toNat ∧ (2 : Int) ^ ((V 4 i.toNat) : Int).toNat ≤ 8 := two_b (by omega)
  refine x_aload_n G 0 rfl rfl dX6_takeWithout_20 ?_
  refine x_get G (xR 162) xf6_4 lk_X6_37 (ly_n hY 0 (by decide)) (ly_k hY 0 (by decide)) (Or.inr ⟨rfl, _, (ly_r hY 0 4 (by decide) (by decide)), rfl⟩) dX6_takeWithout_21 ?_
  refine x_iload_n G 1 rfl rfl dX6_takeWithout_24 ?_
  refine x_put G  xf2_7 lk_X6_276 (sa_n (ly_sa162 hY) 0 (by decide)) (sa_k (ly_sa162 hY) 0 (by decide)) rfl dX6_takeWithout_25 ?_
  refine x_aload_n G 0 rfl rfl dX6_takeWithout_28 ?_
  refine x_get G (xR 162) xf6_4 lk_X6_37 (ly_n hY 0 (by decide)) (ly_k hY 0 (by decide)) (Or.inr ⟨rfl, _, (ly_r hY 0 4 (by decide) (by decide)), rfl⟩) dX6_takeWithout_29 ?_
  refine x_aload_n G 0 rfl rfl dX6_takeWithout_32 ?_
  refine x_get G (xR 1) xf6_0 lk_X6_10 (ly_n hY 0 (by decide)) (ly_k hY 0 (by decide)) (Or.inr ⟨rfl, _, (ly_r hY 0 0 (by decide) (by decide)), rfl⟩) dX6_takeWithout_33 ?_
  refine x_callVV G [] [xR 1] rfl (by decide) (sa_n (ly_sa162 hY) 0 (by decide)) (sa_k (ly_sa162 hY) 0 (by decide)) hy_X2_fill hi_X2_fill hs_X2_fill ml_X6_214 rfl rfl (kX2_fill _ _ 162 1 V (2 ^ ((V 4 i.toNat) : Int).toNat) (V 11 ((V 4 i.toNat) : Int).toNat) (V 0 11) 100 i 100 (ly_sa162 hY) (ly_st1 hY) (by omega) (shw_st (shw_xof hV h17.2 (by intro k9 h1 h2 h3; simp <;> omega)) (by omega)) hv (ask_s7 h17.1) (by omega) (by omega) hs) (by decide) (by decide) (Nat.le_of_ble_eq_true rfl) dX6_takeWithout_36 (fun M36 h36 => ?_)
  have hsm36 : Smp M36 162 V (woL V i.toNat) := by
    have e9 := h36.1
    rw [fil_wo hv hs hi] at e9
    exact e9
  have hn36 := hsm36.1
  have hl36 : (woL V i.toNat).length ≤ 100 := by
    rw [← fil_wo hv hs hi]
    exact fil_len2 hv _ _ _
  exact x_vret G Rt dX6_takeWithout_39 ⟨rfl, rfl, rfl, ⟨hsm36, h36.2.1.2.1, (xof_trans (xof_trans (xof_trans (xof_refl _ _) (xof_mono h17.2 (by decide))) (xof_xst (by decide))) (xof_mono h36.2.2 (by decide)))⟩⟩
set_option maxRecDepth 100000 in
set_option maxHeartbeats 4000000 in
theorem kX6_askThen (D : xD) (l : Launch) {n : Nat} {T : xT} {M : xM} (V : xM) (i : Int) (hY : LayOK n T) (hV : shw M 1 V) (hv : VOK V) (hs : Srt V (V 10) (V 0 10).toNat) (hi : isI V i) : xC D l uX6_askThen 1 22 0 0 [xR 0, xI i] n T M (xPV n T (fun M2 => Ask M2 162 (2 ^ (V 4 i.toNat).toNat) (V 11 (V 4 i.toNat).toNat) (V 8 i.toNat) i (-1) 100 ∧ xof [3, 4, 162, 163, 164, 165, 166, 167] M M2)) := by
  refine x_met uX6_askThen (by decide) (Nat.le_of_ble_eq_true rfl) ?_
  intro Γ G Rt _
  have G : xG Γ RX6 cX6_askThen 2 1 22 0 0 := G
  have Rt : xRt Γ (xPV n T (fun M2 => Ask M2 162 (2 ^ (V 4 i.toNat).toNat) (V 11 (V 4 i.toNat).toNat) (V 8 i.toNat) i (-1) 100 ∧ xof [3, 4, 162, 163, 164, 165, 166, 167] M M2)) none 0 0 := Rt
  show xX Γ 0 0 n T 0 [(0, xR 0), (1, xI i)] [] M
  have hsc := hv.1
  have hc := ok_c hv
  have hit := ok_i hv hi.1 hi.2
  refine x_aload_n G 0 rfl rfl dX6_askThen_0 ?_
  refine x_get G (xR 162) xf6_4 lk_X6_37 (ly_n hY 0 (by decide)) (ly_k hY 0 (by decide)) (Or.inr ⟨rfl, _, (ly_r hY 0 4 (by decide) (by decide)), rfl⟩) dX6_askThen_1 ?_
  refine x_aload_n G 0 rfl rfl dX6_askThen_4 ?_
  refine x_get G (xR 1) xf6_0 lk_X6_10 (ly_n hY 0 (by decide)) (ly_k hY 0 (by decide)) (Or.inr ⟨rfl, _, (ly_r hY 0 0 (by decide) (by decide)), rfl⟩) dX6_askThen_5 ?_
  refine x_aload_n G 0 rfl rfl dX6_askThen_8 ?_
  refine x_get G (xR 1) xf6_0 lk_X6_10 (ly_n hY 0 (by decide)) (ly_k hY 0 (by decide)) (Or.inr ⟨rfl, _, (ly_r hY 0 0 (by decide) (by decide)), rfl⟩) dX6_askThen_9 ?_
  refine x_get G (xR (1 + 4)) xf3_1 lk_X6_133 (st_n (ly_st1 hY) 0 (by decide)) (st_k (ly_st1 hY) 0 (by decide)) (Or.inr ⟨rfl, _, (st_r (ly_st1 hY) 0 1 (by decide) (by decide)), rfl⟩) dX6_askThen_12 ?_
  refine x_iload_n G 1 rfl rfl dX6_askThen_15 ?_
  refine x_iald G (st_n (ly_st1 hY) 4 (by decide)) (st_k (ly_st1 hY) 4 (by decide)) (show _ = 100 from st_l (ly_st1 hY) 4 (by decide)) (by omega) (by omega) dX6_askThen_16 ?_
  rw [show M (1 + 4) i.toNat = (V 4 i.toNat) from (congrFun (hV 4 (by decide) (by decide) (by decide)) i.toNat)]
  refine x_callVV G [] [xR 1, xI (V 4 i.toNat)] rfl (by decide) (sa_n (ly_sa162 hY) 0 (by decide)) (sa_k (ly_sa162 hY) 0 (by decide)) hy_X2_ask hi_X2_ask hs_X2_ask ml_X6_208 rfl rfl (kX2_ask _ _ 162 1 V (V 4 i.toNat) (ly_sa162 hY) (ly_st1 hY) (by omega) hV hv (by omega)) (by decide) (by decide) (Nat.le_of_ble_eq_true rfl) dX6_askThen_17 (fun M17 h17 => ?_)
  have hbp17 : 1 ≤ (2 : Int) ^ ((V 4 i.toNat) : Int).toNat ∧ (2 : Int) ^ ((V 4 i.toNat) : Int).toNat ≤ 8 := two_b (by omega)
  refine x_aload_n G 0 rfl rfl dX6_askThen_20 ?_
  refine x_get G (xR 162) xf6_4 lk_X6_37 (ly_n hY 0 (by decide)) (ly_k hY 0 (by decide)) (Or.inr ⟨rfl, _, (ly_r hY 0 4 (by decide) (by decide)), rfl⟩) dX6_askThen_21 ?_
  refine x_iload_n G 1 rfl rfl dX6_askThen_24 ?_
  refine x_put G  xf2_6 lk_X6_289 (sa_n (ly_sa162 hY) 0 (by decide)) (sa_k (ly_sa162 hY) 0 (by decide)) rfl dX6_askThen_25 ?_
  refine x_aload_n G 0 rfl rfl dX6_askThen_28 ?_
  refine x_get G (xR 162) xf6_4 lk_X6_37 (ly_n hY 0 (by decide)) (ly_k hY 0 (by decide)) (Or.inr ⟨rfl, _, (ly_r hY 0 4 (by decide) (by decide)), rfl⟩) dX6_askThen_29 ?_
  refine x_aload_n G 0 rfl rfl dX6_askThen_32 ?_
  refine x_get G (xR 1) xf6_0 lk_X6_10 (ly_n hY 0 (by decide)) (ly_k hY 0 (by decide)) (Or.inr ⟨rfl, _, (ly_r hY 0 0 (by decide) (by decide)), rfl⟩) dX6_askThen_33 ?_
  refine x_get G (xR (1 + 8)) xf3_5 lk_X6_190 (st_n (ly_st1 hY) 0 (by decide)) (st_k (ly_st1 hY) 0 (by decide)) (Or.inr ⟨rfl, _, (st_r (ly_st1 hY) 0 5 (by decide) (by decide)), rfl⟩) dX6_askThen_36 ?_
  refine x_iload_n G 1 rfl rfl dX6_askThen_39 ?_
  refine x_iald G (st_n (ly_st1 hY) 8 (by decide)) (st_k (ly_st1 hY) 8 (by decide)) (show _ = 100 from st_l (ly_st1 hY) 8 (by decide)) (by omega) (by omega) dX6_askThen_40 ?_
  rw [show (xst M17 162 6 i) (1 + 8) i.toNat = (V 8 i.toNat) from ((xst_nq (by omega)).trans ((congrFun (h17.2 (1 + 8) (by simp <;> omega)) i.toNat).trans (congrFun (hV 8 (by decide) (by decide) (by decide)) i.toNat)))]
  refine x_put G  xf2_5 lk_X6_275 (sa_n (ly_sa162 hY) 0 (by decide)) (sa_k (ly_sa162 hY) 0 (by decide)) rfl dX6_askThen_41 ?_
  exact x_vret G Rt dX6_askThen_44 ⟨rfl, rfl, rfl, ⟨(ask_s5 (ask_s6 h17.1)), (xof_trans (xof_trans (xof_trans (xof_refl _ _) (xof_mono h17.2 (by decide))) (xof_xst (by decide))) (xof_xst (by decide)))⟩⟩
set_option maxRecDepth 100000 in
set_option maxHeartbeats 4000000 in
theorem kX6_without (D : xD) (l : Launch) {n : Nat} {T : xT} {M : xM} (V : xM) (i k : Int) (hY : LayOK n T) (hV : shw M 1 V) (hv : VOK V) (hs : Srt V (V 10) (V 0 10).toNat) : xC D l uX6_without 4 90 0 0 [xR 0, xI i, xI k] n T M (xPI n T (fun z M2 => z = qWithout V i k ∧ xof [3, 4, 162, 163, 164, 165, 166, 167] M M2)) := by
  refine x_met uX6_without (by decide) (Nat.le_of_ble_eq_true rfl) ?_
  intro Γ G Rt _
  have G : xG Γ RX6 cX6_without 3 4 90 0 0 := G
  have Rt : xRt Γ (xPI n T (fun z M2 => z = qWithout V i k ∧ xof [3, 4, 162, 163, 164, 165, 166, 167] M M2)) (some .int) 0 0 := Rt
  show xX Γ 0 0 n T 0 [(0, xR 0), (1, xI i), (2, xI k)] [] M
  have hc := ok_c hv
  have hsc := hv.1
  refine x_aload_n G 0 rfl rfl dX6_without_0 ?_
  refine x_get G (xR 1) xf6_0 lk_X6_10 (ly_n hY 0 (by decide)) (ly_k hY 0 (by decide)) (Or.inr ⟨rfl, _, (ly_r hY 0 0 (by decide) (by decide)), rfl⟩) dX6_without_1 ?_
  refine x_iload_n G 1 rfl rfl dX6_without_4 ?_
  refine x_callVp G [] [xI i] rfl (by decide) (st_n (ly_st1 hY) 0 (by decide)) (st_k (ly_st1 hY) 0 (by decide)) hy_X3_hasItem hi_X3_hasItem hs_X3_hasItem ml_X6_187 rfl rfl (kX3_hasItem _ _ 1 V i (ly_st1 hY) hV hv) (by decide) (by decide) (Nat.le_of_ble_eq_true rfl) dX6_without_5 ?_
  refine x_if_eq G 16 (by decide) dX6_without_8 (fun c8 => ?_) (fun c8 => ?_)
  · skip
    have c8 := b2i_eq0.mp c8
    refine x_iconst G (by decide) dX6_without_16 ?_
    exact x_iret G Rt dX6_without_17 ⟨rfl, rfl, _, rfl, ⟨(by unfold qWithout; (repeat (first | rw [if_pos (by omega)] | rw [if_neg (by omega)])) <;> try rfl), (xof_refl _ _)⟩⟩
  · skip
    have c8 := b2i_ne0.mp c8
    refine x_iload_n G 2 rfl rfl dX6_without_11 ?_
    refine x_iconst G (by decide) dX6_without_12 ?_
    refine x_icmp_ge G 18 (by decide) dX6_without_13 (fun c13 => ?_) (fun c13 => ?_)
    · skip
      have hit := ok_i hv (i := i) (by omega) (by omega)
      refine x_aload_n G 0 rfl rfl dX6_without_18 ?_
      refine x_get G (xR 1) xf6_0 lk_X6_10 (ly_n hY 0 (by decide)) (ly_k hY 0 (by decide)) (Or.inr ⟨rfl, _, (ly_r hY 0 0 (by decide) (by decide)), rfl⟩) dX6_without_19 ?_
      refine x_get G (xR (1 + 9)) xf3_6 lk_X6_129 (st_n (ly_st1 hY) 0 (by decide)) (st_k (ly_st1 hY) 0 (by decide)) (Or.inr ⟨rfl, _, (st_r (ly_st1 hY) 0 6 (by decide) (by decide)), rfl⟩) dX6_without_22 ?_
      refine x_iload_n G 1 rfl rfl dX6_without_25 ?_
      refine x_zald G (st_n (ly_st1 hY) 9 (by decide)) (st_k (ly_st1 hY) 9 (by decide)) (show _ = 100 from st_l (ly_st1 hY) 9 (by decide)) (by omega) (by omega) dX6_without_26 ?_
      rw [show M (1 + 9) i.toNat = (V 9 i.toNat) from (congrFun (hV 9 (by decide) (by decide) (by decide)) i.toNat)]
      refine x_if_eq G 33 (by decide) dX6_without_27 (fun c27 => ?_) (fun c27 => ?_)
      · skip
        refine x_aload_n G 0 rfl rfl dX6_without_33 ?_
        refine x_iload_n G 1 rfl rfl dX6_without_34 ?_
        refine x_callVV G [] [xI i] rfl (by decide) (ly_n hY 0 (by decide)) (ly_k hY 0 (by decide)) hy_X6_takeWithout hi_X6_takeWithout hs_X6_takeWithout ml_X6_263 rfl rfl (kX6_takeWithout _ _ V i hY hV hv hs (by omega)) (by decide) (by decide) (Nat.le_of_ble_eq_true rfl) dX6_without_35 (fun M35 h35 => ?_)
        have hn35 := h35.1.1
        have hl35 : (woL V i.toNat).length ≤ 100 := wo_len hv _
        refine x_aload_n G 0 rfl rfl dX6_without_38 ?_
        refine x_get G (xR 162) xf6_4 lk_X6_37 (ly_n hY 0 (by decide)) (ly_k hY 0 (by decide)) (Or.inr ⟨rfl, _, (ly_r hY 0 4 (by decide) (by decide)), rfl⟩) dX6_without_39 ?_
        refine x_iload_n G 2 rfl rfl dX6_without_42 ?_
        refine x_callVp G [] [xI k] rfl (by decide) (sa_n (ly_sa162 hY) 0 (by decide)) (sa_k (ly_sa162 hY) 0 (by decide)) hy_X2_kth hi_X2_kth hs_X2_kth ml_X6_217 rfl rfl (kX2_kth _ _ 162 V (woL V i.toNat) k (ly_sa162 hY) h35.1 hl35) (by decide) (by decide) (Nat.le_of_ble_eq_true rfl) dX6_without_43 ?_
        exact x_iret G Rt dX6_without_46 ⟨rfl, rfl, _, rfl, ⟨(by unfold qWithout; (repeat (first | rw [if_pos (by omega)] | rw [if_neg (by omega)])) <;> try rfl), (xof_trans (xof_refl _ _) (xof_mono h35.2.2 (by decide)))⟩⟩
      · skip
        refine x_bipush G (by decide) dX6_without_30 ?_
        exact x_iret G Rt dX6_without_32 ⟨rfl, rfl, _, rfl, ⟨(by unfold qWithout; (repeat (first | rw [if_pos (by omega)] | rw [if_neg (by omega)])) <;> try rfl), (xof_refl _ _)⟩⟩
    · skip
      refine x_iconst G (by decide) dX6_without_16 ?_
      exact x_iret G Rt dX6_without_17 ⟨rfl, rfl, _, rfl, ⟨(by unfold qWithout; (repeat (first | rw [if_pos (by omega)] | rw [if_neg (by omega)])) <;> try rfl), (xof_refl _ _)⟩⟩
set_option maxRecDepth 100000 in
set_option maxHeartbeats 4000000 in
theorem kX6_expired (D : xD) (l : Launch) {n : Nat} {T : xT} {M : xM} (V : xM) (sh q : Int) (hY : LayOK n T) (hV : shw M 1 V) (hv : VOK V) (hs : Srt V (V 10) (V 0 10).toNat) : xC D l uX6_expired 2 44 0 0 [xR 0, xI sh, xI q] n T M (xPI n T (fun z M2 => z = qExpired V sh q ∧ xof [3, 4, 162, 163, 164, 165, 166, 167] M M2)) := by
  refine x_met uX6_expired (by decide) (Nat.le_of_ble_eq_true rfl) ?_
  intro Γ G Rt _
  have G : xG Γ RX6 cX6_expired 5 2 44 0 0 := G
  have Rt : xRt Γ (xPI n T (fun z M2 => z = qExpired V sh q ∧ xof [3, 4, 162, 163, 164, 165, 166, 167] M M2)) (some .int) 0 0 := Rt
  show xX Γ 0 0 n T 0 [(0, xR 0), (1, xI sh), (2, xI q)] [] M
  have hc := ok_c hv
  have hsc := hv.1
  refine x_iload_n G 1 rfl rfl dX6_expired_0 ?_
  refine x_callSp G [] [xI sh] hy_X6_isShard ht_X6_isShard ml_X6_86 rfl rfl (kX6_isShard _ _ sh) (by decide) (by decide) (Nat.le_of_ble_eq_true rfl) dX6_expired_1 ?_
  refine x_if_eq G 12 (by decide) dX6_expired_4 (fun c4 => ?_) (fun c4 => ?_)
  · skip
    have c4 := b2i_eq0.mp c4
    refine x_iconst G (by decide) dX6_expired_12 ?_
    exact x_iret G Rt dX6_expired_13 ⟨rfl, rfl, _, rfl, ⟨(by unfold qExpired; (repeat (first | rw [if_pos (by omega)] | rw [if_neg (by omega)])) <;> try rfl), (xof_refl _ _)⟩⟩
  · skip
    have c4 := b2i_ne0.mp c4
    refine x_iload_n G 2 rfl rfl dX6_expired_7 ?_
    refine x_iconst G (by decide) dX6_expired_8 ?_
    refine x_icmp_ge G 14 (by decide) dX6_expired_9 (fun c9 => ?_) (fun c9 => ?_)
    · skip
      refine x_iconst G (by decide) dX6_expired_14 ?_
      refine x_istore_n G [(3, xI 0), (0, xR 0), (1, xI sh), (2, xI q)] rfl (by decide) rfl dX6_expired_15 ?_
      refine x_iconst G (by decide) dX6_expired_16 ?_
      refine x_istore G [(4, xI 0), (3, xI 0), (0, xR 0), (1, xI sh), (2, xI q)] (by decide) rfl dX6_expired_17 ?_
      have loop19 : ∀ (d : Nat) (k : Int) (m : Int), (V 0 10 - k).toNat = d → (0 ≤ k ∧ k ≤ V 0 10) → (m = ((List.range k.toNat).filter fun j => decide (und V j sh (-1) ∧ ¬ alv V j (V 0 11))).length ∧ (q = -1 ∨ m ≤ q)) → xX Γ 0 0 n T 19 [(0, xR 0), (1, xI sh), (2, xI q), (3, xI m), (4, xI k)] [] M := by
        intro d
        induction d using Nat.strongRecOn with
        | ind d ih19 =>
        intro k m hd19 hk hm
        have hrl := range_len (fun j => und V j sh (-1) ∧ ¬ alv V j (V 0 11)) k.toNat
        refine x_iload G 4 rfl dX6_expired_19 ?_
        refine x_aload_n G 0 rfl rfl dX6_expired_21 ?_
        refine x_get G (xR 1) xf6_0 lk_X6_10 (ly_n hY 0 (by decide)) (ly_k hY 0 (by decide)) (Or.inr ⟨rfl, _, (ly_r hY 0 0 (by decide) (by decide)), rfl⟩) dX6_expired_22 ?_
        refine x_get G (xI (M 1 10)) xf3_10 lk_X6_83 (st_n (ly_st1 hY) 0 (by decide)) (st_k (ly_st1 hY) 0 (by decide)) (Or.inl ⟨rfl, rfl⟩) dX6_expired_25 ?_
        rw [show M 1 10 = (V 0 10) from (congrFun (hV 0 (by decide) (by decide) (by decide)) 10)]
        refine x_icmp_ge G 74 (by decide) dX6_expired_28 (fun c28 => ?_) (fun c28 => ?_)
        · skip
          refine x_iload_n G 2 rfl rfl dX6_expired_74 ?_
          refine x_iconst G (by decide) dX6_expired_75 ?_
          refine x_icmp_ne G 83 (by decide) dX6_expired_76 (fun c76 => ?_) (fun c76 => ?_)
          · skip
            refine x_bipush G (by decide) dX6_expired_83 ?_
            exact x_iret G Rt dX6_expired_85 ⟨rfl, rfl, _, rfl, ⟨(by unfold qExpired; rw [if_pos (by omega)]; unfold kth exL; rw [show V 0 10 = k by omega]; first | (rw [if_pos (by omega)]; omega) | (rw [if_neg (by omega), if_neg (by omega)])), (xof_refl _ _)⟩⟩
          · skip
            refine x_iload_n G 3 rfl rfl dX6_expired_79 ?_
            refine x_goto G 85 (by decide) dX6_expired_80 ?_
            exact x_iret G Rt dX6_expired_85 ⟨rfl, rfl, _, rfl, ⟨(by unfold qExpired; rw [if_pos (by omega)]; unfold kth exL; rw [show V 0 10 = k by omega]; first | (rw [if_pos (by omega)]; omega) | (rw [if_neg (by omega), if_neg (by omega)])), (xof_refl _ _)⟩⟩
        · skip
          refine x_aload_n G 0 rfl rfl dX6_expired_31 ?_
          refine x_get G (xR 1) xf6_0 lk_X6_10 (ly_n hY 0 (by decide)) (ly_k hY 0 (by decide)) (Or.inr ⟨rfl, _, (ly_r hY 0 0 (by decide) (by decide)), rfl⟩) dX6_expired_32 ?_
          refine x_iload G 4 rfl dX6_expired_35 ?_
          refine x_iload_n G 1 rfl rfl dX6_expired_37 ?_
          refine x_iconst G (by decide) dX6_expired_38 ?_
          refine x_callVp G [] [xI k, xI sh, xI (-1)] rfl (by decide) (st_n (ly_st1 hY) 0 (by decide)) (st_k (ly_st1 hY) 0 (by decide)) hy_X3_isUndroppedOf hi_X3_isUndroppedOf hs_X3_isUndroppedOf ml_X6_144 rfl rfl (kX3_isUndroppedOf _ _ 1 V k sh (-1) (ly_st1 hY) hV hv (by omega)) (by decide) (by decide) (Nat.le_of_ble_eq_true rfl) dX6_expired_39 ?_
          refine x_if_eq G 68 (by decide) dX6_expired_42 (fun c42 => ?_) (fun c42 => ?_)
          · skip
            have c42 := b2i_eq0.mp c42
            refine x_iinc G [(4, xI (k + 1)), (0, xR 0), (1, xI sh), (2, xI q), (3, xI m)] 4 rfl (by decide) (by omega) rfl dX6_expired_68 ?_
            refine x_goto G 19 (by decide) dX6_expired_71 ?_
            refine x_sub [(0, xR 0), (1, xI sh), (2, xI q), (3, xI m), (4, xI (k + 1))] [1, 2, 3, 4, 0] rfl ?_
            exact ih19 _ (by omega) (k + 1) m rfl (by omega) (by rw [show (k + 1).toNat = k.toNat + 1 by omega, ex_add V 0 (fun j => und V j sh (-1) ∧ ¬ alv V j (V 0 11)) k.toNat]; rw [if_neg (fun h => c42 h.1), List.append_nil]; omega)
          · skip
            have c42 := b2i_ne0.mp c42
            refine x_aload_n G 0 rfl rfl dX6_expired_45 ?_
            refine x_get G (xR 1) xf6_0 lk_X6_10 (ly_n hY 0 (by decide)) (ly_k hY 0 (by decide)) (Or.inr ⟨rfl, _, (ly_r hY 0 0 (by decide) (by decide)), rfl⟩) dX6_expired_46 ?_
            refine x_iload G 4 rfl dX6_expired_49 ?_
            refine x_callVp G [] [xI k] rfl (by decide) (st_n (ly_st1 hY) 0 (by decide)) (st_k (ly_st1 hY) 0 (by decide)) hy_X3_isAlive hi_X3_isAlive hs_X3_isAlive ml_X6_169 rfl rfl (kX3_isAlive _ _ 1 V k (ly_st1 hY) hV hv (by omega)) (by decide) (by decide) (Nat.le_of_ble_eq_true rfl) dX6_expired_51 ?_
            refine x_if_ne G 68 (by decide) dX6_expired_54 (fun c54 => ?_) (fun c54 => ?_)
            · skip
              have c54 := b2i_ne0.mp c54
              refine x_iinc G [(4, xI (k + 1)), (0, xR 0), (1, xI sh), (2, xI q), (3, xI m)] 4 rfl (by decide) (by omega) rfl dX6_expired_68 ?_
              refine x_goto G 19 (by decide) dX6_expired_71 ?_
              refine x_sub [(0, xR 0), (1, xI sh), (2, xI q), (3, xI m), (4, xI (k + 1))] [1, 2, 3, 4, 0] rfl ?_
              exact ih19 _ (by omega) (k + 1) m rfl (by omega) (by rw [show (k + 1).toNat = k.toNat + 1 by omega, ex_add V 0 (fun j => und V j sh (-1) ∧ ¬ alv V j (V 0 11)) k.toNat]; rw [if_neg (fun h => h.2 c54), List.append_nil]; omega)
            · skip
              have c54 := b2i_eq0.mp c54
              refine x_iload_n G 3 rfl rfl dX6_expired_57 ?_
              refine x_iload_n G 2 rfl rfl dX6_expired_58 ?_
              refine x_icmp_ne G 65 (by decide) dX6_expired_59 (fun c59 => ?_) (fun c59 => ?_)
              · skip
                refine x_iinc G [(3, xI (m + 1)), (0, xR 0), (1, xI sh), (2, xI q), (4, xI k)] 3 rfl (by decide) (by omega) rfl dX6_expired_65 ?_
                refine x_iinc G [(4, xI (k + 1)), (3, xI (m + 1)), (0, xR 0), (1, xI sh), (2, xI q)] 4 rfl (by decide) (by omega) rfl dX6_expired_68 ?_
                refine x_goto G 19 (by decide) dX6_expired_71 ?_
                refine x_sub [(0, xR 0), (1, xI sh), (2, xI q), (3, xI (m + 1)), (4, xI (k + 1))] [2, 3, 4, 1, 0] rfl ?_
                exact ih19 _ (by omega) (k + 1) (m + 1) rfl (by omega) (by rw [show (k + 1).toNat = k.toNat + 1 by omega, ex_add V 0 (fun j => und V j sh (-1) ∧ ¬ alv V j (V 0 11)) k.toNat]; rw [if_pos ⟨c42, c54⟩, List.length_append, show [k.toNat].length = 1 from rfl]; omega)
              · skip
                refine x_iload G 4 rfl dX6_expired_62 ?_
                exact x_iret G Rt dX6_expired_64 ⟨rfl, rfl, _, rfl, ⟨(by have hra := range_at (fun j => und V j sh (-1) ∧ ¬ alv V j (V 0 11)) (k := k.toNat) (n := (V 0 10).toNat) (by omega) ⟨c42, c54⟩; unfold qExpired; rw [if_pos (by omega)]; unfold kth exL; rw [if_neg (by omega), if_pos (by omega), show q.toNat = ((List.range k.toNat).filter fun j => decide (und V j sh (-1) ∧ ¬ alv V j (V 0 11))).length by omega, hra.1]; omega), (xof_refl _ _)⟩⟩
      refine x_sub [(0, xR 0), (1, xI sh), (2, xI q), (3, xI 0), (4, xI 0)] [2, 3, 4, 1, 0] rfl ?_
      exact loop19 _ 0 0 rfl (by omega) (⟨rfl, by omega⟩)
    · skip
      refine x_iconst G (by decide) dX6_expired_12 ?_
      exact x_iret G Rt dX6_expired_13 ⟨rfl, rfl, _, rfl, ⟨(by unfold qExpired; (repeat (first | rw [if_pos (by omega)] | rw [if_neg (by omega)])) <;> try rfl), (xof_refl _ _)⟩⟩
set_option maxRecDepth 100000 in
set_option maxHeartbeats 4000000 in
theorem kX6_busiest (D : xD) (l : Launch) {n : Nat} {T : xT} {M : xM} (V : xM) (t what : Int) (hY : LayOK n T) (hV : shw M 1 V) (hv : VOK V) (hs : Srt V (V 10) (V 0 10).toNat) : xC D l uX6_busiest 2 46 0 0 [xR 0, xI t, xI what] n T M (xPI n T (fun z M2 => z = qBusiest V t what ∧ xof [3, 4, 162, 163, 164, 165, 166, 167] M M2)) := by
  refine x_met uX6_busiest (by decide) (Nat.le_of_ble_eq_true rfl) ?_
  intro Γ G Rt _
  have G : xG Γ RX6 cX6_busiest 8 2 46 0 0 := G
  have Rt : xRt Γ (xPI n T (fun z M2 => z = qBusiest V t what ∧ xof [3, 4, 162, 163, 164, 165, 166, 167] M M2)) (some .int) 0 0 := Rt
  show xX Γ 0 0 n T 0 [(0, xR 0), (1, xI t), (2, xI what)] [] M
  have hc := ok_c hv
  have hsc := hv.1
  refine x_iload_n G 1 rfl rfl dX6_busiest_0 ?_
  refine x_iconst G (by decide) dX6_busiest_1 ?_
  refine x_sipush G (by decide) dX6_busiest_2 ?_
  refine x_callSp G [] [xI t, xI 1, xI 9999] hy_X6_isWithin ht_X6_isWithin ml_X6_62 rfl rfl (kX6_isWithin _ _ t 1 9999) (by decide) (by decide) (Nat.le_of_ble_eq_true rfl) dX6_busiest_5 ?_
  refine x_if_eq G 20 (by decide) dX6_busiest_8 (fun c8 => ?_) (fun c8 => ?_)
  · skip
    have c8 := b2i_eq0.mp c8
    refine x_iconst G (by decide) dX6_busiest_20 ?_
    exact x_iret G Rt dX6_busiest_21 ⟨rfl, rfl, _, rfl, ⟨(by unfold qBusiest; (repeat (first | rw [if_pos (by omega)] | rw [if_neg (by omega)])) <;> try rfl), (xof_refl _ _)⟩⟩
  · skip
    have c8 := b2i_ne0.mp c8
    refine x_iload_n G 2 rfl rfl dX6_busiest_11 ?_
    refine x_iconst G (by decide) dX6_busiest_12 ?_
    refine x_iconst G (by decide) dX6_busiest_13 ?_
    refine x_callSp G [] [xI what, xI 0, xI 1] hy_X6_isWithin ht_X6_isWithin ml_X6_62 rfl rfl (kX6_isWithin _ _ what 0 1) (by decide) (by decide) (Nat.le_of_ble_eq_true rfl) dX6_busiest_14 ?_
    refine x_if_ne G 22 (by decide) dX6_busiest_17 (fun c17 => ?_) (fun c17 => ?_)
    · skip
      have c17 := b2i_ne0.mp c17
      refine x_iconst G (by decide) dX6_busiest_22 ?_
      refine x_istore_n G [(3, xI 0), (0, xR 0), (1, xI t), (2, xI what)] rfl (by decide) rfl dX6_busiest_23 ?_
      refine x_bipush G (by decide) dX6_busiest_24 ?_
      refine x_istore G [(4, xI (-2)), (3, xI 0), (0, xR 0), (1, xI t), (2, xI what)] (by decide) rfl dX6_busiest_26 ?_
      refine x_iconst G (by decide) dX6_busiest_28 ?_
      refine x_istore G [(5, xI 0), (4, xI (-2)), (3, xI 0), (0, xR 0), (1, xI t), (2, xI what)] (by decide) rfl dX6_busiest_29 ?_
      have loop31 : ∀ (d : Nat) (k : Int) (m : Int) (f : Int), (V 0 10 - k).toNat = d → (0 ≤ k ∧ k ≤ V 0 10) → (m = (bus V t k.toNat).1 ∧ f = (bus V t k.toNat).2) → xX Γ 0 0 n T 31 [(0, xR 0), (1, xI t), (2, xI what), (3, xI m), (4, xI f), (5, xI k)] [] M := by
        intro d
        induction d using Nat.strongRecOn with
        | ind d ih31 =>
        intro k m f hd31 hk hb
        refine x_iload G 5 rfl dX6_busiest_31 ?_
        refine x_aload_n G 0 rfl rfl dX6_busiest_33 ?_
        refine x_get G (xR 1) xf6_0 lk_X6_10 (ly_n hY 0 (by decide)) (ly_k hY 0 (by decide)) (Or.inr ⟨rfl, _, (ly_r hY 0 0 (by decide) (by decide)), rfl⟩) dX6_busiest_34 ?_
        refine x_get G (xI (M 1 10)) xf3_10 lk_X6_83 (st_n (ly_st1 hY) 0 (by decide)) (st_k (ly_st1 hY) 0 (by decide)) (Or.inl ⟨rfl, rfl⟩) dX6_busiest_37 ?_
        rw [show M 1 10 = (V 0 10) from (congrFun (hV 0 (by decide) (by decide) (by decide)) 10)]
        refine x_icmp_ge G 104 (by decide) dX6_busiest_40 (fun c40 => ?_) (fun c40 => ?_)
        · skip
          refine x_iload_n G 2 rfl rfl dX6_busiest_104 ?_
          refine x_if_ne G 112 (by decide) dX6_busiest_105 (fun c105 => ?_) (fun c105 => ?_)
          · skip
            refine x_iload G 4 rfl dX6_busiest_112 ?_
            exact x_iret G Rt dX6_busiest_114 ⟨rfl, rfl, _, rfl, ⟨(by unfold qBusiest; rw [if_pos (by omega), show V 0 10 = k by omega]; first | (rw [if_pos (by omega)]; exact hb.1) | (rw [if_neg (by omega)]; exact hb.2)), (xof_refl _ _)⟩⟩
          · skip
            refine x_iload_n G 3 rfl rfl dX6_busiest_108 ?_
            refine x_goto G 114 (by decide) dX6_busiest_109 ?_
            exact x_iret G Rt dX6_busiest_114 ⟨rfl, rfl, _, rfl, ⟨(by unfold qBusiest; rw [if_pos (by omega), show V 0 10 = k by omega]; first | (rw [if_pos (by omega)]; exact hb.1) | (rw [if_neg (by omega)]; exact hb.2)), (xof_refl _ _)⟩⟩
        · skip
          have hit := ok_i hv hk.1 (by omega)
          refine x_aload_n G 0 rfl rfl dX6_busiest_43 ?_
          refine x_get G (xR 1) xf6_0 lk_X6_10 (ly_n hY 0 (by decide)) (ly_k hY 0 (by decide)) (Or.inr ⟨rfl, _, (ly_r hY 0 0 (by decide) (by decide)), rfl⟩) dX6_busiest_44 ?_
          refine x_get G (xR (1 + 8)) xf3_5 lk_X6_190 (st_n (ly_st1 hY) 0 (by decide)) (st_k (ly_st1 hY) 0 (by decide)) (Or.inr ⟨rfl, _, (st_r (ly_st1 hY) 0 5 (by decide) (by decide)), rfl⟩) dX6_busiest_47 ?_
          refine x_iload G 5 rfl dX6_busiest_50 ?_
          refine x_iald G (st_n (ly_st1 hY) 8 (by decide)) (st_k (ly_st1 hY) 8 (by decide)) (show _ = 100 from st_l (ly_st1 hY) 8 (by decide)) (by omega) (by omega) dX6_busiest_52 ?_
          rw [show M (1 + 8) k.toNat = (V 8 k.toNat) from (congrFun (hV 8 (by decide) (by decide) (by decide)) k.toNat)]
          refine x_istore G [(6, xI (V 8 k.toNat)), (0, xR 0), (1, xI t), (2, xI what), (3, xI m), (4, xI f), (5, xI k)] (by decide) rfl dX6_busiest_53 ?_
          refine x_aload_n G 1 rfl rfl dX6_busiest_55 ?_
          refine x_get G (xR 1) xf6_0 lk_X6_10 (ly_n hY 0 (by decide)) (ly_k hY 0 (by decide)) (Or.inr ⟨rfl, _, (ly_r hY 0 0 (by decide) (by decide)), rfl⟩) dX6_busiest_56 ?_
          refine x_iload G 0 rfl dX6_busiest_59 ?_
          refine x_iload G 0 rfl dX6_busiest_61 ?_
          refine x_iload_n G 2 rfl rfl dX6_busiest_63 ?_
          refine x_iadd G (by omega) dX6_busiest_64 ?_
          refine x_iconst G (by decide) dX6_busiest_65 ?_
          refine x_isub G (by omega) dX6_busiest_66 ?_
          refine x_callVp G [] [xI (V 8 k.toNat), xI (((V 8 k.toNat) + t) - 1)] rfl (by decide) (st_n (ly_st1 hY) 0 (by decide)) (st_k (ly_st1 hY) 0 (by decide)) hy_X3_countUndroppedBetween hi_X3_countUndroppedBetween hs_X3_countUndroppedBetween ml_X6_266 rfl rfl (kX3_countUndroppedBetween _ _ 1 V (V 8 k.toNat) (((V 8 k.toNat) + t) - 1) (ly_st1 hY) hV hv) (by decide) (by decide) (Nat.le_of_ble_eq_true rfl) dX6_busiest_67 ?_
          refine x_istore G [(7, xI (fb_si (fun j => b2i (V 9 j = 0 ∧ (V 8 k.toNat) ≤ V 8 j ∧ V 8 j ≤ (((V 8 k.toNat) + t) - 1))) (V 0 10).toNat)), (6, xI (V 8 k.toNat)), (0, xR 0), (1, xI t), (2, xI what), (3, xI m), (4, xI f), (5, xI k)] (by decide) rfl dX6_busiest_70 ?_
          refine x_aload_n G 2 rfl rfl dX6_busiest_72 ?_
          refine x_get G (xR 1) xf6_0 lk_X6_10 (ly_n hY 0 (by decide)) (ly_k hY 0 (by decide)) (Or.inr ⟨rfl, _, (ly_r hY 0 0 (by decide) (by decide)), rfl⟩) dX6_busiest_73 ?_
          refine x_get G (xR (1 + 9)) xf3_6 lk_X6_129 (st_n (ly_st1 hY) 0 (by decide)) (st_k (ly_st1 hY) 0 (by decide)) (Or.inr ⟨rfl, _, (st_r (ly_st1 hY) 0 6 (by decide) (by decide)), rfl⟩) dX6_busiest_76 ?_
          refine x_iload G 7 rfl dX6_busiest_79 ?_
          refine x_zald G (st_n (ly_st1 hY) 9 (by decide)) (st_k (ly_st1 hY) 9 (by decide)) (show _ = 100 from st_l (ly_st1 hY) 9 (by decide)) (by omega) (by omega) dX6_busiest_81 ?_
          rw [show M (1 + 9) k.toNat = (V 9 k.toNat) from (congrFun (hV 9 (by decide) (by decide) (by decide)) k.toNat)]
          refine x_if_ne G 98 (by decide) dX6_busiest_82 (fun c82 => ?_) (fun c82 => ?_)
          · skip
            refine x_iinc G [(5, xI (k + 1)), (7, xI (fb_si (fun j => b2i (V 9 j = 0 ∧ (V 8 k.toNat) ≤ V 8 j ∧ V 8 j ≤ (((V 8 k.toNat) + t) - 1))) (V 0 10).toNat)), (6, xI (V 8 k.toNat)), (0, xR 0), (1, xI t), (2, xI what), (3, xI m), (4, xI f)] 7 rfl (by decide) (by omega) rfl dX6_busiest_98 ?_
            refine x_goto G 31 (by decide) dX6_busiest_101 ?_
            refine x_sub [(0, xR 0), (1, xI t), (2, xI what), (3, xI m), (4, xI f), (5, xI (k + 1))] [3, 4, 5, 6, 7, 0] rfl ?_
            exact ih31 _ (by omega) (k + 1) m f rfl (by omega) (by rw [show (k + 1).toNat = k.toNat + 1 by omega]; unfold bus; first | (rw [if_pos ⟨by omega, by rw [← hb.1]; unfold busN; omega⟩]; exact ⟨rfl, rfl⟩) | (rw [if_neg (fun h => by have h2 := h.2; rw [← hb.1] at h2; unfold busN at h2; omega)]; exact hb))
          · skip
            refine x_iload G 0 rfl dX6_busiest_85 ?_
            refine x_iload_n G 5 rfl rfl dX6_busiest_87 ?_
            refine x_icmp_le G 98 (by decide) dX6_busiest_88 (fun c88 => ?_) (fun c88 => ?_)
            · skip
              refine x_iinc G [(5, xI (k + 1)), (7, xI (fb_si (fun j => b2i (V 9 j = 0 ∧ (V 8 k.toNat) ≤ V 8 j ∧ V 8 j ≤ (((V 8 k.toNat) + t) - 1))) (V 0 10).toNat)), (6, xI (V 8 k.toNat)), (0, xR 0), (1, xI t), (2, xI what), (3, xI m), (4, xI f)] 7 rfl (by decide) (by omega) rfl dX6_busiest_98 ?_
              refine x_goto G 31 (by decide) dX6_busiest_101 ?_
              refine x_sub [(0, xR 0), (1, xI t), (2, xI what), (3, xI m), (4, xI f), (5, xI (k + 1))] [3, 4, 5, 6, 7, 0] rfl ?_
              exact ih31 _ (by omega) (k + 1) m f rfl (by omega) (by rw [show (k + 1).toNat = k.toNat + 1 by omega]; unfold bus; first | (rw [if_pos ⟨by omega, by rw [← hb.1]; unfold busN; omega⟩]; exact ⟨rfl, rfl⟩) | (rw [if_neg (fun h => by have h2 := h.2; rw [← hb.1] at h2; unfold busN at h2; omega)]; exact hb))
            · skip
              refine x_iload G 0 rfl dX6_busiest_91 ?_
              refine x_istore_n G [(3, xI (fb_si (fun j => b2i (V 9 j = 0 ∧ (V 8 k.toNat) ≤ V 8 j ∧ V 8 j ≤ (((V 8 k.toNat) + t) - 1))) (V 0 10).toNat)), (7, xI (fb_si (fun j => b2i (V 9 j = 0 ∧ (V 8 k.toNat) ≤ V 8 j ∧ V 8 j ≤ (((V 8 k.toNat) + t) - 1))) (V 0 10).toNat)), (6, xI (V 8 k.toNat)), (0, xR 0), (1, xI t), (2, xI what), (4, xI f), (5, xI k)] rfl (by decide) rfl dX6_busiest_93 ?_
              refine x_iload G 2 rfl dX6_busiest_94 ?_
              refine x_istore G [(4, xI (V 8 k.toNat)), (3, xI (fb_si (fun j => b2i (V 9 j = 0 ∧ (V 8 k.toNat) ≤ V 8 j ∧ V 8 j ≤ (((V 8 k.toNat) + t) - 1))) (V 0 10).toNat)), (7, xI (fb_si (fun j => b2i (V 9 j = 0 ∧ (V 8 k.toNat) ≤ V 8 j ∧ V 8 j ≤ (((V 8 k.toNat) + t) - 1))) (V 0 10).toNat)), (6, xI (V 8 k.toNat)), (0, xR 0), (1, xI t), (2, xI what), (5, xI k)] (by decide) rfl dX6_busiest_96 ?_
              refine x_iinc G [(5, xI (k + 1)), (4, xI (V 8 k.toNat)), (3, xI (fb_si (fun j => b2i (V 9 j = 0 ∧ (V 8 k.toNat) ≤ V 8 j ∧ V 8 j ≤ (((V 8 k.toNat) + t) - 1))) (V 0 10).toNat)), (7, xI (fb_si (fun j => b2i (V 9 j = 0 ∧ (V 8 k.toNat) ≤ V 8 j ∧ V 8 j ≤ (((V 8 k.toNat) + t) - 1))) (V 0 10).toNat)), (6, xI (V 8 k.toNat)), (0, xR 0), (1, xI t), (2, xI what)] 7 rfl (by decide) (by omega) rfl dX6_busiest_98 ?_
              refine x_goto G 31 (by decide) dX6_busiest_101 ?_
              refine x_sub [(0, xR 0), (1, xI t), (2, xI what), (3, xI (fb_si (fun j => b2i (V 9 j = 0 ∧ (V 8 k.toNat) ≤ V 8 j ∧ V 8 j ≤ (((V 8 k.toNat) + t) - 1))) (V 0 10).toNat)), (4, xI (V 8 k.toNat)), (5, xI (k + 1))] [5, 6, 7, 2, 1, 0] rfl ?_
              exact ih31 _ (by omega) (k + 1) (fb_si (fun j => b2i (V 9 j = 0 ∧ (V 8 k.toNat) ≤ V 8 j ∧ V 8 j ≤ (((V 8 k.toNat) + t) - 1))) (V 0 10).toNat) (V 8 k.toNat) rfl (by omega) (by rw [show (k + 1).toNat = k.toNat + 1 by omega]; unfold bus; first | (rw [if_pos ⟨by omega, by rw [← hb.1]; unfold busN; omega⟩]; exact ⟨rfl, rfl⟩) | (rw [if_neg (fun h => by have h2 := h.2; rw [← hb.1] at h2; unfold busN at h2; omega)]; exact hb))
      refine x_sub [(0, xR 0), (1, xI t), (2, xI what), (3, xI 0), (4, xI (-2)), (5, xI 0)] [3, 4, 5, 2, 1, 0] rfl ?_
      exact loop31 _ 0 0 (-2) rfl (by omega) (⟨rfl, rfl⟩)
    · skip
      have c17 := b2i_eq0.mp c17
      refine x_iconst G (by decide) dX6_busiest_20 ?_
      exact x_iret G Rt dX6_busiest_21 ⟨rfl, rfl, _, rfl, ⟨(by unfold qBusiest; (repeat (first | rw [if_pos (by omega)] | rw [if_neg (by omega)])) <;> try rfl), (xof_refl _ _)⟩⟩
set_option maxRecDepth 100000 in
set_option maxHeartbeats 4000000 in
theorem kX6_weightFor (D : xD) (l : Launch) {n : Nat} {T : xT} {M : xM} (V : xM) (i : Int) (hY : LayOK n T) (hV : shw M 1 V) (hv : VOK V) (hs : Srt V (V 10) (V 0 10).toNat) : xC D l uX6_weightFor 4 93 0 0 [xR 0, xI i] n T M (xPI n T (fun z M2 => (qWeightFor V i z) ∧ xof [3, 4, 162, 163, 164, 165, 166, 167] M M2)) := by
  refine x_met uX6_weightFor (by decide) (Nat.le_of_ble_eq_true rfl) ?_
  intro Γ G Rt _
  have G : xG Γ RX6 cX6_weightFor 3 4 93 0 0 := G
  have Rt : xRt Γ (xPI n T (fun z M2 => (qWeightFor V i z) ∧ xof [3, 4, 162, 163, 164, 165, 166, 167] M M2)) (some .int) 0 0 := Rt
  show xX Γ 0 0 n T 0 [(0, xR 0), (1, xI i)] [] M
  have hc := ok_c hv
  have hsc := hv.1
  refine x_aload_n G 0 rfl rfl dX6_weightFor_0 ?_
  refine x_get G (xR 1) xf6_0 lk_X6_10 (ly_n hY 0 (by decide)) (ly_k hY 0 (by decide)) (Or.inr ⟨rfl, _, (ly_r hY 0 0 (by decide) (by decide)), rfl⟩) dX6_weightFor_1 ?_
  refine x_iload_n G 1 rfl rfl dX6_weightFor_4 ?_
  refine x_callVp G [] [xI i] rfl (by decide) (st_n (ly_st1 hY) 0 (by decide)) (st_k (ly_st1 hY) 0 (by decide)) hy_X3_hasItem hi_X3_hasItem hs_X3_hasItem ml_X6_187 rfl rfl (kX3_hasItem _ _ 1 V i (ly_st1 hY) hV hv) (by decide) (by decide) (Nat.le_of_ble_eq_true rfl) dX6_weightFor_5 ?_
  refine x_if_ne G 13 (by decide) dX6_weightFor_8 (fun c8 => ?_) (fun c8 => ?_)
  · skip
    have c8 := b2i_ne0.mp c8
    have hit := ok_i hv (i := i) (by omega) (by omega)
    refine x_aload_n G 0 rfl rfl dX6_weightFor_13 ?_
    refine x_get G (xR 1) xf6_0 lk_X6_10 (ly_n hY 0 (by decide)) (ly_k hY 0 (by decide)) (Or.inr ⟨rfl, _, (ly_r hY 0 0 (by decide) (by decide)), rfl⟩) dX6_weightFor_14 ?_
    refine x_iload_n G 1 rfl rfl dX6_weightFor_17 ?_
    refine x_callVp G [] [xI i] rfl (by decide) (st_n (ly_st1 hY) 0 (by decide)) (st_k (ly_st1 hY) 0 (by decide)) hy_X3_isAlive hi_X3_isAlive hs_X3_isAlive ml_X6_169 rfl rfl (kX3_isAlive _ _ 1 V i (ly_st1 hY) hV hv (by omega)) (by decide) (by decide) (Nat.le_of_ble_eq_true rfl) dX6_weightFor_18 ?_
    refine x_if_ne G 27 (by decide) dX6_weightFor_21 (fun c21 => ?_) (fun c21 => ?_)
    · skip
      have c21 := b2i_ne0.mp c21
      have hsw := ok_s hv hit.1.1 hit.1.2
      refine x_aload_n G 0 rfl rfl dX6_weightFor_27 ?_
      refine x_iload_n G 1 rfl rfl dX6_weightFor_28 ?_
      refine x_callVV G [] [xI i] rfl (by decide) (ly_n hY 0 (by decide)) (ly_k hY 0 (by decide)) hy_X6_takeWithout hi_X6_takeWithout hs_X6_takeWithout ml_X6_263 rfl rfl (kX6_takeWithout _ _ V i hY hV hv hs (by omega)) (by decide) (by decide) (Nat.le_of_ble_eq_true rfl) dX6_weightFor_29 (fun M29 h29 => ?_)
      have hn29 := h29.1.1
      have hl29 : (woL V i.toNat).length ≤ 100 := wo_len hv _
      refine x_iconst G (by decide) dX6_weightFor_32 ?_
      refine x_istore_n G [(2, xI 1), (0, xR 0), (1, xI i)] rfl (by decide) rfl dX6_weightFor_33 ?_
      have loop34 : ∀ (d : Nat) (k : Int) (M1 : xM), (21 - k).toNat = d → (1 ≤ k ∧ k ≤ 21) → (∀ x, 1 ≤ x → x < k → ¬ wouldW V i.toNat x) → (shw M1 1 V) → (xof [3, 4, 162, 163, 164, 165, 166, 167] M M1) → (Smp M1 162 V (woL V i.toNat)) → (M1 162 4 = V 11 (V 4 i.toNat).toNat) → xX Γ 0 0 n T 34 [(0, xR 0), (1, xI i), (2, xI k)] [] M1 := by
        intro d
        induction d using Nat.strongRecOn with
        | ind d ih34 =>
        intro k M1 hd34 hk hno hV1 hx1 hsm1 h41
        have hn1 := hsm1.1
        refine x_iload_n G 2 rfl rfl dX6_weightFor_34 ?_
        refine x_bipush G (by decide) dX6_weightFor_35 ?_
        refine x_icmp_gt G 84 (by decide) dX6_weightFor_37 (fun c37 => ?_) (fun c37 => ?_)
        · skip
          refine x_bipush G (by decide) dX6_weightFor_84 ?_
          exact x_iret G Rt dX6_weightFor_86 ⟨rfl, rfl, _, rfl, ⟨Or.inr (Or.inr ⟨by omega, c21, Or.inr ⟨rfl, fun x a b => hno x a (by omega)⟩⟩), hx1⟩⟩
        · skip
          refine x_aload_n G 0 rfl rfl dX6_weightFor_40 ?_
          refine x_get G (xR 162) xf6_4 lk_X6_37 (ly_n hY 0 (by decide)) (ly_k hY 0 (by decide)) (Or.inr ⟨rfl, _, (ly_r hY 0 4 (by decide) (by decide)), rfl⟩) dX6_weightFor_41 ?_
          refine x_get G (xI (M1 162 2)) xf2_2 lk_X6_154 (sa_n (ly_sa162 hY) 0 (by decide)) (sa_k (ly_sa162 hY) 0 (by decide)) (Or.inl ⟨rfl, rfl⟩) dX6_weightFor_44 ?_
          refine x_aload_n G 0 rfl rfl dX6_weightFor_47 ?_
          refine x_get G (xR 162) xf6_4 lk_X6_37 (ly_n hY 0 (by decide)) (ly_k hY 0 (by decide)) (Or.inr ⟨rfl, _, (ly_r hY 0 4 (by decide) (by decide)), rfl⟩) dX6_weightFor_48 ?_
          refine x_get G (xI (M1 162 4)) xf2_4 lk_X6_211 (sa_n (ly_sa162 hY) 0 (by decide)) (sa_k (ly_sa162 hY) 0 (by decide)) (Or.inl ⟨rfl, rfl⟩) dX6_weightFor_51 ?_
          have h4 := h29.2.1
          refine x_icmp_lt G 76 (by decide) dX6_weightFor_54 (fun c54 => ?_) (fun c54 => ?_)
          · skip
            refine x_iload_n G 2 rfl rfl dX6_weightFor_76 ?_
            exact x_iret G Rt dX6_weightFor_77 ⟨rfl, rfl, _, rfl, ⟨Or.inr (Or.inr ⟨by omega, c21, Or.inl ⟨by omega, (wo_would hv hs (by omega) (by omega)).mp (by first | exact Or.inl (by omega) | exact Or.inr c73), hno⟩⟩), hx1⟩⟩
          · skip
            have hli := lst_in (L := woL V i.toNat) (by omega)
            have hlr := wo_it hs hli.1
            refine x_aload_n G 0 rfl rfl dX6_weightFor_57 ?_
            refine x_get G (xR 1) xf6_0 lk_X6_10 (ly_n hY 0 (by decide)) (ly_k hY 0 (by decide)) (Or.inr ⟨rfl, _, (ly_r hY 0 0 (by decide) (by decide)), rfl⟩) dX6_weightFor_58 ?_
            refine x_iload_n G 1 rfl rfl dX6_weightFor_61 ?_
            refine x_iload_n G 2 rfl rfl dX6_weightFor_62 ?_
            refine x_aload_n G 0 rfl rfl dX6_weightFor_63 ?_
            refine x_get G (xR 162) xf6_4 lk_X6_37 (ly_n hY 0 (by decide)) (ly_k hY 0 (by decide)) (Or.inr ⟨rfl, _, (ly_r hY 0 4 (by decide) (by decide)), rfl⟩) dX6_weightFor_64 ?_
            refine x_callVp G [xI k, xI i, xR 1] [] rfl (by decide) (sa_n (ly_sa162 hY) 0 (by decide)) (sa_k (ly_sa162 hY) 0 (by decide)) hy_X2_lastOne hi_X2_lastOne hs_X2_lastOne ml_X6_239 rfl rfl (kX2_lastOne _ _ 162 V (woL V i.toNat) (ly_sa162 hY) hsm1 hl29) (by decide) (by decide) (Nat.le_of_ble_eq_true rfl) dX6_weightFor_67 ?_
            refine x_callVI G [] [xI i, xI k, xI (lst (woL V i.toNat))] rfl (by decide) (st_n (ly_st1 hY) 0 (by decide)) (st_k (ly_st1 hY) 0 (by decide)) hy_X3_wouldBeAhead hi_X3_wouldBeAhead hs_X3_wouldBeAhead ml_X6_269 rfl rfl (kX3_wouldBeAhead _ _ 1 V i k (lst (woL V i.toNat)) (ly_st1 hY) hV1 hv (by omega) (by omega) (by omega)) (by decide) (by decide) (Nat.le_of_ble_eq_true rfl) dX6_weightFor_70 (fun z70 M70 h70 => ?_)
            rw [h70.1]
            refine x_if_eq G 78 (by decide) dX6_weightFor_73 (fun c73 => ?_) (fun c73 => ?_)
            · skip
              have c73 := b2i_eq0.mp c73
              refine x_iinc G [(2, xI (k + 1)), (0, xR 0), (1, xI i)] 2 rfl (by decide) (by omega) rfl dX6_weightFor_78 ?_
              refine x_goto G 34 (by decide) dX6_weightFor_81 ?_
              refine x_sub [(0, xR 0), (1, xI i), (2, xI (k + 1))] [1, 2, 0] rfl ?_
              exact ih34 _ (by omega) (k + 1) M70 rfl (by omega) (by intro x a b; rcases Int.lt_or_le x k with g | g; exact hno x a g; have e : x = k := (by omega); rw [e, ← wo_would hv hs (by omega) (by omega)]; rintro (h | h); omega; exact c73 h) ((shw_xof hV1 h70.2 (by intro k9 h1 h2 h3; simp <;> omega))) ((xof_trans hx1 (xof_mono h70.2 (by decide)))) ((smp_fr hsm1 (fun k9 h9 => h70.2 _ (by simp <;> omega)))) ((by rw [h70.2 162 (by simp)]; exact h41))
            · skip
              have c73 := b2i_ne0.mp c73
              refine x_iload_n G 2 rfl rfl dX6_weightFor_76 ?_
              exact x_iret G Rt dX6_weightFor_77 ⟨rfl, rfl, _, rfl, ⟨Or.inr (Or.inr ⟨by omega, c21, Or.inl ⟨by omega, (wo_would hv hs (by omega) (by omega)).mp (by first | exact Or.inl (by omega) | exact Or.inr c73), hno⟩⟩), (xof_trans hx1 (xof_mono h70.2 (by decide)))⟩⟩
      refine x_sub [(0, xR 0), (1, xI i), (2, xI 1)] [1, 2, 0] rfl ?_
      exact loop34 _ 1 M29 rfl (by omega) (by intro x a b; omega) ((shw_xof hV h29.2.2 (by intro k9 h1 h2 h3; simp <;> omega))) ((xof_trans (xof_refl _ _) (xof_mono h29.2.2 (by decide)))) (h29.1) (h29.2.1)
    · skip
      have c21 := b2i_eq0.mp c21
      refine x_bipush G (by decide) dX6_weightFor_24 ?_
      exact x_iret G Rt dX6_weightFor_26 ⟨rfl, rfl, _, rfl, ⟨Or.inr (Or.inl ⟨by omega, c21, rfl⟩), (xof_refl _ _)⟩⟩
  · skip
    have c8 := b2i_eq0.mp c8
    refine x_iconst G (by decide) dX6_weightFor_11 ?_
    exact x_iret G Rt dX6_weightFor_12 ⟨rfl, rfl, _, rfl, ⟨Or.inl ⟨by omega, rfl⟩, (xof_refl _ _)⟩⟩
set_option maxRecDepth 100000 in
set_option maxHeartbeats 4000000 in
theorem kX6_sizeFor (D : xD) (l : Launch) {n : Nat} {T : xT} {M : xM} (V : xM) (i : Int) (hY : LayOK n T) (hV : shw M 1 V) (hv : VOK V) (hs : Srt V (V 10) (V 0 10).toNat) : xC D l uX6_sizeFor 4 91 0 0 [xR 0, xI i] n T M (xPI n T (fun z M2 => z = qSizeFor V i ∧ xof [3, 4, 162, 163, 164, 165, 166, 167] M M2)) := by
  refine x_met uX6_sizeFor (by decide) (Nat.le_of_ble_eq_true rfl) ?_
  intro Γ G Rt _
  have G : xG Γ RX6 cX6_sizeFor 3 4 91 0 0 := G
  have Rt : xRt Γ (xPI n T (fun z M2 => z = qSizeFor V i ∧ xof [3, 4, 162, 163, 164, 165, 166, 167] M M2)) (some .int) 0 0 := Rt
  show xX Γ 0 0 n T 0 [(0, xR 0), (1, xI i)] [] M
  have hc := ok_c hv
  have hsc := hv.1
  refine x_aload_n G 0 rfl rfl dX6_sizeFor_0 ?_
  refine x_get G (xR 1) xf6_0 lk_X6_10 (ly_n hY 0 (by decide)) (ly_k hY 0 (by decide)) (Or.inr ⟨rfl, _, (ly_r hY 0 0 (by decide) (by decide)), rfl⟩) dX6_sizeFor_1 ?_
  refine x_iload_n G 1 rfl rfl dX6_sizeFor_4 ?_
  refine x_callVp G [] [xI i] rfl (by decide) (st_n (ly_st1 hY) 0 (by decide)) (st_k (ly_st1 hY) 0 (by decide)) hy_X3_hasItem hi_X3_hasItem hs_X3_hasItem ml_X6_187 rfl rfl (kX3_hasItem _ _ 1 V i (ly_st1 hY) hV hv) (by decide) (by decide) (Nat.le_of_ble_eq_true rfl) dX6_sizeFor_5 ?_
  refine x_if_ne G 13 (by decide) dX6_sizeFor_8 (fun c8 => ?_) (fun c8 => ?_)
  · skip
    have c8 := b2i_ne0.mp c8
    have hit := ok_i hv (i := i) (by omega) (by omega)
    have hpb := qPl_b (alL V (V 4 i.toNat) (V 0 11) (V 12 (V 4 i.toNat).toNat) (V 0 10)) i.toNat (alL_len hv _ _ _ _)
    refine x_aload_n G 0 rfl rfl dX6_sizeFor_13 ?_
    refine x_iload_n G 1 rfl rfl dX6_sizeFor_14 ?_
    refine x_callVI G [] [xI i] rfl (by decide) (ly_n hY 0 (by decide)) (ly_k hY 0 (by decide)) hy_X6_aheadOfAlive hi_X6_aheadOfAlive hs_X6_aheadOfAlive ml_X6_199 rfl rfl (kX6_aheadOfAlive _ _ V i hY hV hv hs (by omega)) (by decide) (by decide) (Nat.le_of_ble_eq_true rfl) dX6_sizeFor_15 (fun z15 M15 h15 => ?_)
    rw [h15.1]
    refine x_istore_n G [(2, xI (qPl (alL V (V 4 i.toNat) (V 0 11) (V 12 (V 4 i.toNat).toNat) (V 0 10)) i.toNat)), (0, xR 0), (1, xI i)] rfl (by decide) rfl dX6_sizeFor_18 ?_
    refine x_iload_n G 0 rfl rfl dX6_sizeFor_19 ?_
    refine x_bipush G (by decide) dX6_sizeFor_20 ?_
    refine x_icmp_eq G 31 (by decide) dX6_sizeFor_22 (fun c22 => ?_) (fun c22 => ?_)
    · skip
      refine x_bipush G (by decide) dX6_sizeFor_31 ?_
      refine x_goto G 39 (by decide) dX6_sizeFor_33 ?_
      exact x_iret G Rt dX6_sizeFor_39 ⟨rfl, rfl, _, rfl, ⟨(by unfold qSizeFor alN; (repeat (first | rw [if_pos (by omega)] | rw [if_neg (by omega)])) <;> try rfl), (xof_trans (xof_refl _ _) (xof_mono h15.2 (by decide)))⟩⟩
    · skip
      refine x_iload_n G 0 rfl rfl dX6_sizeFor_25 ?_
      refine x_bipush G (by decide) dX6_sizeFor_26 ?_
      refine x_icmp_lt G 36 (by decide) dX6_sizeFor_28 (fun c28 => ?_) (fun c28 => ?_)
      · skip
        refine x_iload_n G 0 rfl rfl dX6_sizeFor_36 ?_
        refine x_iconst G (by decide) dX6_sizeFor_37 ?_
        refine x_iadd G (by omega) dX6_sizeFor_38 ?_
        exact x_iret G Rt dX6_sizeFor_39 ⟨rfl, rfl, _, rfl, ⟨(by unfold qSizeFor alN; (repeat (first | rw [if_pos (by omega)] | rw [if_neg (by omega)])) <;> try rfl), (xof_trans (xof_refl _ _) (xof_mono h15.2 (by decide)))⟩⟩
      · skip
        refine x_bipush G (by decide) dX6_sizeFor_31 ?_
        refine x_goto G 39 (by decide) dX6_sizeFor_33 ?_
        exact x_iret G Rt dX6_sizeFor_39 ⟨rfl, rfl, _, rfl, ⟨(by unfold qSizeFor alN; (repeat (first | rw [if_pos (by omega)] | rw [if_neg (by omega)])) <;> try rfl), (xof_trans (xof_refl _ _) (xof_mono h15.2 (by decide)))⟩⟩
  · skip
    have c8 := b2i_eq0.mp c8
    refine x_iconst G (by decide) dX6_sizeFor_11 ?_
    exact x_iret G Rt dX6_sizeFor_12 ⟨rfl, rfl, _, rfl, ⟨(by unfold qSizeFor; (repeat (first | rw [if_pos (by omega)] | rw [if_neg (by omega)])) <;> try rfl), (xof_refl _ _)⟩⟩
set_option maxRecDepth 100000 in
set_option maxHeartbeats 4000000 in
theorem kX6_rivalTime (D : xD) (l : Launch) {n : Nat} {T : xT} {M : xM} (V : xM) (i : Int) (hY : LayOK n T) (hV : shw M 1 V) (hv : VOK V) (hs : Srt V (V 10) (V 0 10).toNat) (hi : isI V i) : xC D l uX6_rivalTime 5 115 0 0 [xR 0, xI i] n T M (xPI n T (fun z M2 => (Rvt V i.toNat z) ∧ xof [3, 4, 162, 163, 164, 165, 166, 167] M M2)) := by
  refine x_met uX6_rivalTime (by decide) (Nat.le_of_ble_eq_true rfl) ?_
  intro Γ G Rt _
  have G : xG Γ RX6 cX6_rivalTime 5 5 115 0 0 := G
  have Rt : xRt Γ (xPI n T (fun z M2 => (Rvt V i.toNat z) ∧ xof [3, 4, 162, 163, 164, 165, 166, 167] M M2)) (some .int) 0 0 := Rt
  show xX Γ 0 0 n T 0 [(0, xR 0), (1, xI i)] [] M
  have hc := ok_c hv
  have hsc := hv.1
  have hit := ok_i hv hi.1 hi.2
  have hsw := ok_s hv hit.1.1 hit.1.2
  refine x_aload_n G 0 rfl rfl dX6_rivalTime_0 ?_
  refine x_get G (xR 1) xf6_0 lk_X6_10 (ly_n hY 0 (by decide)) (ly_k hY 0 (by decide)) (Or.inr ⟨rfl, _, (ly_r hY 0 0 (by decide) (by decide)), rfl⟩) dX6_rivalTime_1 ?_
  refine x_get G (xR (1 + 4)) xf3_1 lk_X6_133 (st_n (ly_st1 hY) 0 (by decide)) (st_k (ly_st1 hY) 0 (by decide)) (Or.inr ⟨rfl, _, (st_r (ly_st1 hY) 0 1 (by decide) (by decide)), rfl⟩) dX6_rivalTime_4 ?_
  refine x_iload_n G 1 rfl rfl dX6_rivalTime_7 ?_
  refine x_iald G (st_n (ly_st1 hY) 4 (by decide)) (st_k (ly_st1 hY) 4 (by decide)) (show _ = 100 from st_l (ly_st1 hY) 4 (by decide)) (by omega) (by omega) dX6_rivalTime_8 ?_
  rw [show M (1 + 4) i.toNat = (V 4 i.toNat) from (congrFun (hV 4 (by decide) (by decide) (by decide)) i.toNat)]
  refine x_istore_n G [(2, xI (V 4 i.toNat)), (0, xR 0), (1, xI i)] rfl (by decide) rfl dX6_rivalTime_9 ?_
  refine x_iconst G (by decide) dX6_rivalTime_10 ?_
  refine x_istore_n G [(3, xI 0), (2, xI (V 4 i.toNat)), (0, xR 0), (1, xI i)] rfl (by decide) rfl dX6_rivalTime_11 ?_
  refine x_aload_n G 2 rfl rfl dX6_rivalTime_12 ?_
  refine x_get G (xR 1) xf6_0 lk_X6_10 (ly_n hY 0 (by decide)) (ly_k hY 0 (by decide)) (Or.inr ⟨rfl, _, (ly_r hY 0 0 (by decide) (by decide)), rfl⟩) dX6_rivalTime_13 ?_
  refine x_get G (xI (M 1 10)) xf3_10 lk_X6_83 (st_n (ly_st1 hY) 0 (by decide)) (st_k (ly_st1 hY) 0 (by decide)) (Or.inl ⟨rfl, rfl⟩) dX6_rivalTime_16 ?_
  rw [show M 1 10 = (V 0 10) from (congrFun (hV 0 (by decide) (by decide) (by decide)) 10)]
  refine x_iconst G (by decide) dX6_rivalTime_19 ?_
  refine x_isub G (by omega) dX6_rivalTime_20 ?_
  refine x_istore G [(4, xI ((V 0 10) - 1)), (3, xI 0), (2, xI (V 4 i.toNat)), (0, xR 0), (1, xI i)] (by decide) rfl dX6_rivalTime_21 ?_
  have loop23 : ∀ (d : Nat) (k : Int) (q : Int) (M1 : xM), (k + 1).toNat = d → (-1 ≤ k ∧ k < V 0 10) → (q = fb_si (fun j => b2i (riv V i.toNat j)) (V 0 10).toNat - fb_si (fun j => b2i (riv V i.toNat j)) (k + 1).toNat) → (0 ≤ q ∧ q < V 11 (V 4 i.toNat).toNat) → (shw M1 1 V) → (xof [3, 4, 162, 163, 164, 165, 166, 167] M M1) → xX Γ 0 0 n T 23 [(0, xR 0), (1, xI i), (2, xI (V 4 i.toNat)), (3, xI q), (4, xI k)] [] M1 := by
    intro d
    induction d using Nat.strongRecOn with
    | ind d ih23 =>
    intro k q M1 hd23 hk hn hlt hV1 hx1
    skip
    refine x_iload G 4 rfl dX6_rivalTime_23 ?_
    refine x_if_lt G 94 (by decide) dX6_rivalTime_25 (fun c25 => ?_) (fun c25 => ?_)
    · skip
      refine x_iconst G (by decide) dX6_rivalTime_94 ?_
      exact x_iret G Rt dX6_rivalTime_95 ⟨rfl, rfl, _, rfl, ⟨Or.inl ⟨rfl, by have e : (k + 1).toNat = 0 := (by omega); rw [e] at hn; have : fb_si (fun j => b2i (riv V i.toNat j)) 0 = 0 := rfl; omega⟩, hx1⟩⟩
    · skip
      have hik := ok_i hv (i := k) (by omega) (by omega)
      have ek : ((k.toNat : Nat) : Int) = k := by omega
      have ei : ((i.toNat : Nat) : Int) = i := by omega
      refine x_iload G 4 rfl dX6_rivalTime_28 ?_
      refine x_iload_n G 1 rfl rfl dX6_rivalTime_30 ?_
      refine x_icmp_eq G 88 (by decide) dX6_rivalTime_31 (fun c31 => ?_) (fun c31 => ?_)
      · skip
        refine x_iinc G [(4, xI (k + (-1))), (0, xR 0), (1, xI i), (2, xI (V 4 i.toNat)), (3, xI q)] 4 rfl (by decide) (by omega) rfl dX6_rivalTime_88 ?_
        refine x_goto G 23 (by decide) dX6_rivalTime_91 ?_
        refine x_sub [(0, xR 0), (1, xI i), (2, xI (V 4 i.toNat)), (3, xI q), (4, xI (k + (-1)))] [1, 2, 3, 4, 0] rfl ?_
        exact ih23 _ (by omega) (k + (-1)) q M1 rfl (by omega) (by
          have e1 : (k + -1 + 1).toNat = k.toNat := by omega
          have e2 : (k + 1).toNat = k.toNat + 1 := by omega
          rw [e2, fb_si_succ] at hn
          rw [e1]
          first
            | (rw [b2i_t hrv] at hn; omega)
            | (rw [b2i_f (fun h => c58 (by have h2 := h.2; rw [ek, ei] at h2; exact h2))] at hn; omega)
            | (rw [b2i_f (fun h => c45 h.1)] at hn; omega)
            | (rw [b2i_f (fun h => by have h2 := h.2; rw [ek, ei, show k = i by omega] at h2; exact ahd_asym h2 h2)] at hn; omega)) (by omega) (hV1) (hx1)
      · skip
        refine x_aload_n G 0 rfl rfl dX6_rivalTime_34 ?_
        refine x_get G (xR 1) xf6_0 lk_X6_10 (ly_n hY 0 (by decide)) (ly_k hY 0 (by decide)) (Or.inr ⟨rfl, _, (ly_r hY 0 0 (by decide) (by decide)), rfl⟩) dX6_rivalTime_35 ?_
        refine x_iload G 4 rfl dX6_rivalTime_38 ?_
        refine x_iload_n G 2 rfl rfl dX6_rivalTime_40 ?_
        refine x_iconst G (by decide) dX6_rivalTime_41 ?_
        refine x_callVp G [] [xI k, xI (V 4 i.toNat), xI (-1)] rfl (by decide) (st_n (ly_st1 hY) 0 (by decide)) (st_k (ly_st1 hY) 0 (by decide)) hy_X3_isUndroppedOf hi_X3_isUndroppedOf hs_X3_isUndroppedOf ml_X6_144 rfl rfl (kX3_isUndroppedOf _ _ 1 V k (V 4 i.toNat) (-1) (ly_st1 hY) hV1 hv (by omega)) (by decide) (by decide) (Nat.le_of_ble_eq_true rfl) dX6_rivalTime_42 ?_
        refine x_if_eq G 88 (by decide) dX6_rivalTime_45 (fun c45 => ?_) (fun c45 => ?_)
        · skip
          have c45 := b2i_eq0.mp c45
          refine x_iinc G [(4, xI (k + (-1))), (0, xR 0), (1, xI i), (2, xI (V 4 i.toNat)), (3, xI q)] 4 rfl (by decide) (by omega) rfl dX6_rivalTime_88 ?_
          refine x_goto G 23 (by decide) dX6_rivalTime_91 ?_
          refine x_sub [(0, xR 0), (1, xI i), (2, xI (V 4 i.toNat)), (3, xI q), (4, xI (k + (-1)))] [1, 2, 3, 4, 0] rfl ?_
          exact ih23 _ (by omega) (k + (-1)) q M1 rfl (by omega) (by
          have e1 : (k + -1 + 1).toNat = k.toNat := by omega
          have e2 : (k + 1).toNat = k.toNat + 1 := by omega
          rw [e2, fb_si_succ] at hn
          rw [e1]
          first
            | (rw [b2i_t hrv] at hn; omega)
            | (rw [b2i_f (fun h => c58 (by have h2 := h.2; rw [ek, ei] at h2; exact h2))] at hn; omega)
            | (rw [b2i_f (fun h => c45 h.1)] at hn; omega)
            | (rw [b2i_f (fun h => by have h2 := h.2; rw [ek, ei, show k = i by omega] at h2; exact ahd_asym h2 h2)] at hn; omega)) (by omega) (hV1) (hx1)
        · skip
          have c45 := b2i_ne0.mp c45
          refine x_aload_n G 0 rfl rfl dX6_rivalTime_48 ?_
          refine x_get G (xR 1) xf6_0 lk_X6_10 (ly_n hY 0 (by decide)) (ly_k hY 0 (by decide)) (Or.inr ⟨rfl, _, (ly_r hY 0 0 (by decide) (by decide)), rfl⟩) dX6_rivalTime_49 ?_
          refine x_iload G 4 rfl dX6_rivalTime_52 ?_
          refine x_iload_n G 1 rfl rfl dX6_rivalTime_54 ?_
          refine x_callVI G [] [xI k, xI i] rfl (by decide) (st_n (ly_st1 hY) 0 (by decide)) (st_k (ly_st1 hY) 0 (by decide)) hy_X3_isAhead hi_X3_isAhead hs_X3_isAhead ml_X6_279 rfl rfl (kX3_isAhead _ _ 1 V k i (ly_st1 hY) hV1 hv (by omega) (by omega)) (by decide) (by decide) (Nat.le_of_ble_eq_true rfl) dX6_rivalTime_55 (fun z55 M55 h55 => ?_)
          rw [h55.1]
          refine x_if_eq G 88 (by decide) dX6_rivalTime_58 (fun c58 => ?_) (fun c58 => ?_)
          · skip
            have c58 := b2i_eq0.mp c58
            refine x_iinc G [(4, xI (k + (-1))), (0, xR 0), (1, xI i), (2, xI (V 4 i.toNat)), (3, xI q)] 4 rfl (by decide) (by omega) rfl dX6_rivalTime_88 ?_
            refine x_goto G 23 (by decide) dX6_rivalTime_91 ?_
            refine x_sub [(0, xR 0), (1, xI i), (2, xI (V 4 i.toNat)), (3, xI q), (4, xI (k + (-1)))] [1, 2, 3, 4, 0] rfl ?_
            exact ih23 _ (by omega) (k + (-1)) q M55 rfl (by omega) (by
          have e1 : (k + -1 + 1).toNat = k.toNat := by omega
          have e2 : (k + 1).toNat = k.toNat + 1 := by omega
          rw [e2, fb_si_succ] at hn
          rw [e1]
          first
            | (rw [b2i_t hrv] at hn; omega)
            | (rw [b2i_f (fun h => c58 (by have h2 := h.2; rw [ek, ei] at h2; exact h2))] at hn; omega)
            | (rw [b2i_f (fun h => c45 h.1)] at hn; omega)
            | (rw [b2i_f (fun h => by have h2 := h.2; rw [ek, ei, show k = i by omega] at h2; exact ahd_asym h2 h2)] at hn; omega)) (by omega) ((shw_xof hV1 h55.2 (by intro k9 h1 h2 h3; simp <;> omega))) ((xof_trans hx1 (xof_mono h55.2 (by decide))))
          · skip
            have c58 := b2i_ne0.mp c58
            have hrv : riv V i.toNat k.toNat := ⟨c45, by rw [ek, ei]; exact c58⟩
            refine x_iinc G [(3, xI (q + 1)), (0, xR 0), (1, xI i), (2, xI (V 4 i.toNat)), (4, xI k)] 3 rfl (by decide) (by omega) rfl dX6_rivalTime_61 ?_
            refine x_iload_n G 0 rfl rfl dX6_rivalTime_64 ?_
            refine x_aload_n G 1 rfl rfl dX6_rivalTime_65 ?_
            refine x_get G (xR 1) xf6_0 lk_X6_10 (ly_n hY 0 (by decide)) (ly_k hY 0 (by decide)) (Or.inr ⟨rfl, _, (ly_r hY 0 0 (by decide) (by decide)), rfl⟩) dX6_rivalTime_66 ?_
            refine x_get G (xR (1 + 11)) xf3_8 lk_X6_113 (st_n (ly_st1 hY) 0 (by decide)) (st_k (ly_st1 hY) 0 (by decide)) (Or.inr ⟨rfl, _, (st_r (ly_st1 hY) 0 8 (by decide) (by decide)), rfl⟩) dX6_rivalTime_69 ?_
            refine x_iload_n G 3 rfl rfl dX6_rivalTime_72 ?_
            refine x_iald G (st_n (ly_st1 hY) 11 (by decide)) (st_k (ly_st1 hY) 11 (by decide)) (show _ = 4 from st_l (ly_st1 hY) 11 (by decide)) (by omega) (by omega) dX6_rivalTime_73 ?_
            rw [show M55 (1 + 11) (V 4 i.toNat).toNat = (V 11 (V 4 i.toNat).toNat) from ((congrFun (h55.2 (1 + 11) (by simp <;> omega)) (V 4 i.toNat).toNat).trans (congrFun (hV1 11 (by decide) (by decide) (by decide)) (V 4 i.toNat).toNat))]
            refine x_icmp_ne G 88 (by decide) dX6_rivalTime_74 (fun c74 => ?_) (fun c74 => ?_)
            · skip
              refine x_iinc G [(4, xI (k + (-1))), (3, xI (q + 1)), (0, xR 0), (1, xI i), (2, xI (V 4 i.toNat))] 4 rfl (by decide) (by omega) rfl dX6_rivalTime_88 ?_
              refine x_goto G 23 (by decide) dX6_rivalTime_91 ?_
              refine x_sub [(0, xR 0), (1, xI i), (2, xI (V 4 i.toNat)), (3, xI (q + 1)), (4, xI (k + (-1)))] [2, 3, 4, 1, 0] rfl ?_
              exact ih23 _ (by omega) (k + (-1)) (q + 1) M55 rfl (by omega) (by
          have e1 : (k + -1 + 1).toNat = k.toNat := by omega
          have e2 : (k + 1).toNat = k.toNat + 1 := by omega
          rw [e2, fb_si_succ] at hn
          rw [e1]
          first
            | (rw [b2i_t hrv] at hn; omega)
            | (rw [b2i_f (fun h => c58 (by have h2 := h.2; rw [ek, ei] at h2; exact h2))] at hn; omega)
            | (rw [b2i_f (fun h => c45 h.1)] at hn; omega)
            | (rw [b2i_f (fun h => by have h2 := h.2; rw [ek, ei, show k = i by omega] at h2; exact ahd_asym h2 h2)] at hn; omega)) (by omega) ((shw_xof hV1 h55.2 (by intro k9 h1 h2 h3; simp <;> omega))) ((xof_trans hx1 (xof_mono h55.2 (by decide))))
            · skip
              have e2 : (k + 1).toNat = k.toNat + 1 := by omega
              have hn2 : q = fb_si (fun j => b2i (riv V i.toNat j)) (V 0 10).toNat - (fb_si (fun j => b2i (riv V i.toNat j)) k.toNat + 1) := (by rw [e2, fb_si_succ, b2i_t hrv] at hn; exact hn)
              refine x_aload_n G 1 rfl rfl dX6_rivalTime_77 ?_
              refine x_get G (xR 1) xf6_0 lk_X6_10 (ly_n hY 0 (by decide)) (ly_k hY 0 (by decide)) (Or.inr ⟨rfl, _, (ly_r hY 0 0 (by decide) (by decide)), rfl⟩) dX6_rivalTime_78 ?_
              refine x_get G (xR (1 + 8)) xf3_5 lk_X6_190 (st_n (ly_st1 hY) 0 (by decide)) (st_k (ly_st1 hY) 0 (by decide)) (Or.inr ⟨rfl, _, (st_r (ly_st1 hY) 0 5 (by decide) (by decide)), rfl⟩) dX6_rivalTime_81 ?_
              refine x_iload G 4 rfl dX6_rivalTime_84 ?_
              refine x_iald G (st_n (ly_st1 hY) 8 (by decide)) (st_k (ly_st1 hY) 8 (by decide)) (show _ = 100 from st_l (ly_st1 hY) 8 (by decide)) (by omega) (by omega) dX6_rivalTime_86 ?_
              rw [show M55 (1 + 8) k.toNat = (V 8 k.toNat) from ((congrFun (h55.2 (1 + 8) (by simp <;> omega)) k.toNat).trans (congrFun (hV1 8 (by decide) (by decide) (by decide)) k.toNat))]
              exact x_iret G Rt dX6_rivalTime_87 ⟨rfl, rfl, _, rfl, ⟨Or.inr ⟨k.toNat, by omega, hrv, rfl, by omega⟩, (xof_trans hx1 (xof_mono h55.2 (by decide)))⟩⟩
  refine x_sub [(0, xR 0), (1, xI i), (2, xI (V 4 i.toNat)), (3, xI 0), (4, xI ((V 0 10) - 1))] [3, 4, 2, 1, 0] rfl ?_
  exact loop23 _ ((V 0 10) - 1) 0 M rfl (by omega) (by rw [show V 0 10 - 1 + 1 = V 0 10 by omega]; omega) (by omega) (hV) ((xof_refl _ _))
set_option maxRecDepth 100000 in
set_option maxHeartbeats 4000000 in
theorem kX6_windowFor (D : xD) (l : Launch) {n : Nat} {T : xT} {M : xM} (V : xM) (i : Int) (hY : LayOK n T) (hV : shw M 1 V) (hv : VOK V) (hs : Srt V (V 10) (V 0 10).toNat) : xC D l uX6_windowFor 6 139 0 0 [xR 0, xI i] n T M (xPI n T (fun z M2 => (qWindowFor V i z) ∧ xof [3, 4, 162, 163, 164, 165, 166, 167] M M2)) := by
  refine x_met uX6_windowFor (by decide) (Nat.le_of_ble_eq_true rfl) ?_
  intro Γ G Rt _
  have G : xG Γ RX6 cX6_windowFor 4 6 139 0 0 := G
  have Rt : xRt Γ (xPI n T (fun z M2 => (qWindowFor V i z) ∧ xof [3, 4, 162, 163, 164, 165, 166, 167] M M2)) (some .int) 0 0 := Rt
  show xX Γ 0 0 n T 0 [(0, xR 0), (1, xI i)] [] M
  have hc := ok_c hv
  have hsc := hv.1
  refine x_aload_n G 0 rfl rfl dX6_windowFor_0 ?_
  refine x_get G (xR 1) xf6_0 lk_X6_10 (ly_n hY 0 (by decide)) (ly_k hY 0 (by decide)) (Or.inr ⟨rfl, _, (ly_r hY 0 0 (by decide) (by decide)), rfl⟩) dX6_windowFor_1 ?_
  refine x_iload_n G 1 rfl rfl dX6_windowFor_4 ?_
  refine x_callVp G [] [xI i] rfl (by decide) (st_n (ly_st1 hY) 0 (by decide)) (st_k (ly_st1 hY) 0 (by decide)) hy_X3_hasItem hi_X3_hasItem hs_X3_hasItem ml_X6_187 rfl rfl (kX3_hasItem _ _ 1 V i (ly_st1 hY) hV hv) (by decide) (by decide) (Nat.le_of_ble_eq_true rfl) dX6_windowFor_5 ?_
  refine x_if_ne G 13 (by decide) dX6_windowFor_8 (fun c8 => ?_) (fun c8 => ?_)
  · skip
    have c8 := b2i_ne0.mp c8
    have hit := ok_i hv (i := i) (by omega) (by omega)
    refine x_aload_n G 0 rfl rfl dX6_windowFor_13 ?_
    refine x_get G (xR 1) xf6_0 lk_X6_10 (ly_n hY 0 (by decide)) (ly_k hY 0 (by decide)) (Or.inr ⟨rfl, _, (ly_r hY 0 0 (by decide) (by decide)), rfl⟩) dX6_windowFor_14 ?_
    refine x_get G (xR (1 + 9)) xf3_6 lk_X6_129 (st_n (ly_st1 hY) 0 (by decide)) (st_k (ly_st1 hY) 0 (by decide)) (Or.inr ⟨rfl, _, (st_r (ly_st1 hY) 0 6 (by decide) (by decide)), rfl⟩) dX6_windowFor_17 ?_
    refine x_iload_n G 1 rfl rfl dX6_windowFor_20 ?_
    refine x_zald G (st_n (ly_st1 hY) 9 (by decide)) (st_k (ly_st1 hY) 9 (by decide)) (show _ = 100 from st_l (ly_st1 hY) 9 (by decide)) (by omega) (by omega) dX6_windowFor_21 ?_
    rw [show M (1 + 9) i.toNat = (V 9 i.toNat) from (congrFun (hV 9 (by decide) (by decide) (by decide)) i.toNat)]
    refine x_if_eq G 28 (by decide) dX6_windowFor_22 (fun c22 => ?_) (fun c22 => ?_)
    · skip
      refine x_aload_n G 0 rfl rfl dX6_windowFor_28 ?_
      refine x_iload_n G 1 rfl rfl dX6_windowFor_29 ?_
      refine x_callVI G [] [xI i] rfl (by decide) (ly_n hY 0 (by decide)) (ly_k hY 0 (by decide)) hy_X6_rivalTime hi_X6_rivalTime hs_X6_rivalTime ml_X6_272 rfl rfl (kX6_rivalTime _ _ V i hY hV hv hs (by omega)) (by decide) (by decide) (Nat.le_of_ble_eq_true rfl) dX6_windowFor_30 (fun z30 M30 h30 => ?_)
      have hrl := rvt_lt hv h30.1
      have hrb := rvt_b hv h30.1
      refine x_istore_n G [(2, xI z30), (0, xR 0), (1, xI i)] rfl (by decide) rfl dX6_windowFor_33 ?_
      refine x_iload_n G 0 rfl rfl dX6_windowFor_34 ?_
      refine x_iconst G (by decide) dX6_windowFor_35 ?_
      refine x_icmp_ne G 45 (by decide) dX6_windowFor_36 (fun c36 => ?_) (fun c36 => ?_)
      · skip
        refine x_aload_n G 1 rfl rfl dX6_windowFor_45 ?_
        refine x_get G (xR 1) xf6_0 lk_X6_10 (ly_n hY 0 (by decide)) (ly_k hY 0 (by decide)) (Or.inr ⟨rfl, _, (ly_r hY 0 0 (by decide) (by decide)), rfl⟩) dX6_windowFor_46 ?_
        refine x_get G (xI (M30 1 11)) xf3_11 lk_X6_109 (st_n (ly_st1 hY) 0 (by decide)) (st_k (ly_st1 hY) 0 (by decide)) (Or.inl ⟨rfl, rfl⟩) dX6_windowFor_49 ?_
        rw [show M30 1 11 = (V 0 11) from ((congrFun (h30.2 1 (by simp <;> omega)) 11).trans (congrFun (hV 0 (by decide) (by decide) (by decide)) 11))]
        refine x_iload_n G 0 rfl rfl dX6_windowFor_52 ?_
        refine x_isub G (by omega) dX6_windowFor_53 ?_
        refine x_sipush G (by decide) dX6_windowFor_54 ?_
        refine x_min G ml_X6_161 stat_min ini_Math code_min (by decide) (by decide) (Nat.le_of_ble_eq_true rfl) dX6_windowFor_57 ?_
        refine x_istore_n G [(3, xI (if 9999 < ((V 0 11) - z30) then 9999 else ((V 0 11) - z30))), (2, xI z30), (0, xR 0), (1, xI i)] rfl (by decide) rfl dX6_windowFor_60 ?_
        refine x_aload_n G 2 rfl rfl dX6_windowFor_61 ?_
        refine x_get G (xR 1) xf6_0 lk_X6_10 (ly_n hY 0 (by decide)) (ly_k hY 0 (by decide)) (Or.inr ⟨rfl, _, (ly_r hY 0 0 (by decide) (by decide)), rfl⟩) dX6_windowFor_62 ?_
        refine x_get G (xR (1 + 8)) xf3_5 lk_X6_190 (st_n (ly_st1 hY) 0 (by decide)) (st_k (ly_st1 hY) 0 (by decide)) (Or.inr ⟨rfl, _, (st_r (ly_st1 hY) 0 5 (by decide) (by decide)), rfl⟩) dX6_windowFor_65 ?_
        refine x_iload_n G 3 rfl rfl dX6_windowFor_68 ?_
        refine x_iald G (st_n (ly_st1 hY) 8 (by decide)) (st_k (ly_st1 hY) 8 (by decide)) (show _ = 100 from st_l (ly_st1 hY) 8 (by decide)) (by omega) (by omega) dX6_windowFor_69 ?_
        rw [show M30 (1 + 8) i.toNat = (V 8 i.toNat) from ((congrFun (h30.2 (1 + 8) (by simp <;> omega)) i.toNat).trans (congrFun (hV 8 (by decide) (by decide) (by decide)) i.toNat))]
        refine x_aload_n G 2 rfl rfl dX6_windowFor_70 ?_
        refine x_get G (xR 1) xf6_0 lk_X6_10 (ly_n hY 0 (by decide)) (ly_k hY 0 (by decide)) (Or.inr ⟨rfl, _, (ly_r hY 0 0 (by decide) (by decide)), rfl⟩) dX6_windowFor_71 ?_
        refine x_get G (xI (M30 1 11)) xf3_11 lk_X6_109 (st_n (ly_st1 hY) 0 (by decide)) (st_k (ly_st1 hY) 0 (by decide)) (Or.inl ⟨rfl, rfl⟩) dX6_windowFor_74 ?_
        rw [show M30 1 11 = (V 0 11) from ((congrFun (h30.2 1 (by simp <;> omega)) 11).trans (congrFun (hV 0 (by decide) (by decide) (by decide)) 11))]
        refine x_iload_n G 0 rfl rfl dX6_windowFor_77 ?_
        refine x_isub G (by omega) dX6_windowFor_78 ?_
        refine x_icmp_le G 86 (by decide) dX6_windowFor_79 (fun c79 => ?_) (fun c79 => ?_)
        · skip
          refine x_bipush G (by decide) dX6_windowFor_86 ?_
          exact x_iret G Rt dX6_windowFor_88 ⟨rfl, rfl, _, rfl, ⟨Or.inr (Or.inr ⟨by omega, by omega, Or.inr ⟨rfl, fun x a b h => by have := (hrl (V 0 11 - x)).mp h.2; have := h.1; omega⟩⟩), (xof_trans (xof_refl _ _) (xof_mono h30.2 (by decide)))⟩⟩
        · skip
          refine x_iload_n G 0 rfl rfl dX6_windowFor_82 ?_
          refine x_goto G 88 (by decide) dX6_windowFor_83 ?_
          exact x_iret G Rt dX6_windowFor_88 ⟨rfl, rfl, _, rfl, ⟨Or.inr (Or.inr ⟨by omega, by omega, Or.inl ⟨by omega, ⟨by omega, (hrl _).mpr (by omega)⟩, fun x a b h => by have := (hrl (V 0 11 - x)).mp h.2; omega⟩⟩), (xof_trans (xof_refl _ _) (xof_mono h30.2 (by decide)))⟩⟩
      · skip
        refine x_sipush G (by decide) dX6_windowFor_39 ?_
        refine x_goto G 60 (by decide) dX6_windowFor_42 ?_
        refine x_istore_n G [(3, xI 9999), (2, xI z30), (0, xR 0), (1, xI i)] rfl (by decide) rfl dX6_windowFor_60 ?_
        refine x_aload_n G 2 rfl rfl dX6_windowFor_61 ?_
        refine x_get G (xR 1) xf6_0 lk_X6_10 (ly_n hY 0 (by decide)) (ly_k hY 0 (by decide)) (Or.inr ⟨rfl, _, (ly_r hY 0 0 (by decide) (by decide)), rfl⟩) dX6_windowFor_62 ?_
        refine x_get G (xR (1 + 8)) xf3_5 lk_X6_190 (st_n (ly_st1 hY) 0 (by decide)) (st_k (ly_st1 hY) 0 (by decide)) (Or.inr ⟨rfl, _, (st_r (ly_st1 hY) 0 5 (by decide) (by decide)), rfl⟩) dX6_windowFor_65 ?_
        refine x_iload_n G 3 rfl rfl dX6_windowFor_68 ?_
        refine x_iald G (st_n (ly_st1 hY) 8 (by decide)) (st_k (ly_st1 hY) 8 (by decide)) (show _ = 100 from st_l (ly_st1 hY) 8 (by decide)) (by omega) (by omega) dX6_windowFor_69 ?_
        rw [show M30 (1 + 8) i.toNat = (V 8 i.toNat) from ((congrFun (h30.2 (1 + 8) (by simp <;> omega)) i.toNat).trans (congrFun (hV 8 (by decide) (by decide) (by decide)) i.toNat))]
        refine x_aload_n G 2 rfl rfl dX6_windowFor_70 ?_
        refine x_get G (xR 1) xf6_0 lk_X6_10 (ly_n hY 0 (by decide)) (ly_k hY 0 (by decide)) (Or.inr ⟨rfl, _, (ly_r hY 0 0 (by decide) (by decide)), rfl⟩) dX6_windowFor_71 ?_
        refine x_get G (xI (M30 1 11)) xf3_11 lk_X6_109 (st_n (ly_st1 hY) 0 (by decide)) (st_k (ly_st1 hY) 0 (by decide)) (Or.inl ⟨rfl, rfl⟩) dX6_windowFor_74 ?_
        rw [show M30 1 11 = (V 0 11) from ((congrFun (h30.2 1 (by simp <;> omega)) 11).trans (congrFun (hV 0 (by decide) (by decide) (by decide)) 11))]
        refine x_iload_n G 0 rfl rfl dX6_windowFor_77 ?_
        refine x_isub G (by omega) dX6_windowFor_78 ?_
        refine x_icmp_le G 86 (by decide) dX6_windowFor_79 (fun c79 => ?_) (fun c79 => ?_)
        · skip
          refine x_bipush G (by decide) dX6_windowFor_86 ?_
          exact x_iret G Rt dX6_windowFor_88 ⟨rfl, rfl, _, rfl, ⟨Or.inr (Or.inr ⟨by omega, by omega, Or.inr ⟨rfl, fun x a b h => by have := (hrl (V 0 11 - x)).mp h.2; have := h.1; omega⟩⟩), (xof_trans (xof_refl _ _) (xof_mono h30.2 (by decide)))⟩⟩
        · skip
          refine x_iload_n G 0 rfl rfl dX6_windowFor_82 ?_
          refine x_goto G 88 (by decide) dX6_windowFor_83 ?_
          exact x_iret G Rt dX6_windowFor_88 ⟨rfl, rfl, _, rfl, ⟨Or.inr (Or.inr ⟨by omega, by omega, Or.inl ⟨by omega, ⟨by omega, (hrl _).mpr (by omega)⟩, fun x a b h => by have := (hrl (V 0 11 - x)).mp h.2; omega⟩⟩), (xof_trans (xof_refl _ _) (xof_mono h30.2 (by decide)))⟩⟩
    · skip
      refine x_bipush G (by decide) dX6_windowFor_25 ?_
      exact x_iret G Rt dX6_windowFor_27 ⟨rfl, rfl, _, rfl, ⟨Or.inr (Or.inl ⟨by omega, by omega, rfl⟩), (xof_refl _ _)⟩⟩
  · skip
    have c8 := b2i_eq0.mp c8
    refine x_iconst G (by decide) dX6_windowFor_11 ?_
    exact x_iret G Rt dX6_windowFor_12 ⟨rfl, rfl, _, rfl, ⟨Or.inl ⟨by omega, rfl⟩, (xof_refl _ _)⟩⟩
set_option maxRecDepth 100000 in
set_option maxHeartbeats 4000000 in
theorem kX6_later (D : xD) (l : Launch) {n : Nat} {T : xT} {M : xM} (V : xM) (sh t k : Int) (hY : LayOK n T) (hV : shw M 1 V) (hv : VOK V) (hs : Srt V (V 10) (V 0 10).toNat) : xC D l uX6_later 3 69 0 0 [xR 0, xI sh, xI t, xI k] n T M (xPI n T (fun z M2 => z = qLater V sh t k ∧ xof [3, 4, 162, 163, 164, 165, 166, 167] M M2)) := by
  refine x_met uX6_later (by decide) (Nat.le_of_ble_eq_true rfl) ?_
  intro Γ G Rt _
  have G : xG Γ RX6 cX6_later 4 3 69 0 0 := G
  have Rt : xRt Γ (xPI n T (fun z M2 => z = qLater V sh t k ∧ xof [3, 4, 162, 163, 164, 165, 166, 167] M M2)) (some .int) 0 0 := Rt
  show xX Γ 0 0 n T 0 [(0, xR 0), (1, xI sh), (2, xI t), (3, xI k)] [] M
  have hc := ok_c hv
  have hsc := hv.1
  refine x_iload_n G 1 rfl rfl dX6_later_0 ?_
  refine x_callSp G [] [xI sh] hy_X6_isShard ht_X6_isShard ml_X6_86 rfl rfl (kX6_isShard _ _ sh) (by decide) (by decide) (Nat.le_of_ble_eq_true rfl) dX6_later_1 ?_
  refine x_if_eq G 23 (by decide) dX6_later_4 (fun c4 => ?_) (fun c4 => ?_)
  · skip
    have c4 := b2i_eq0.mp c4
    refine x_iconst G (by decide) dX6_later_23 ?_
    exact x_iret G Rt dX6_later_24 ⟨rfl, rfl, _, rfl, ⟨(by unfold qLater; (repeat (first | rw [if_pos (by omega)] | rw [if_neg (by omega)])) <;> try rfl), (xof_refl _ _)⟩⟩
  · skip
    have c4 := b2i_ne0.mp c4
    refine x_iload_n G 2 rfl rfl dX6_later_7 ?_
    refine x_iconst G (by decide) dX6_later_8 ?_
    refine x_sipush G (by decide) dX6_later_9 ?_
    refine x_callSp G [] [xI t, xI 0, xI 9999] hy_X6_isWithin ht_X6_isWithin ml_X6_62 rfl rfl (kX6_isWithin _ _ t 0 9999) (by decide) (by decide) (Nat.le_of_ble_eq_true rfl) dX6_later_12 ?_
    refine x_if_eq G 23 (by decide) dX6_later_15 (fun c15 => ?_) (fun c15 => ?_)
    · skip
      have c15 := b2i_eq0.mp c15
      refine x_iconst G (by decide) dX6_later_23 ?_
      exact x_iret G Rt dX6_later_24 ⟨rfl, rfl, _, rfl, ⟨(by unfold qLater; (repeat (first | rw [if_pos (by omega)] | rw [if_neg (by omega)])) <;> try rfl), (xof_refl _ _)⟩⟩
    · skip
      have c15 := b2i_ne0.mp c15
      refine x_iload_n G 3 rfl rfl dX6_later_18 ?_
      refine x_iconst G (by decide) dX6_later_19 ?_
      refine x_icmp_ge G 25 (by decide) dX6_later_20 (fun c20 => ?_) (fun c20 => ?_)
      · skip
        refine x_aload_n G 0 rfl rfl dX6_later_25 ?_
        refine x_get G (xR 162) xf6_4 lk_X6_37 (ly_n hY 0 (by decide)) (ly_k hY 0 (by decide)) (Or.inr ⟨rfl, _, (ly_r hY 0 4 (by decide) (by decide)), rfl⟩) dX6_later_26 ?_
        refine x_aload_n G 0 rfl rfl dX6_later_29 ?_
        refine x_get G (xR 1) xf6_0 lk_X6_10 (ly_n hY 0 (by decide)) (ly_k hY 0 (by decide)) (Or.inr ⟨rfl, _, (ly_r hY 0 0 (by decide) (by decide)), rfl⟩) dX6_later_30 ?_
        refine x_iload_n G 1 rfl rfl dX6_later_33 ?_
        refine x_callVV G [] [xR 1, xI sh] rfl (by decide) (sa_n (ly_sa162 hY) 0 (by decide)) (sa_k (ly_sa162 hY) 0 (by decide)) hy_X2_ask hi_X2_ask hs_X2_ask ml_X6_208 rfl rfl (kX2_ask _ _ 162 1 V sh (ly_sa162 hY) (ly_st1 hY) (by omega) hV hv (by omega)) (by decide) (by decide) (Nat.le_of_ble_eq_true rfl) dX6_later_34 (fun M34 h34 => ?_)
        have hbp34 : 1 ≤ (2 : Int) ^ (sh : Int).toNat ∧ (2 : Int) ^ (sh : Int).toNat ≤ 8 := two_b (by omega)
        refine x_aload_n G 0 rfl rfl dX6_later_37 ?_
        refine x_get G (xR 162) xf6_4 lk_X6_37 (ly_n hY 0 (by decide)) (ly_k hY 0 (by decide)) (Or.inr ⟨rfl, _, (ly_r hY 0 4 (by decide) (by decide)), rfl⟩) dX6_later_38 ?_
        refine x_aload_n G 0 rfl rfl dX6_later_41 ?_
        refine x_get G (xR 1) xf6_0 lk_X6_10 (ly_n hY 0 (by decide)) (ly_k hY 0 (by decide)) (Or.inr ⟨rfl, _, (ly_r hY 0 0 (by decide) (by decide)), rfl⟩) dX6_later_42 ?_
        refine x_get G (xI (M34 1 11)) xf3_11 lk_X6_109 (st_n (ly_st1 hY) 0 (by decide)) (st_k (ly_st1 hY) 0 (by decide)) (Or.inl ⟨rfl, rfl⟩) dX6_later_45 ?_
        rw [show M34 1 11 = (V 0 11) from ((congrFun (h34.2 1 (by simp <;> omega)) 11).trans (congrFun (hV 0 (by decide) (by decide) (by decide)) 11))]
        refine x_iload_n G 2 rfl rfl dX6_later_48 ?_
        refine x_iadd G (by omega) dX6_later_49 ?_
        refine x_put G  xf2_5 lk_X6_275 (sa_n (ly_sa162 hY) 0 (by decide)) (sa_k (ly_sa162 hY) 0 (by decide)) rfl dX6_later_50 ?_
        refine x_aload_n G 0 rfl rfl dX6_later_53 ?_
        refine x_get G (xR 162) xf6_4 lk_X6_37 (ly_n hY 0 (by decide)) (ly_k hY 0 (by decide)) (Or.inr ⟨rfl, _, (ly_r hY 0 4 (by decide) (by decide)), rfl⟩) dX6_later_54 ?_
        refine x_aload_n G 0 rfl rfl dX6_later_57 ?_
        refine x_get G (xR 1) xf6_0 lk_X6_10 (ly_n hY 0 (by decide)) (ly_k hY 0 (by decide)) (Or.inr ⟨rfl, _, (ly_r hY 0 0 (by decide) (by decide)), rfl⟩) dX6_later_58 ?_
        refine x_callVV G [] [xR 1] rfl (by decide) (sa_n (ly_sa162 hY) 0 (by decide)) (sa_k (ly_sa162 hY) 0 (by decide)) hy_X2_fill hi_X2_fill hs_X2_fill ml_X6_214 rfl rfl (kX2_fill _ _ 162 1 V (2 ^ (sh : Int).toNat) (V 11 (sh : Int).toNat) ((V 0 11) + t) 100 (-1) 100 (ly_sa162 hY) (ly_st1 hY) (by omega) (shw_st (shw_xof hV h34.2 (by intro k9 h1 h2 h3; simp <;> omega)) (by omega)) hv (ask_s5 h34.1) (by omega) (by omega) hs) (by decide) (by decide) (Nat.le_of_ble_eq_true rfl) dX6_later_61 (fun M61 h61 => ?_)
        have hsm61 : Smp M61 162 V (ltL V sh t) := by
          have e9 := h61.1
          rw [fil_lt hv hs (show 0 ≤ sh ∧ sh ≤ 3 by omega)] at e9
          exact e9
        have hn61 := hsm61.1
        have hl61 : (ltL V sh t).length ≤ 100 := by
          rw [← fil_lt hv hs (show 0 ≤ sh ∧ sh ≤ 3 by omega)]
          exact fil_len2 hv _ _ _
        refine x_aload_n G 0 rfl rfl dX6_later_64 ?_
        refine x_get G (xR 162) xf6_4 lk_X6_37 (ly_n hY 0 (by decide)) (ly_k hY 0 (by decide)) (Or.inr ⟨rfl, _, (ly_r hY 0 4 (by decide) (by decide)), rfl⟩) dX6_later_65 ?_
        refine x_iload_n G 3 rfl rfl dX6_later_68 ?_
        refine x_callVp G [] [xI k] rfl (by decide) (sa_n (ly_sa162 hY) 0 (by decide)) (sa_k (ly_sa162 hY) 0 (by decide)) hy_X2_kth hi_X2_kth hs_X2_kth ml_X6_217 rfl rfl (kX2_kth _ _ 162 V (ltL V sh t) k (ly_sa162 hY) hsm61 hl61) (by decide) (by decide) (Nat.le_of_ble_eq_true rfl) dX6_later_69 ?_
        exact x_iret G Rt dX6_later_72 ⟨rfl, rfl, _, rfl, ⟨(by unfold qLater; (repeat (first | rw [if_pos (by omega)] | rw [if_neg (by omega)])) <;> try rfl), (xof_trans (xof_trans (xof_trans (xof_refl _ _) (xof_mono h34.2 (by decide))) (xof_xst (by decide))) (xof_mono h61.2.2 (by decide)))⟩⟩
      · skip
        refine x_iconst G (by decide) dX6_later_23 ?_
        exact x_iret G Rt dX6_later_24 ⟨rfl, rfl, _, rfl, ⟨(by unfold qLater; (repeat (first | rw [if_pos (by omega)] | rw [if_neg (by omega)])) <;> try rfl), (xof_refl _ _)⟩⟩
set_option maxRecDepth 100000 in
set_option maxHeartbeats 4000000 in
theorem kX6_enters (D : xD) (l : Launch) {n : Nat} {T : xT} {M : xM} (V : xM) (i : Int) (hY : LayOK n T) (hV : shw M 1 V) (hv : VOK V) (hs : Srt V (V 10) (V 0 10).toNat) : xC D l uX6_enters 6 139 0 0 [xR 0, xI i] n T M (xPI n T (fun z M2 => (qEnters V i z) ∧ xof [3, 4, 162, 163, 164, 165, 166, 167] M M2)) := by
  refine x_met uX6_enters (by decide) (Nat.le_of_ble_eq_true rfl) ?_
  intro Γ G Rt _
  have G : xG Γ RX6 cX6_enters 4 6 139 0 0 := G
  have Rt : xRt Γ (xPI n T (fun z M2 => (qEnters V i z) ∧ xof [3, 4, 162, 163, 164, 165, 166, 167] M M2)) (some .int) 0 0 := Rt
  show xX Γ 0 0 n T 0 [(0, xR 0), (1, xI i)] [] M
  have hc := ok_c hv
  have hsc := hv.1
  refine x_aload_n G 0 rfl rfl dX6_enters_0 ?_
  refine x_get G (xR 1) xf6_0 lk_X6_10 (ly_n hY 0 (by decide)) (ly_k hY 0 (by decide)) (Or.inr ⟨rfl, _, (ly_r hY 0 0 (by decide) (by decide)), rfl⟩) dX6_enters_1 ?_
  refine x_iload_n G 1 rfl rfl dX6_enters_4 ?_
  refine x_callVp G [] [xI i] rfl (by decide) (st_n (ly_st1 hY) 0 (by decide)) (st_k (ly_st1 hY) 0 (by decide)) hy_X3_hasItem hi_X3_hasItem hs_X3_hasItem ml_X6_187 rfl rfl (kX3_hasItem _ _ 1 V i (ly_st1 hY) hV hv) (by decide) (by decide) (Nat.le_of_ble_eq_true rfl) dX6_enters_5 ?_
  refine x_if_ne G 13 (by decide) dX6_enters_8 (fun c8 => ?_) (fun c8 => ?_)
  · skip
    have c8 := b2i_ne0.mp c8
    have hit := ok_i hv (i := i) (by omega) (by omega)
    have hsw := ok_s hv hit.1.1 hit.1.2
    refine x_aload_n G 0 rfl rfl dX6_enters_13 ?_
    refine x_get G (xR 1) xf6_0 lk_X6_10 (ly_n hY 0 (by decide)) (ly_k hY 0 (by decide)) (Or.inr ⟨rfl, _, (ly_r hY 0 0 (by decide) (by decide)), rfl⟩) dX6_enters_14 ?_
    refine x_iload_n G 1 rfl rfl dX6_enters_17 ?_
    refine x_callVp G [] [xI i] rfl (by decide) (st_n (ly_st1 hY) 0 (by decide)) (st_k (ly_st1 hY) 0 (by decide)) hy_X3_isAlive hi_X3_isAlive hs_X3_isAlive ml_X6_169 rfl rfl (kX3_isAlive _ _ 1 V i (ly_st1 hY) hV hv (by omega)) (by decide) (by decide) (Nat.le_of_ble_eq_true rfl) dX6_enters_18 ?_
    refine x_if_ne G 27 (by decide) dX6_enters_21 (fun c21 => ?_) (fun c21 => ?_)
    · skip
      have c21 := b2i_ne0.mp c21
      refine x_aload_n G 0 rfl rfl dX6_enters_27 ?_
      refine x_iload_n G 1 rfl rfl dX6_enters_28 ?_
      refine x_callVI G [] [xI i] rfl (by decide) (ly_n hY 0 (by decide)) (ly_k hY 0 (by decide)) hy_X6_rivalTime hi_X6_rivalTime hs_X6_rivalTime ml_X6_272 rfl rfl (kX6_rivalTime _ _ V i hY hV hv hs (by omega)) (by decide) (by decide) (Nat.le_of_ble_eq_true rfl) dX6_enters_29 (fun z29 M29 h29 => ?_)
      refine x_istore_n G [(2, xI z29), (0, xR 0), (1, xI i)] rfl (by decide) rfl dX6_enters_32 ?_
      have hrl := rvt_lt hv h29.1
      have hrb := rvt_b hv h29.1
      refine x_aload_n G 1 rfl rfl dX6_enters_33 ?_
      refine x_get G (xR 1) xf6_0 lk_X6_10 (ly_n hY 0 (by decide)) (ly_k hY 0 (by decide)) (Or.inr ⟨rfl, _, (ly_r hY 0 0 (by decide) (by decide)), rfl⟩) dX6_enters_34 ?_
      refine x_get G (xR (1 + 12)) xf3_9 lk_X6_117 (st_n (ly_st1 hY) 0 (by decide)) (st_k (ly_st1 hY) 0 (by decide)) (Or.inr ⟨rfl, _, (st_r (ly_st1 hY) 0 9 (by decide) (by decide)), rfl⟩) dX6_enters_37 ?_
      refine x_aload_n G 1 rfl rfl dX6_enters_40 ?_
      refine x_get G (xR 1) xf6_0 lk_X6_10 (ly_n hY 0 (by decide)) (ly_k hY 0 (by decide)) (Or.inr ⟨rfl, _, (ly_r hY 0 0 (by decide) (by decide)), rfl⟩) dX6_enters_41 ?_
      refine x_get G (xR (1 + 4)) xf3_1 lk_X6_133 (st_n (ly_st1 hY) 0 (by decide)) (st_k (ly_st1 hY) 0 (by decide)) (Or.inr ⟨rfl, _, (st_r (ly_st1 hY) 0 1 (by decide) (by decide)), rfl⟩) dX6_enters_44 ?_
      refine x_iload_n G 2 rfl rfl dX6_enters_47 ?_
      refine x_iald G (st_n (ly_st1 hY) 4 (by decide)) (st_k (ly_st1 hY) 4 (by decide)) (show _ = 100 from st_l (ly_st1 hY) 4 (by decide)) (by omega) (by omega) dX6_enters_48 ?_
      rw [show M29 (1 + 4) i.toNat = (V 4 i.toNat) from ((congrFun (h29.2 (1 + 4) (by simp <;> omega)) i.toNat).trans (congrFun (hV 4 (by decide) (by decide) (by decide)) i.toNat))]
      refine x_iald G (st_n (ly_st1 hY) 12 (by decide)) (st_k (ly_st1 hY) 12 (by decide)) (show _ = 4 from st_l (ly_st1 hY) 12 (by decide)) (by omega) (by omega) dX6_enters_49 ?_
      rw [show M29 (1 + 12) (V 4 i.toNat).toNat = (V 12 (V 4 i.toNat).toNat) from ((congrFun (h29.2 (1 + 12) (by simp <;> omega)) (V 4 i.toNat).toNat).trans (congrFun (hV 12 (by decide) (by decide) (by decide)) (V 4 i.toNat).toNat))]
      refine x_istore_n G [(3, xI (V 12 (V 4 i.toNat).toNat)), (2, xI z29), (0, xR 0), (1, xI i)] rfl (by decide) rfl dX6_enters_50 ?_
      refine x_iload_n G 1 rfl rfl dX6_enters_51 ?_
      refine x_iconst G (by decide) dX6_enters_52 ?_
      refine x_icmp_eq G 73 (by decide) dX6_enters_53 (fun c53 => ?_) (fun c53 => ?_)
      · skip
        refine x_iconst G (by decide) dX6_enters_73 ?_
        exact x_iret G Rt dX6_enters_74 ⟨rfl, rfl, _, rfl, ⟨Or.inr (Or.inr ⟨by omega, by omega, Or.inl ⟨by omega, ⟨by unfold entW; split <;> omega, (hrl _).mpr (by unfold entW; split <;> omega)⟩, fun x a b => by omega⟩⟩), (xof_trans (xof_refl _ _) (xof_mono h29.2 (by decide)))⟩⟩
      · skip
        refine x_iload_n G 0 rfl rfl dX6_enters_56 ?_
        refine x_if_le G 75 (by decide) dX6_enters_57 (fun c57 => ?_) (fun c57 => ?_)
        · skip
          refine x_iload_n G 0 rfl rfl dX6_enters_75 ?_
          refine x_if_le G 106 (by decide) dX6_enters_76 (fun c76 => ?_) (fun c76 => ?_)
          · skip
            refine x_bipush G (by decide) dX6_enters_106 ?_
            exact x_iret G Rt dX6_enters_108 ⟨rfl, rfl, _, rfl, ⟨Or.inr (Or.inr ⟨by omega, by omega, Or.inr ⟨rfl, fun x a b h => by have h2 := (hrl _).mp h.2; have h1 := h.1; unfold entW at h1 h2; split at h1 <;> omega⟩⟩), (xof_trans (xof_refl _ _) (xof_mono h29.2 (by decide)))⟩⟩
          · skip
            refine x_aload_n G 2 rfl rfl dX6_enters_79 ?_
            refine x_get G (xR 1) xf6_0 lk_X6_10 (ly_n hY 0 (by decide)) (ly_k hY 0 (by decide)) (Or.inr ⟨rfl, _, (ly_r hY 0 0 (by decide) (by decide)), rfl⟩) dX6_enters_80 ?_
            refine x_get G (xR (1 + 8)) xf3_5 lk_X6_190 (st_n (ly_st1 hY) 0 (by decide)) (st_k (ly_st1 hY) 0 (by decide)) (Or.inr ⟨rfl, _, (st_r (ly_st1 hY) 0 5 (by decide) (by decide)), rfl⟩) dX6_enters_83 ?_
            refine x_iload_n G 3 rfl rfl dX6_enters_86 ?_
            refine x_iald G (st_n (ly_st1 hY) 8 (by decide)) (st_k (ly_st1 hY) 8 (by decide)) (show _ = 100 from st_l (ly_st1 hY) 8 (by decide)) (by omega) (by omega) dX6_enters_87 ?_
            rw [show M29 (1 + 8) i.toNat = (V 8 i.toNat) from ((congrFun (h29.2 (1 + 8) (by simp <;> omega)) i.toNat).trans (congrFun (hV 8 (by decide) (by decide) (by decide)) i.toNat))]
            refine x_iload_n G 1 rfl rfl dX6_enters_88 ?_
            refine x_icmp_le G 106 (by decide) dX6_enters_89 (fun c89 => ?_) (fun c89 => ?_)
            · skip
              refine x_bipush G (by decide) dX6_enters_106 ?_
              exact x_iret G Rt dX6_enters_108 ⟨rfl, rfl, _, rfl, ⟨Or.inr (Or.inr ⟨by omega, by omega, Or.inr ⟨rfl, fun x a b h => by have h2 := (hrl _).mp h.2; have h1 := h.1; unfold entW at h1 h2; split at h1 <;> omega⟩⟩), (xof_trans (xof_refl _ _) (xof_mono h29.2 (by decide)))⟩⟩
            · skip
              refine x_iload_n G 1 rfl rfl dX6_enters_92 ?_
              refine x_iload_n G 0 rfl rfl dX6_enters_93 ?_
              refine x_iadd G (by omega) dX6_enters_94 ?_
              refine x_aload_n G 2 rfl rfl dX6_enters_95 ?_
              refine x_get G (xR 1) xf6_0 lk_X6_10 (ly_n hY 0 (by decide)) (ly_k hY 0 (by decide)) (Or.inr ⟨rfl, _, (ly_r hY 0 0 (by decide) (by decide)), rfl⟩) dX6_enters_96 ?_
              refine x_get G (xI (M29 1 11)) xf3_11 lk_X6_109 (st_n (ly_st1 hY) 0 (by decide)) (st_k (ly_st1 hY) 0 (by decide)) (Or.inl ⟨rfl, rfl⟩) dX6_enters_99 ?_
              rw [show M29 1 11 = (V 0 11) from ((congrFun (h29.2 1 (by simp <;> omega)) 11).trans (congrFun (hV 0 (by decide) (by decide) (by decide)) 11))]
              refine x_isub G (by omega) dX6_enters_102 ?_
              refine x_goto G 108 (by decide) dX6_enters_103 ?_
              exact x_iret G Rt dX6_enters_108 ⟨rfl, rfl, _, rfl, ⟨Or.inr (Or.inr ⟨by omega, by omega, Or.inl ⟨by omega, ⟨by unfold entW; split <;> omega, (hrl _).mpr (by unfold entW; split <;> omega)⟩, fun x a b h => by have h2 := (hrl _).mp h.2; have h1 := h.1; unfold entW at h1 h2; split at h1 <;> omega⟩⟩), (xof_trans (xof_refl _ _) (xof_mono h29.2 (by decide)))⟩⟩
        · skip
          refine x_iload_n G 1 rfl rfl dX6_enters_60 ?_
          refine x_aload_n G 2 rfl rfl dX6_enters_61 ?_
          refine x_get G (xR 1) xf6_0 lk_X6_10 (ly_n hY 0 (by decide)) (ly_k hY 0 (by decide)) (Or.inr ⟨rfl, _, (ly_r hY 0 0 (by decide) (by decide)), rfl⟩) dX6_enters_62 ?_
          refine x_get G (xI (M29 1 11)) xf3_11 lk_X6_109 (st_n (ly_st1 hY) 0 (by decide)) (st_k (ly_st1 hY) 0 (by decide)) (Or.inl ⟨rfl, rfl⟩) dX6_enters_65 ?_
          rw [show M29 1 11 = (V 0 11) from ((congrFun (h29.2 1 (by simp <;> omega)) 11).trans (congrFun (hV 0 (by decide) (by decide) (by decide)) 11))]
          refine x_iload_n G 0 rfl rfl dX6_enters_68 ?_
          refine x_isub G (by omega) dX6_enters_69 ?_
          refine x_icmp_gt G 75 (by decide) dX6_enters_70 (fun c70 => ?_) (fun c70 => ?_)
          · skip
            refine x_iload_n G 0 rfl rfl dX6_enters_75 ?_
            refine x_if_le G 106 (by decide) dX6_enters_76 (fun c76 => ?_) (fun c76 => ?_)
            · skip
              refine x_bipush G (by decide) dX6_enters_106 ?_
              exact x_iret G Rt dX6_enters_108 ⟨rfl, rfl, _, rfl, ⟨Or.inr (Or.inr ⟨by omega, by omega, Or.inr ⟨rfl, fun x a b h => by have h2 := (hrl _).mp h.2; have h1 := h.1; unfold entW at h1 h2; split at h1 <;> omega⟩⟩), (xof_trans (xof_refl _ _) (xof_mono h29.2 (by decide)))⟩⟩
            · skip
              refine x_aload_n G 2 rfl rfl dX6_enters_79 ?_
              refine x_get G (xR 1) xf6_0 lk_X6_10 (ly_n hY 0 (by decide)) (ly_k hY 0 (by decide)) (Or.inr ⟨rfl, _, (ly_r hY 0 0 (by decide) (by decide)), rfl⟩) dX6_enters_80 ?_
              refine x_get G (xR (1 + 8)) xf3_5 lk_X6_190 (st_n (ly_st1 hY) 0 (by decide)) (st_k (ly_st1 hY) 0 (by decide)) (Or.inr ⟨rfl, _, (st_r (ly_st1 hY) 0 5 (by decide) (by decide)), rfl⟩) dX6_enters_83 ?_
              refine x_iload_n G 3 rfl rfl dX6_enters_86 ?_
              refine x_iald G (st_n (ly_st1 hY) 8 (by decide)) (st_k (ly_st1 hY) 8 (by decide)) (show _ = 100 from st_l (ly_st1 hY) 8 (by decide)) (by omega) (by omega) dX6_enters_87 ?_
              rw [show M29 (1 + 8) i.toNat = (V 8 i.toNat) from ((congrFun (h29.2 (1 + 8) (by simp <;> omega)) i.toNat).trans (congrFun (hV 8 (by decide) (by decide) (by decide)) i.toNat))]
              refine x_iload_n G 1 rfl rfl dX6_enters_88 ?_
              refine x_icmp_le G 106 (by decide) dX6_enters_89 (fun c89 => ?_) (fun c89 => ?_)
              · skip
                refine x_bipush G (by decide) dX6_enters_106 ?_
                exact x_iret G Rt dX6_enters_108 ⟨rfl, rfl, _, rfl, ⟨Or.inr (Or.inr ⟨by omega, by omega, Or.inr ⟨rfl, fun x a b h => by have h2 := (hrl _).mp h.2; have h1 := h.1; unfold entW at h1 h2; split at h1 <;> omega⟩⟩), (xof_trans (xof_refl _ _) (xof_mono h29.2 (by decide)))⟩⟩
              · skip
                refine x_iload_n G 1 rfl rfl dX6_enters_92 ?_
                refine x_iload_n G 0 rfl rfl dX6_enters_93 ?_
                refine x_iadd G (by omega) dX6_enters_94 ?_
                refine x_aload_n G 2 rfl rfl dX6_enters_95 ?_
                refine x_get G (xR 1) xf6_0 lk_X6_10 (ly_n hY 0 (by decide)) (ly_k hY 0 (by decide)) (Or.inr ⟨rfl, _, (ly_r hY 0 0 (by decide) (by decide)), rfl⟩) dX6_enters_96 ?_
                refine x_get G (xI (M29 1 11)) xf3_11 lk_X6_109 (st_n (ly_st1 hY) 0 (by decide)) (st_k (ly_st1 hY) 0 (by decide)) (Or.inl ⟨rfl, rfl⟩) dX6_enters_99 ?_
                rw [show M29 1 11 = (V 0 11) from ((congrFun (h29.2 1 (by simp <;> omega)) 11).trans (congrFun (hV 0 (by decide) (by decide) (by decide)) 11))]
                refine x_isub G (by omega) dX6_enters_102 ?_
                refine x_goto G 108 (by decide) dX6_enters_103 ?_
                exact x_iret G Rt dX6_enters_108 ⟨rfl, rfl, _, rfl, ⟨Or.inr (Or.inr ⟨by omega, by omega, Or.inl ⟨by omega, ⟨by unfold entW; split <;> omega, (hrl _).mpr (by unfold entW; split <;> omega)⟩, fun x a b h => by have h2 := (hrl _).mp h.2; have h1 := h.1; unfold entW at h1 h2; split at h1 <;> omega⟩⟩), (xof_trans (xof_refl _ _) (xof_mono h29.2 (by decide)))⟩⟩
          · skip
            refine x_iconst G (by decide) dX6_enters_73 ?_
            exact x_iret G Rt dX6_enters_74 ⟨rfl, rfl, _, rfl, ⟨Or.inr (Or.inr ⟨by omega, by omega, Or.inl ⟨by omega, ⟨by unfold entW; split <;> omega, (hrl _).mpr (by unfold entW; split <;> omega)⟩, fun x a b => by omega⟩⟩), (xof_trans (xof_refl _ _) (xof_mono h29.2 (by decide)))⟩⟩
    · skip
      have c21 := b2i_eq0.mp c21
      refine x_bipush G (by decide) dX6_enters_24 ?_
      exact x_iret G Rt dX6_enters_26 ⟨rfl, rfl, _, rfl, ⟨by unfold alv at c21; rcases Decidable.em (V 9 i.toNat = 0) with g | g; exact Or.inr (Or.inr ⟨by omega, g, Or.inr ⟨rfl, fun x a b h => by have := h.1; unfold entW at this; split at this <;> omega⟩⟩); exact Or.inr (Or.inl ⟨by omega, g, rfl⟩), (xof_refl _ _)⟩⟩
  · skip
    have c8 := b2i_eq0.mp c8
    refine x_iconst G (by decide) dX6_enters_11 ?_
    exact x_iret G Rt dX6_enters_12 ⟨rfl, rfl, _, rfl, ⟨Or.inl ⟨by omega, rfl⟩, (xof_refl _ _)⟩⟩
set_option maxRecDepth 100000 in
set_option maxHeartbeats 4000000 in
theorem kX6_changes (D : xD) (l : Launch) {n : Nat} {T : xT} {M : xM} (V : xM) (sh : Int) (hY : LayOK n T) (hV : shw M 1 V) (hv : VOK V) (hs : Srt V (V 10) (V 0 10).toNat) : xC D l uX6_changes 4 91 0 0 [xR 0, xI sh] n T M (xPI n T (fun z M2 => (qChanges V sh z) ∧ xof [3, 4, 162, 163, 164, 165, 166, 167] M M2)) := by
  refine x_met uX6_changes (by decide) (Nat.le_of_ble_eq_true rfl) ?_
  intro Γ G Rt _
  have G : xG Γ RX6 cX6_changes 5 4 91 0 0 := G
  have Rt : xRt Γ (xPI n T (fun z M2 => (qChanges V sh z) ∧ xof [3, 4, 162, 163, 164, 165, 166, 167] M M2)) (some .int) 0 0 := Rt
  show xX Γ 0 0 n T 0 [(0, xR 0), (1, xI sh)] [] M
  have hc := ok_c hv
  have hsc := hv.1
  refine x_iload_n G 1 rfl rfl dX6_changes_0 ?_
  refine x_callSp G [] [xI sh] hy_X6_isShard ht_X6_isShard ml_X6_86 rfl rfl (kX6_isShard _ _ sh) (by decide) (by decide) (Nat.le_of_ble_eq_true rfl) dX6_changes_1 ?_
  refine x_if_ne G 9 (by decide) dX6_changes_4 (fun c4 => ?_) (fun c4 => ?_)
  · skip
    have c4 := b2i_ne0.mp c4
    have hsw := ok_s hv (s := sh) (by omega) (by omega)
    refine x_aload_n G 0 rfl rfl dX6_changes_9 ?_
    refine x_get G (xR 1) xf6_0 lk_X6_10 (ly_n hY 0 (by decide)) (ly_k hY 0 (by decide)) (Or.inr ⟨rfl, _, (ly_r hY 0 0 (by decide) (by decide)), rfl⟩) dX6_changes_10 ?_
    refine x_get G (xR (1 + 12)) xf3_9 lk_X6_117 (st_n (ly_st1 hY) 0 (by decide)) (st_k (ly_st1 hY) 0 (by decide)) (Or.inr ⟨rfl, _, (st_r (ly_st1 hY) 0 9 (by decide) (by decide)), rfl⟩) dX6_changes_13 ?_
    refine x_iload_n G 1 rfl rfl dX6_changes_16 ?_
    refine x_iald G (st_n (ly_st1 hY) 12 (by decide)) (st_k (ly_st1 hY) 12 (by decide)) (show _ = 4 from st_l (ly_st1 hY) 12 (by decide)) (by omega) (by omega) dX6_changes_17 ?_
    rw [show M (1 + 12) sh.toNat = (V 12 sh.toNat) from (congrFun (hV 12 (by decide) (by decide) (by decide)) sh.toNat)]
    refine x_istore_n G [(2, xI (V 12 sh.toNat)), (0, xR 0), (1, xI sh)] rfl (by decide) rfl dX6_changes_18 ?_
    refine x_aload_n G 1 rfl rfl dX6_changes_19 ?_
    refine x_get G (xR 162) xf6_4 lk_X6_37 (ly_n hY 0 (by decide)) (ly_k hY 0 (by decide)) (Or.inr ⟨rfl, _, (ly_r hY 0 4 (by decide) (by decide)), rfl⟩) dX6_changes_20 ?_
    refine x_aload_n G 1 rfl rfl dX6_changes_23 ?_
    refine x_get G (xR 1) xf6_0 lk_X6_10 (ly_n hY 0 (by decide)) (ly_k hY 0 (by decide)) (Or.inr ⟨rfl, _, (ly_r hY 0 0 (by decide) (by decide)), rfl⟩) dX6_changes_24 ?_
    refine x_iload_n G 2 rfl rfl dX6_changes_27 ?_
    refine x_callVV G [] [xR 1, xI sh] rfl (by decide) (sa_n (ly_sa162 hY) 0 (by decide)) (sa_k (ly_sa162 hY) 0 (by decide)) hy_X2_take hi_X2_take hs_X2_take ml_X6_150 rfl rfl (kX2_take _ _ 162 1 V sh (ly_sa162 hY) (ly_st1 hY) (by omega) hV hv (by omega) hs) (by decide) (by decide) (Nat.le_of_ble_eq_true rfl) dX6_changes_28 (fun M28 h28 => ?_)
    have hsm28 : Smp M28 162 V (smL V sh) := by
        have e9 := h28.1
        rw [tkL_eq hv hs (by omega)] at e9
        exact e9
    have hn28 := hsm28.1
    have hl28 : (smL V sh).length ≤ 100 := take_len (alL_len hv _ _ _ _)
    refine x_iload_n G 0 rfl rfl dX6_changes_31 ?_
    refine x_if_eq G 45 (by decide) dX6_changes_32 (fun c32 => ?_) (fun c32 => ?_)
    · skip
      refine x_bipush G (by decide) dX6_changes_45 ?_
      exact x_iret G Rt dX6_changes_47 ⟨rfl, rfl, _, rfl, ⟨Or.inr (Or.inl ⟨by omega, by omega, rfl⟩), (xof_trans (xof_refl _ _) (xof_mono h28.2.2 (by decide)))⟩⟩
    · skip
      refine x_aload_n G 1 rfl rfl dX6_changes_35 ?_
      refine x_get G (xR 162) xf6_4 lk_X6_37 (ly_n hY 0 (by decide)) (ly_k hY 0 (by decide)) (Or.inr ⟨rfl, _, (ly_r hY 0 4 (by decide) (by decide)), rfl⟩) dX6_changes_36 ?_
      refine x_get G (xI (M28 162 2)) xf2_2 lk_X6_154 (sa_n (ly_sa162 hY) 0 (by decide)) (sa_k (ly_sa162 hY) 0 (by decide)) (Or.inl ⟨rfl, rfl⟩) dX6_changes_39 ?_
      refine x_if_ne G 48 (by decide) dX6_changes_42 (fun c42 => ?_) (fun c42 => ?_)
      · skip
        refine x_ldc G (z := 99999) (by decide) kc_X6_112 dX6_changes_48 ?_
        refine x_istore_n G [(3, xI 99999), (2, xI (V 12 sh.toNat)), (0, xR 0), (1, xI sh)] rfl (by decide) rfl dX6_changes_50 ?_
        refine x_iconst G (by decide) dX6_changes_51 ?_
        refine x_istore G [(4, xI 0), (3, xI 99999), (2, xI (V 12 sh.toNat)), (0, xR 0), (1, xI sh)] (by decide) rfl dX6_changes_52 ?_
        have loop54 : ∀ (d : Nat) (k : Int) (f : Int), ((smL V sh).length - k).toNat = d → (0 ≤ k ∧ k ≤ (smL V sh).length) → (minAt V (smL V sh) k f) → (f ≤ 99999 ∧ 0 ≤ f ∧ ∀ j : Nat, (j : Int) < k → f ≤ V 8 ((smL V sh).getD j 0)) → xX Γ 0 0 n T 54 [(0, xR 0), (1, xI sh), (2, xI (V 12 sh.toNat)), (3, xI f), (4, xI k)] [] M28 := by
          intro d
          induction d using Nat.strongRecOn with
          | ind d ih54 =>
          intro k f hd54 hk hf hle
          refine x_iload G 4 rfl dX6_changes_54 ?_
          refine x_aload_n G 0 rfl rfl dX6_changes_56 ?_
          refine x_get G (xR 162) xf6_4 lk_X6_37 (ly_n hY 0 (by decide)) (ly_k hY 0 (by decide)) (Or.inr ⟨rfl, _, (ly_r hY 0 4 (by decide) (by decide)), rfl⟩) dX6_changes_57 ?_
          refine x_get G (xI (M28 162 2)) xf2_2 lk_X6_154 (sa_n (ly_sa162 hY) 0 (by decide)) (sa_k (ly_sa162 hY) 0 (by decide)) (Or.inl ⟨rfl, rfl⟩) dX6_changes_60 ?_
          refine x_icmp_ge G 95 (by decide) dX6_changes_63 (fun c63 => ?_) (fun c63 => ?_)
          · skip
            refine x_iload_n G 3 rfl rfl dX6_changes_95 ?_
            refine x_iload_n G 2 rfl rfl dX6_changes_96 ?_
            refine x_iadd G (by omega) dX6_changes_97 ?_
            refine x_aload_n G 0 rfl rfl dX6_changes_98 ?_
            refine x_get G (xR 1) xf6_0 lk_X6_10 (ly_n hY 0 (by decide)) (ly_k hY 0 (by decide)) (Or.inr ⟨rfl, _, (ly_r hY 0 0 (by decide) (by decide)), rfl⟩) dX6_changes_99 ?_
            refine x_get G (xI (M28 1 11)) xf3_11 lk_X6_109 (st_n (ly_st1 hY) 0 (by decide)) (st_k (ly_st1 hY) 0 (by decide)) (Or.inl ⟨rfl, rfl⟩) dX6_changes_102 ?_
            rw [show M28 1 11 = (V 0 11) from ((congrFun (h28.2.2 1 (by simp <;> omega)) 11).trans (congrFun (hV 0 (by decide) (by decide) (by decide)) 11))]
            refine x_isub G (by omega) dX6_changes_105 ?_
            exact x_iret G Rt dX6_changes_106 ⟨rfl, rfl, _, rfl, ⟨Or.inr (Or.inr ⟨by omega, by omega, (by rcases hf with ⟨g, _⟩ | ⟨j, hj, e⟩; omega; exact ⟨(smL V sh).getD j 0, getD_in (by omega), by omega⟩), fun j hj => by obtain ⟨q, hq, e⟩ := List.getElem_of_mem hj; have := hle.2.2 q (by omega); rw [show (smL V sh).getD q 0 = j by simp [List.getD, hq, e]] at this; omega⟩), (xof_trans (xof_refl _ _) (xof_mono h28.2.2 (by decide)))⟩⟩
          · skip
            refine x_iload_n G 3 rfl rfl dX6_changes_66 ?_
            refine x_aload_n G 0 rfl rfl dX6_changes_67 ?_
            refine x_get G (xR 1) xf6_0 lk_X6_10 (ly_n hY 0 (by decide)) (ly_k hY 0 (by decide)) (Or.inr ⟨rfl, _, (ly_r hY 0 0 (by decide) (by decide)), rfl⟩) dX6_changes_68 ?_
            refine x_get G (xR (1 + 8)) xf3_5 lk_X6_190 (st_n (ly_st1 hY) 0 (by decide)) (st_k (ly_st1 hY) 0 (by decide)) (Or.inr ⟨rfl, _, (st_r (ly_st1 hY) 0 5 (by decide) (by decide)), rfl⟩) dX6_changes_71 ?_
            refine x_aload_n G 0 rfl rfl dX6_changes_74 ?_
            refine x_get G (xR 162) xf6_4 lk_X6_37 (ly_n hY 0 (by decide)) (ly_k hY 0 (by decide)) (Or.inr ⟨rfl, _, (ly_r hY 0 4 (by decide) (by decide)), rfl⟩) dX6_changes_75 ?_
            refine x_get G (xR (162 + 1)) xf2_0 lk_X6_227 (sa_n (ly_sa162 hY) 0 (by decide)) (sa_k (ly_sa162 hY) 0 (by decide)) (Or.inr ⟨rfl, _, (sa_r (ly_sa162 hY) 0 0 (by decide) (by decide)), rfl⟩) dX6_changes_78 ?_
            refine x_iload G 4 rfl dX6_changes_81 ?_
            refine x_iald G (sa_n (ly_sa162 hY) 1 (by decide)) (sa_k (ly_sa162 hY) 1 (by decide)) (show _ = 100 from sa_l (ly_sa162 hY) 1 (by decide)) (by omega) (by omega) dX6_changes_83 ?_
            have hfk := hsm28.2.1 k.toNat (by omega)
            have hin := sm_it hs (getD_in (L := smL V sh) (j := k.toNat) (by omega))
            have hgd : (M28 (162 + 1) k.toNat).toNat = (smL V sh).getD k.toNat 0 := by omega
            have hitk := hv.2.2.1 ((smL V sh).getD k.toNat 0) hin
            refine x_iald G (st_n (ly_st1 hY) 8 (by decide)) (st_k (ly_st1 hY) 8 (by decide)) (show _ = 100 from st_l (ly_st1 hY) 8 (by decide)) (by omega) (by omega) dX6_changes_84 ?_
            rw [show M28 (1 + 8) (M28 (162 + 1) k.toNat).toNat = (V 8 (M28 (162 + 1) k.toNat).toNat) from ((congrFun (h28.2.2 (1 + 8) (by simp <;> omega)) (M28 (162 + 1) k.toNat).toNat).trans (congrFun (hV 8 (by decide) (by decide) (by decide)) (M28 (162 + 1) k.toNat).toNat))]
            rw [hgd]
            skip
            refine x_min G ml_X6_161 stat_min ini_Math code_min (by decide) (by decide) (Nat.le_of_ble_eq_true rfl) dX6_changes_85 ?_
            refine x_istore_n G [(3, xI (if (V 8 ((smL V sh).getD k.toNat 0)) < f then (V 8 ((smL V sh).getD k.toNat 0)) else f)), (0, xR 0), (1, xI sh), (2, xI (V 12 sh.toNat)), (4, xI k)] rfl (by decide) rfl dX6_changes_88 ?_
            refine x_iinc G [(4, xI (k + 1)), (3, xI (if (V 8 ((smL V sh).getD k.toNat 0)) < f then (V 8 ((smL V sh).getD k.toNat 0)) else f)), (0, xR 0), (1, xI sh), (2, xI (V 12 sh.toNat))] 4 rfl (by decide) (by omega) rfl dX6_changes_89 ?_
            refine x_goto G 54 (by decide) dX6_changes_92 ?_
            refine x_sub [(0, xR 0), (1, xI sh), (2, xI (V 12 sh.toNat)), (3, xI (if (V 8 ((smL V sh).getD k.toNat 0)) < f then (V 8 ((smL V sh).getD k.toNat 0)) else f)), (4, xI (k + 1))] [2, 3, 4, 1, 0] rfl ?_
            exact ih54 _ (by omega) (k + 1) (if (V 8 ((smL V sh).getD k.toNat 0)) < f then (V 8 ((smL V sh).getD k.toNat 0)) else f) rfl (by omega) (by (split; exact Or.inr ⟨k.toNat, by omega, rfl⟩; (rcases hf with ⟨g1, g2⟩ | ⟨j, hj, e⟩; exact Or.inr ⟨k.toNat, by omega, by omega⟩; exact Or.inr ⟨j, by omega, e⟩))) (by (refine ⟨by (split <;> omega), by (split <;> omega), fun j hj => ?_⟩; rcases Int.lt_or_le j k with g | g; (have := hle.2.2 j g; split <;> omega); (have e : j = k.toNat := (by omega); rw [e]; split <;> omega)))
        refine x_sub [(0, xR 0), (1, xI sh), (2, xI (V 12 sh.toNat)), (3, xI 99999), (4, xI 0)] [3, 4, 2, 1, 0] rfl ?_
        exact loop54 _ 0 99999 rfl (by omega) (Or.inl ⟨rfl, rfl⟩) (⟨by omega, by omega, by intro j hj; omega⟩)
      · skip
        refine x_bipush G (by decide) dX6_changes_45 ?_
        exact x_iret G Rt dX6_changes_47 ⟨rfl, rfl, _, rfl, ⟨Or.inr (Or.inl ⟨by omega, by omega, rfl⟩), (xof_trans (xof_refl _ _) (xof_mono h28.2.2 (by decide)))⟩⟩
  · skip
    have c4 := b2i_eq0.mp c4
    refine x_iconst G (by decide) dX6_changes_7 ?_
    exact x_iret G Rt dX6_changes_8 ⟨rfl, rfl, _, rfl, ⟨Or.inl ⟨by omega, rfl⟩, (xof_refl _ _)⟩⟩
