theorem und_mpk {V : xM} {fd k : Nat} {P : Nat → Prop} [DecidablePred P] {f : Nat → Int} {a b : Int} : und (mpk V fd k P f) k a b ↔ und V k a b := by
  unfold und
  rw [mpk_at (Nat.le_refl k), mpk_at (Nat.le_refl k), mpk_at (Nat.le_refl k)]
theorem alv_mpk {V : xM} {k : Nat} {P : Nat → Prop} [DecidablePred P] {f : Nat → Int} {t : Int} : alv (mpk V 9 k P f) k t ↔ alv V k t := by
  unfold alv
  rw [mpk_at (q := 9) (Nat.le_refl k)]
  exact Iff.rfl
theorem plc_iff {L : List Nat} {i : Nat} : plc L i = -1 ↔ i ∉ L := by
  unfold plc
  split
  · next h => exact ⟨fun g => by omega, fun g => absurd h g⟩
  · next h => exact ⟨fun _ => h, fun _ => rfl⟩
set_option maxRecDepth 100000 in
set_option maxHeartbeats 4000000 in
theorem kX6_moveAll (D : xD) (l : Launch) {n : Nat} {T : xT} {M : xM} (V : xM) (Hs : List xM) (fr lab to : Int) (hY : LayOK n T) (hV : shw M 1 V) (hv : VOK V) (hs : Srt V (V 10) (V 0 10).toNat) (hH : Hst M Hs) (hto : okS to) : xC D l uX6_moveAll 2 61 0 0 [xR 0, xI fr, xI lab, xI to] n T M (xPI n T (fun z M2 => z = (aMvA V fr lab to).1 ∧ Fin1 M2 (nxV V (aMvA V fr lab to)) (nxH V Hs (aMvA V fr lab to)) ∧ afr M M2)) := by
  refine x_met uX6_moveAll (by decide) (Nat.le_of_ble_eq_true rfl) ?_
  intro Γ G Rt _
  have G : xG Γ RX6 cX6_moveAll 6 2 61 0 0 := G
  have Rt : xRt Γ (xPI n T (fun z M2 => z = (aMvA V fr lab to).1 ∧ Fin1 M2 (nxV V (aMvA V fr lab to)) (nxH V Hs (aMvA V fr lab to)) ∧ afr M M2)) (some .int) 0 0 := Rt
  show xX Γ 0 0 n T 0 [(0, xR 0), (1, xI fr), (2, xI lab), (3, xI to)] [] M
  have hc := ok_c hv
  have hsc := hv.1
  refine x_aload_n G 0 rfl rfl dX6_moveAll_0 ?_
  refine x_get G (xR 1) xf6_0 lk_X6_10 (ly_n hY 0 (by decide)) (ly_k hY 0 (by decide)) (Or.inr ⟨rfl, _, (ly_r hY 0 0 (by decide) (by decide)), rfl⟩) dX6_moveAll_1 ?_
  refine x_iload_n G 1 rfl rfl dX6_moveAll_4 ?_
  refine x_iload_n G 2 rfl rfl dX6_moveAll_5 ?_
  refine x_callVp G [] [xI fr, xI lab] rfl (by decide) (st_n (ly_st1 hY) 0 (by decide)) (st_k (ly_st1 hY) 0 (by decide)) hy_X3_countUndropped hi_X3_countUndropped hs_X3_countUndropped ml_X6_136 rfl rfl (kX3_countUndropped _ _ 1 V fr lab (ly_st1 hY) hV hv) (by decide) (by decide) (Nat.le_of_ble_eq_true rfl) dX6_moveAll_6 ?_
  refine x_istore G [(4, xI (fb_si (fun j => b2i (und V j fr lab)) (V 0 10).toNat)), (0, xR 0), (1, xI fr), (2, xI lab), (3, xI to)] (by decide) rfl dX6_moveAll_9 ?_
  refine x_iload G 0 rfl dX6_moveAll_11 ?_
  refine x_if_ne G 19 (by decide) dX6_moveAll_13 (fun c13 => ?_) (fun c13 => ?_)
  · skip
    refine x_aload_n G 1 rfl rfl dX6_moveAll_19 ?_
    refine x_get G (xR 14) xf6_1 lk_X6_19 (ly_n hY 0 (by decide)) (ly_k hY 0 (by decide)) (Or.inr ⟨rfl, _, (ly_r hY 0 1 (by decide) (by decide)), rfl⟩) dX6_moveAll_20 ?_
    refine x_aload_n G 1 rfl rfl dX6_moveAll_23 ?_
    refine x_get G (xR 1) xf6_0 lk_X6_10 (ly_n hY 0 (by decide)) (ly_k hY 0 (by decide)) (Or.inr ⟨rfl, _, (ly_r hY 0 0 (by decide) (by decide)), rfl⟩) dX6_moveAll_24 ?_
    refine x_callVV G [] [xR 1] rfl (by decide) (ly_n hY 14 (by decide)) (ly_k hY 14 (by decide)) hy_X0_add hi_X0_add hs_X0_add ml_X6_96 rfl rfl (kX0_add _ _ V Hs hY hV hv hH) (by decide) (by decide) (Nat.le_of_ble_eq_true rfl) dX6_moveAll_27 (fun M27 h27 => ?_)
    refine x_iconst G (by decide) dX6_moveAll_30 ?_
    refine x_istore G [(5, xI 0), (4, xI (fb_si (fun j => b2i (und V j fr lab)) (V 0 10).toNat)), (0, xR 0), (1, xI fr), (2, xI lab), (3, xI to)] (by decide) rfl dX6_moveAll_31 ?_
    have loop33 : ∀ (d : Nat) (k : Int) (M1 : xM), (V 0 10 - k).toNat = d → (0 ≤ k ∧ k ≤ V 0 10) → (shw M1 1 (mpk V 4 k.toNat (fun j => und V j fr lab) (fun j => to))) → (Hst M1 ((V :: Hs).take 10)) → (afr M M1) → xX Γ 0 0 n T 33 [(0, xR 0), (1, xI fr), (2, xI lab), (3, xI to), (4, xI (fb_si (fun j => b2i (und V j fr lab)) (V 0 10).toNat)), (5, xI k)] [] M1 := by
      intro d
      induction d using Nat.strongRecOn with
      | ind d ih33 =>
      intro k M1 hd33 hk hV1 hH1 haf1
      have hvk : VOK (mpk V 4 k.toNat (fun j => und V j fr lab) (fun j => to)) := mpk_ok hv (by decide) (fun j hj => by have hij := hv.2.2.1 j hj; simp [xst_eq, itm]; omega)
      have hm10 : (mpk V 4 k.toNat (fun j => und V j fr lab) (fun j => to)) 0 10 = V 0 10 := congrFun (mpk_row (by decide)) 10
      refine x_iload G 5 rfl dX6_moveAll_33 ?_
      refine x_aload_n G 0 rfl rfl dX6_moveAll_35 ?_
      refine x_get G (xR 1) xf6_0 lk_X6_10 (ly_n hY 0 (by decide)) (ly_k hY 0 (by decide)) (Or.inr ⟨rfl, _, (ly_r hY 0 0 (by decide) (by decide)), rfl⟩) dX6_moveAll_36 ?_
      refine x_get G (xI (M1 1 10)) xf3_10 lk_X6_83 (st_n (ly_st1 hY) 0 (by decide)) (st_k (ly_st1 hY) 0 (by decide)) (Or.inl ⟨rfl, rfl⟩) dX6_moveAll_39 ?_
      rw [show M1 1 10 = ((mpk V 4 k.toNat (fun j => und V j fr lab) (fun j => to)) 0 10) from (congrFun (hV1 0 (by decide) (by decide) (by decide)) 10)]
      refine x_icmp_ge G 76 (by decide) dX6_moveAll_42 (fun c42 => ?_) (fun c42 => ?_)
      · skip
        refine x_iload G 4 rfl dX6_moveAll_76 ?_
        exact x_iret G Rt dX6_moveAll_78 ⟨rfl, rfl, _, rfl, (by
        have e9 : aMvA V fr lab to = ((fb_si (fun j => b2i (und V j fr lab)) (V 0 10).toNat), some (mpk V 4 (V 0 10).toNat (fun j => und V j fr lab) (fun j => to))) := (by unfold aMvA cntU; (repeat (first | rw [if_pos (by omega)] | rw [if_neg (by omega)])) <;> try rfl)
        rw [e9]
        exact ⟨rfl, (fin_same (V := (mpk V 4 (V 0 10).toNat (fun j => und V j fr lab) (fun j => to))) (by rw [show V 0 10 = k by omega]; exact hV1) hs hH1), haf1⟩)⟩
      · skip
        refine x_aload_n G 0 rfl rfl dX6_moveAll_45 ?_
        refine x_get G (xR 1) xf6_0 lk_X6_10 (ly_n hY 0 (by decide)) (ly_k hY 0 (by decide)) (Or.inr ⟨rfl, _, (ly_r hY 0 0 (by decide) (by decide)), rfl⟩) dX6_moveAll_46 ?_
        refine x_iload G 5 rfl dX6_moveAll_49 ?_
        refine x_iload_n G 1 rfl rfl dX6_moveAll_51 ?_
        refine x_iload_n G 2 rfl rfl dX6_moveAll_52 ?_
        refine x_callVp G [] [xI k, xI fr, xI lab] rfl (by decide) (st_n (ly_st1 hY) 0 (by decide)) (st_k (ly_st1 hY) 0 (by decide)) hy_X3_isUndroppedOf hi_X3_isUndroppedOf hs_X3_isUndroppedOf ml_X6_144 rfl rfl (kX3_isUndroppedOf _ _ 1 (mpk V 4 k.toNat (fun j => und V j fr lab) (fun j => to)) k fr lab (ly_st1 hY) hV1 hvk (by omega)) (by decide) (by decide) (Nat.le_of_ble_eq_true rfl) dX6_moveAll_53 ?_
        refine x_if_eq G 70 (by decide) dX6_moveAll_56 (fun c56 => ?_) (fun c56 => ?_)
        · skip
          have c56 := b2i_eq0.mp c56
          refine x_iinc G [(5, xI (k + 1)), (0, xR 0), (1, xI fr), (2, xI lab), (3, xI to), (4, xI (fb_si (fun j => b2i (und V j fr lab)) (V 0 10).toNat))] 5 rfl (by decide) (by omega) rfl dX6_moveAll_70 ?_
          refine x_goto G 33 (by decide) dX6_moveAll_73 ?_
          refine x_sub [(0, xR 0), (1, xI fr), (2, xI lab), (3, xI to), (4, xI (fb_si (fun j => b2i (und V j fr lab)) (V 0 10).toNat)), (5, xI (k + 1))] [1, 2, 3, 4, 5, 0] rfl ?_
          exact ih33 _ (by omega) (k + 1) M1 rfl (by omega) ((by rw [show (k + 1).toNat = k.toNat + 1 by omega, ← mpk_n (fun h => c56 (und_mpk.mpr h))]; exact hV1)) (hH1) (haf1)
        · skip
          have c56 := b2i_ne0.mp c56
          refine x_aload_n G 0 rfl rfl dX6_moveAll_59 ?_
          refine x_get G (xR 1) xf6_0 lk_X6_10 (ly_n hY 0 (by decide)) (ly_k hY 0 (by decide)) (Or.inr ⟨rfl, _, (ly_r hY 0 0 (by decide) (by decide)), rfl⟩) dX6_moveAll_60 ?_
          refine x_get G (xR (1 + 4)) xf3_1 lk_X6_133 (st_n (ly_st1 hY) 0 (by decide)) (st_k (ly_st1 hY) 0 (by decide)) (Or.inr ⟨rfl, _, (st_r (ly_st1 hY) 0 1 (by decide) (by decide)), rfl⟩) dX6_moveAll_63 ?_
          refine x_iload G 5 rfl dX6_moveAll_66 ?_
          refine x_iload_n G 3 rfl rfl dX6_moveAll_68 ?_
          refine x_iast G (st_n (ly_st1 hY) 4 (by decide)) (st_k (ly_st1 hY) 4 (by decide)) (show _ = 100 from st_l (ly_st1 hY) 4 (by decide)) (by omega) (by omega) dX6_moveAll_69 ?_
          refine x_iinc G [(5, xI (k + 1)), (0, xR 0), (1, xI fr), (2, xI lab), (3, xI to), (4, xI (fb_si (fun j => b2i (und V j fr lab)) (V 0 10).toNat))] 5 rfl (by decide) (by omega) rfl dX6_moveAll_70 ?_
          refine x_goto G 33 (by decide) dX6_moveAll_73 ?_
          refine x_sub [(0, xR 0), (1, xI fr), (2, xI lab), (3, xI to), (4, xI (fb_si (fun j => b2i (und V j fr lab)) (V 0 10).toNat)), (5, xI (k + 1))] [1, 2, 3, 4, 5, 0] rfl ?_
          exact ih33 _ (by omega) (k + 1) (xst M1 (1 + 4) k.toNat to) rfl (by omega) ((by rw [show (k + 1).toNat = k.toNat + 1 by omega, ← mpk_y (und_mpk.mp c56) ]; exact shw_xst hV1 (by decide))) ((hst_st hH1 (by omega))) ((afr_st haf1 (by omega)))
    refine x_sub [(0, xR 0), (1, xI fr), (2, xI lab), (3, xI to), (4, xI (fb_si (fun j => b2i (und V j fr lab)) (V 0 10).toNat)), (5, xI 0)] [2, 3, 4, 5, 1, 0] rfl ?_
    exact loop33 _ 0 M27 rfl (by omega) ((by rw [show (0 : Int).toNat = 0 from rfl, mpk_0]; exact (shw_fr hV (fun k9 g1 g2 g3 => h27.2 (1 + k9) (by omega))))) (h27.1) ((afr_trans (afr_refl _) (fun q9 g9 => h27.2 q9 (by omega))))
  · skip
    refine x_bipush G (by decide) dX6_moveAll_16 ?_
    exact x_iret G Rt dX6_moveAll_18 ⟨rfl, rfl, _, rfl, (by
        have e9 : aMvA V fr lab to = ((-2), none) := (by unfold aMvA cntU; (repeat (first | rw [if_pos (by omega)] | rw [if_neg (by omega)])) <;> try rfl)
        rw [e9]
        exact ⟨rfl, fin_same hV hs hH, (afr_refl _)⟩)⟩
set_option maxRecDepth 100000 in
set_option maxHeartbeats 4000000 in
theorem kX6_merge (D : xD) (l : Launch) {n : Nat} {T : xT} {M : xM} (V : xM) (Hs : List xM) (fr to : Int) (hY : LayOK n T) (hV : shw M 1 V) (hv : VOK V) (hs : Srt V (V 10) (V 0 10).toNat) (hH : Hst M Hs) : xC D l uX6_merge 3 86 0 0 [xR 0, xI fr, xI to] n T M (xPI n T (fun z M2 => z = (aMerge V fr to).1 ∧ Fin1 M2 (nxV V (aMerge V fr to)) (nxH V Hs (aMerge V fr to)) ∧ afr M M2)) := by
  refine x_met uX6_merge (by decide) (Nat.le_of_ble_eq_true rfl) ?_
  intro Γ G Rt _
  have G : xG Γ RX6 cX6_merge 3 3 86 0 0 := G
  have Rt : xRt Γ (xPI n T (fun z M2 => z = (aMerge V fr to).1 ∧ Fin1 M2 (nxV V (aMerge V fr to)) (nxH V Hs (aMerge V fr to)) ∧ afr M M2)) (some .int) 0 0 := Rt
  show xX Γ 0 0 n T 0 [(0, xR 0), (1, xI fr), (2, xI to)] [] M
  have hc := ok_c hv
  have hsc := hv.1
  refine x_iload_n G 1 rfl rfl dX6_merge_0 ?_
  refine x_callSp G [] [xI fr] hy_X6_isShard ht_X6_isShard ml_X6_86 rfl rfl (kX6_isShard _ _ fr) (by decide) (by decide) (Nat.le_of_ble_eq_true rfl) dX6_merge_1 ?_
  refine x_if_eq G 19 (by decide) dX6_merge_4 (fun c4 => ?_) (fun c4 => ?_)
  · skip
    have c4 := b2i_eq0.mp c4
    refine x_iconst G (by decide) dX6_merge_19 ?_
    exact x_iret G Rt dX6_merge_20 ⟨rfl, rfl, _, rfl, (by
        have e9 : aMerge V fr to = ((-1), none) := (by unfold aMerge; rw [if_neg (by omega)])
        rw [e9]
        exact ⟨rfl, fin_same hV hs hH, afr_refl _⟩)⟩
  · skip
    have c4 := b2i_ne0.mp c4
    refine x_iload_n G 2 rfl rfl dX6_merge_7 ?_
    refine x_callSp G [] [xI to] hy_X6_isShard ht_X6_isShard ml_X6_86 rfl rfl (kX6_isShard _ _ to) (by decide) (by decide) (Nat.le_of_ble_eq_true rfl) dX6_merge_8 ?_
    refine x_if_eq G 19 (by decide) dX6_merge_11 (fun c11 => ?_) (fun c11 => ?_)
    · skip
      have c11 := b2i_eq0.mp c11
      refine x_iconst G (by decide) dX6_merge_19 ?_
      exact x_iret G Rt dX6_merge_20 ⟨rfl, rfl, _, rfl, (by
        have e9 : aMerge V fr to = ((-1), none) := (by unfold aMerge; rw [if_neg (by omega)])
        rw [e9]
        exact ⟨rfl, fin_same hV hs hH, afr_refl _⟩)⟩
    · skip
      have c11 := b2i_ne0.mp c11
      refine x_iload_n G 1 rfl rfl dX6_merge_14 ?_
      refine x_iload_n G 2 rfl rfl dX6_merge_15 ?_
      refine x_icmp_ne G 21 (by decide) dX6_merge_16 (fun c16 => ?_) (fun c16 => ?_)
      · skip
        refine x_aload_n G 0 rfl rfl dX6_merge_21 ?_
        refine x_iload_n G 1 rfl rfl dX6_merge_22 ?_
        refine x_iconst G (by decide) dX6_merge_23 ?_
        refine x_iload_n G 2 rfl rfl dX6_merge_24 ?_
        refine x_callVI G [] [xI fr, xI (-1), xI to] rfl (by decide) (ly_n hY 0 (by decide)) (ly_k hY 0 (by decide)) hy_X6_moveAll hi_X6_moveAll hs_X6_moveAll ml_X6_140 rfl rfl (kX6_moveAll _ _ V Hs fr (-1) to hY hV hv hs hH (by omega)) (by decide) (by decide) (Nat.le_of_ble_eq_true rfl) dX6_merge_25 (fun z25 M25 h25 => ?_)
        exact x_iret G Rt dX6_merge_28 ⟨rfl, rfl, _, rfl, (by
        have e9 : aMerge V fr to = aMvA V fr (-1) to := (by unfold aMerge; rw [if_pos (by omega)])
        rw [e9]
        exact h25)⟩
      · skip
        refine x_iconst G (by decide) dX6_merge_19 ?_
        exact x_iret G Rt dX6_merge_20 ⟨rfl, rfl, _, rfl, (by
        have e9 : aMerge V fr to = ((-1), none) := (by unfold aMerge; rw [if_neg (by omega)])
        rw [e9]
        exact ⟨rfl, fin_same hV hs hH, afr_refl _⟩)⟩
set_option maxRecDepth 100000 in
set_option maxHeartbeats 4000000 in
theorem kX6_split (D : xD) (l : Launch) {n : Nat} {T : xT} {M : xM} (V : xM) (Hs : List xM) (fr lab to : Int) (hY : LayOK n T) (hV : shw M 1 V) (hv : VOK V) (hs : Srt V (V 10) (V 0 10).toNat) (hH : Hst M Hs) : xC D l uX6_split 3 86 0 0 [xR 0, xI fr, xI lab, xI to] n T M (xPI n T (fun z M2 => z = (aSplit V fr lab to).1 ∧ Fin1 M2 (nxV V (aSplit V fr lab to)) (nxH V Hs (aSplit V fr lab to)) ∧ afr M M2)) := by
  refine x_met uX6_split (by decide) (Nat.le_of_ble_eq_true rfl) ?_
  intro Γ G Rt _
  have G : xG Γ RX6 cX6_split 4 3 86 0 0 := G
  have Rt : xRt Γ (xPI n T (fun z M2 => z = (aSplit V fr lab to).1 ∧ Fin1 M2 (nxV V (aSplit V fr lab to)) (nxH V Hs (aSplit V fr lab to)) ∧ afr M M2)) (some .int) 0 0 := Rt
  show xX Γ 0 0 n T 0 [(0, xR 0), (1, xI fr), (2, xI lab), (3, xI to)] [] M
  have hc := ok_c hv
  have hsc := hv.1
  refine x_iload_n G 1 rfl rfl dX6_split_0 ?_
  refine x_callSp G [] [xI fr] hy_X6_isShard ht_X6_isShard ml_X6_86 rfl rfl (kX6_isShard _ _ fr) (by decide) (by decide) (Nat.le_of_ble_eq_true rfl) dX6_split_1 ?_
  refine x_if_eq G 26 (by decide) dX6_split_4 (fun c4 => ?_) (fun c4 => ?_)
  · skip
    have c4 := b2i_eq0.mp c4
    refine x_iconst G (by decide) dX6_split_26 ?_
    exact x_iret G Rt dX6_split_27 ⟨rfl, rfl, _, rfl, (by
        have e9 : aSplit V fr lab to = ((-1), none) := (by unfold aSplit; rw [if_neg (by omega)])
        rw [e9]
        exact ⟨rfl, fin_same hV hs hH, afr_refl _⟩)⟩
  · skip
    have c4 := b2i_ne0.mp c4
    refine x_iload_n G 2 rfl rfl dX6_split_7 ?_
    refine x_callSp G [] [xI lab] hy_X6_isLabel ht_X6_isLabel ml_X6_90 rfl rfl (kX6_isLabel _ _ lab) (by decide) (by decide) (Nat.le_of_ble_eq_true rfl) dX6_split_8 ?_
    refine x_if_eq G 26 (by decide) dX6_split_11 (fun c11 => ?_) (fun c11 => ?_)
    · skip
      have c11 := b2i_eq0.mp c11
      refine x_iconst G (by decide) dX6_split_26 ?_
      exact x_iret G Rt dX6_split_27 ⟨rfl, rfl, _, rfl, (by
        have e9 : aSplit V fr lab to = ((-1), none) := (by unfold aSplit; rw [if_neg (by omega)])
        rw [e9]
        exact ⟨rfl, fin_same hV hs hH, afr_refl _⟩)⟩
    · skip
      have c11 := b2i_ne0.mp c11
      refine x_iload_n G 3 rfl rfl dX6_split_14 ?_
      refine x_callSp G [] [xI to] hy_X6_isShard ht_X6_isShard ml_X6_86 rfl rfl (kX6_isShard _ _ to) (by decide) (by decide) (Nat.le_of_ble_eq_true rfl) dX6_split_15 ?_
      refine x_if_eq G 26 (by decide) dX6_split_18 (fun c18 => ?_) (fun c18 => ?_)
      · skip
        have c18 := b2i_eq0.mp c18
        refine x_iconst G (by decide) dX6_split_26 ?_
        exact x_iret G Rt dX6_split_27 ⟨rfl, rfl, _, rfl, (by
        have e9 : aSplit V fr lab to = ((-1), none) := (by unfold aSplit; rw [if_neg (by omega)])
        rw [e9]
        exact ⟨rfl, fin_same hV hs hH, afr_refl _⟩)⟩
      · skip
        have c18 := b2i_ne0.mp c18
        refine x_iload_n G 1 rfl rfl dX6_split_21 ?_
        refine x_iload_n G 3 rfl rfl dX6_split_22 ?_
        refine x_icmp_ne G 28 (by decide) dX6_split_23 (fun c23 => ?_) (fun c23 => ?_)
        · skip
          refine x_aload_n G 0 rfl rfl dX6_split_28 ?_
          refine x_iload_n G 1 rfl rfl dX6_split_29 ?_
          refine x_iload_n G 2 rfl rfl dX6_split_30 ?_
          refine x_iload_n G 3 rfl rfl dX6_split_31 ?_
          refine x_callVI G [] [xI fr, xI lab, xI to] rfl (by decide) (ly_n hY 0 (by decide)) (ly_k hY 0 (by decide)) hy_X6_moveAll hi_X6_moveAll hs_X6_moveAll ml_X6_140 rfl rfl (kX6_moveAll _ _ V Hs fr lab to hY hV hv hs hH (by omega)) (by decide) (by decide) (Nat.le_of_ble_eq_true rfl) dX6_split_32 (fun z32 M32 h32 => ?_)
          exact x_iret G Rt dX6_split_35 ⟨rfl, rfl, _, rfl, (by
        have e9 : aSplit V fr lab to = aMvA V fr lab to := (by unfold aSplit; rw [if_pos (by omega)])
        rw [e9]
        exact h32)⟩
        · skip
          refine x_iconst G (by decide) dX6_split_26 ?_
          exact x_iret G Rt dX6_split_27 ⟨rfl, rfl, _, rfl, (by
        have e9 : aSplit V fr lab to = ((-1), none) := (by unfold aSplit; rw [if_neg (by omega)])
        rw [e9]
        exact ⟨rfl, fin_same hV hs hH, afr_refl _⟩)⟩
set_option maxRecDepth 100000 in
set_option maxHeartbeats 4000000 in
theorem kX6_rename (D : xD) (l : Launch) {n : Nat} {T : xT} {M : xM} (V : xM) (Hs : List xM) (lab ot : Int) (hY : LayOK n T) (hV : shw M 1 V) (hv : VOK V) (hs : Srt V (V 10) (V 0 10).toNat) (hH : Hst M Hs) : xC D l uX6_rename 2 61 0 0 [xR 0, xI lab, xI ot] n T M (xPI n T (fun z M2 => z = (aRen V lab ot).1 ∧ Fin1 M2 (nxV V (aRen V lab ot)) (nxH V Hs (aRen V lab ot)) ∧ afr M M2)) := by
  refine x_met uX6_rename (by decide) (Nat.le_of_ble_eq_true rfl) ?_
  intro Γ G Rt _
  have G : xG Γ RX6 cX6_rename 5 2 61 0 0 := G
  have Rt : xRt Γ (xPI n T (fun z M2 => z = (aRen V lab ot).1 ∧ Fin1 M2 (nxV V (aRen V lab ot)) (nxH V Hs (aRen V lab ot)) ∧ afr M M2)) (some .int) 0 0 := Rt
  show xX Γ 0 0 n T 0 [(0, xR 0), (1, xI lab), (2, xI ot)] [] M
  have hc := ok_c hv
  have hsc := hv.1
  refine x_iload_n G 1 rfl rfl dX6_rename_0 ?_
  refine x_callSp G [] [xI lab] hy_X6_isLabel ht_X6_isLabel ml_X6_90 rfl rfl (kX6_isLabel _ _ lab) (by decide) (by decide) (Nat.le_of_ble_eq_true rfl) dX6_rename_1 ?_
  refine x_if_eq G 19 (by decide) dX6_rename_4 (fun c4 => ?_) (fun c4 => ?_)
  · skip
    have c4 := b2i_eq0.mp c4
    refine x_iconst G (by decide) dX6_rename_19 ?_
    exact x_iret G Rt dX6_rename_20 ⟨rfl, rfl, _, rfl, (by
        have e9 : aRen V lab ot = ((-1), none) := (by unfold aRen cntU; (repeat (first | rw [if_pos (by omega)] | rw [if_neg (by omega)])) <;> try rfl)
        rw [e9]
        exact ⟨rfl, fin_same hV hs hH, (afr_refl _)⟩)⟩
  · skip
    have c4 := b2i_ne0.mp c4
    refine x_iload_n G 2 rfl rfl dX6_rename_7 ?_
    refine x_callSp G [] [xI ot] hy_X6_isLabel ht_X6_isLabel ml_X6_90 rfl rfl (kX6_isLabel _ _ ot) (by decide) (by decide) (Nat.le_of_ble_eq_true rfl) dX6_rename_8 ?_
    refine x_if_eq G 19 (by decide) dX6_rename_11 (fun c11 => ?_) (fun c11 => ?_)
    · skip
      have c11 := b2i_eq0.mp c11
      refine x_iconst G (by decide) dX6_rename_19 ?_
      exact x_iret G Rt dX6_rename_20 ⟨rfl, rfl, _, rfl, (by
        have e9 : aRen V lab ot = ((-1), none) := (by unfold aRen cntU; (repeat (first | rw [if_pos (by omega)] | rw [if_neg (by omega)])) <;> try rfl)
        rw [e9]
        exact ⟨rfl, fin_same hV hs hH, (afr_refl _)⟩)⟩
    · skip
      have c11 := b2i_ne0.mp c11
      refine x_iload_n G 1 rfl rfl dX6_rename_14 ?_
      refine x_iload_n G 2 rfl rfl dX6_rename_15 ?_
      refine x_icmp_ne G 21 (by decide) dX6_rename_16 (fun c16 => ?_) (fun c16 => ?_)
      · skip
        refine x_aload_n G 0 rfl rfl dX6_rename_21 ?_
        refine x_get G (xR 1) xf6_0 lk_X6_10 (ly_n hY 0 (by decide)) (ly_k hY 0 (by decide)) (Or.inr ⟨rfl, _, (ly_r hY 0 0 (by decide) (by decide)), rfl⟩) dX6_rename_22 ?_
        refine x_iconst G (by decide) dX6_rename_25 ?_
        refine x_iload_n G 1 rfl rfl dX6_rename_26 ?_
        refine x_callVp G [] [xI (-1), xI lab] rfl (by decide) (st_n (ly_st1 hY) 0 (by decide)) (st_k (ly_st1 hY) 0 (by decide)) hy_X3_countUndropped hi_X3_countUndropped hs_X3_countUndropped ml_X6_136 rfl rfl (kX3_countUndropped _ _ 1 V (-1) lab (ly_st1 hY) hV hv) (by decide) (by decide) (Nat.le_of_ble_eq_true rfl) dX6_rename_27 ?_
        refine x_istore_n G [(3, xI (fb_si (fun j => b2i (und V j (-1) lab)) (V 0 10).toNat)), (0, xR 0), (1, xI lab), (2, xI ot)] rfl (by decide) rfl dX6_rename_30 ?_
        refine x_iload_n G 0 rfl rfl dX6_rename_31 ?_
        refine x_if_ne G 38 (by decide) dX6_rename_32 (fun c32 => ?_) (fun c32 => ?_)
        · skip
          refine x_aload_n G 1 rfl rfl dX6_rename_38 ?_
          refine x_get G (xR 14) xf6_1 lk_X6_19 (ly_n hY 0 (by decide)) (ly_k hY 0 (by decide)) (Or.inr ⟨rfl, _, (ly_r hY 0 1 (by decide) (by decide)), rfl⟩) dX6_rename_39 ?_
          refine x_aload_n G 1 rfl rfl dX6_rename_42 ?_
          refine x_get G (xR 1) xf6_0 lk_X6_10 (ly_n hY 0 (by decide)) (ly_k hY 0 (by decide)) (Or.inr ⟨rfl, _, (ly_r hY 0 0 (by decide) (by decide)), rfl⟩) dX6_rename_43 ?_
          refine x_callVV G [] [xR 1] rfl (by decide) (ly_n hY 14 (by decide)) (ly_k hY 14 (by decide)) hy_X0_add hi_X0_add hs_X0_add ml_X6_96 rfl rfl (kX0_add _ _ V Hs hY hV hv hH) (by decide) (by decide) (Nat.le_of_ble_eq_true rfl) dX6_rename_46 (fun M46 h46 => ?_)
          refine x_iconst G (by decide) dX6_rename_49 ?_
          refine x_istore G [(4, xI 0), (3, xI (fb_si (fun j => b2i (und V j (-1) lab)) (V 0 10).toNat)), (0, xR 0), (1, xI lab), (2, xI ot)] (by decide) rfl dX6_rename_50 ?_
          have loop52 : ∀ (d : Nat) (k : Int) (M1 : xM), (V 0 10 - k).toNat = d → (0 ≤ k ∧ k ≤ V 0 10) → (shw M1 1 (mpk V 5 k.toNat (fun j => und V j (-1) lab) (fun j => ot))) → (Hst M1 ((V :: Hs).take 10)) → (afr M M1) → xX Γ 0 0 n T 52 [(0, xR 0), (1, xI lab), (2, xI ot), (3, xI (fb_si (fun j => b2i (und V j (-1) lab)) (V 0 10).toNat)), (4, xI k)] [] M1 := by
            intro d
            induction d using Nat.strongRecOn with
            | ind d ih52 =>
            intro k M1 hd52 hk hV1 hH1 haf1
            have hvk : VOK (mpk V 5 k.toNat (fun j => und V j (-1) lab) (fun j => ot)) := mpk_ok hv (by decide) (fun j hj => by have hij := hv.2.2.1 j hj; simp [xst_eq, itm]; omega)
            have hm10 : (mpk V 5 k.toNat (fun j => und V j (-1) lab) (fun j => ot)) 0 10 = V 0 10 := congrFun (mpk_row (by decide)) 10
            refine x_iload G 4 rfl dX6_rename_52 ?_
            refine x_aload_n G 0 rfl rfl dX6_rename_54 ?_
            refine x_get G (xR 1) xf6_0 lk_X6_10 (ly_n hY 0 (by decide)) (ly_k hY 0 (by decide)) (Or.inr ⟨rfl, _, (ly_r hY 0 0 (by decide) (by decide)), rfl⟩) dX6_rename_55 ?_
            refine x_get G (xI (M1 1 10)) xf3_10 lk_X6_83 (st_n (ly_st1 hY) 0 (by decide)) (st_k (ly_st1 hY) 0 (by decide)) (Or.inl ⟨rfl, rfl⟩) dX6_rename_58 ?_
            rw [show M1 1 10 = ((mpk V 5 k.toNat (fun j => und V j (-1) lab) (fun j => ot)) 0 10) from (congrFun (hV1 0 (by decide) (by decide) (by decide)) 10)]
            refine x_icmp_ge G 95 (by decide) dX6_rename_61 (fun c61 => ?_) (fun c61 => ?_)
            · skip
              refine x_iload_n G 3 rfl rfl dX6_rename_95 ?_
              exact x_iret G Rt dX6_rename_96 ⟨rfl, rfl, _, rfl, (by
        have e9 : aRen V lab ot = ((fb_si (fun j => b2i (und V j (-1) lab)) (V 0 10).toNat), some (mpk V 5 (V 0 10).toNat (fun j => und V j (-1) lab) (fun j => ot))) := (by unfold aRen cntU; (repeat (first | rw [if_pos (by omega)] | rw [if_neg (by omega)])) <;> try rfl)
        rw [e9]
        exact ⟨rfl, (fin_same (V := (mpk V 5 (V 0 10).toNat (fun j => und V j (-1) lab) (fun j => ot))) (by rw [show V 0 10 = k by omega]; exact hV1) hs hH1), haf1⟩)⟩
            · skip
              refine x_aload_n G 0 rfl rfl dX6_rename_64 ?_
              refine x_get G (xR 1) xf6_0 lk_X6_10 (ly_n hY 0 (by decide)) (ly_k hY 0 (by decide)) (Or.inr ⟨rfl, _, (ly_r hY 0 0 (by decide) (by decide)), rfl⟩) dX6_rename_65 ?_
              refine x_iload G 4 rfl dX6_rename_68 ?_
              refine x_iconst G (by decide) dX6_rename_70 ?_
              refine x_iload_n G 1 rfl rfl dX6_rename_71 ?_
              refine x_callVp G [] [xI k, xI (-1), xI lab] rfl (by decide) (st_n (ly_st1 hY) 0 (by decide)) (st_k (ly_st1 hY) 0 (by decide)) hy_X3_isUndroppedOf hi_X3_isUndroppedOf hs_X3_isUndroppedOf ml_X6_144 rfl rfl (kX3_isUndroppedOf _ _ 1 (mpk V 5 k.toNat (fun j => und V j (-1) lab) (fun j => ot)) k (-1) lab (ly_st1 hY) hV1 hvk (by omega)) (by decide) (by decide) (Nat.le_of_ble_eq_true rfl) dX6_rename_72 ?_
              refine x_if_eq G 89 (by decide) dX6_rename_75 (fun c75 => ?_) (fun c75 => ?_)
              · skip
                have c75 := b2i_eq0.mp c75
                refine x_iinc G [(4, xI (k + 1)), (0, xR 0), (1, xI lab), (2, xI ot), (3, xI (fb_si (fun j => b2i (und V j (-1) lab)) (V 0 10).toNat))] 4 rfl (by decide) (by omega) rfl dX6_rename_89 ?_
                refine x_goto G 52 (by decide) dX6_rename_92 ?_
                refine x_sub [(0, xR 0), (1, xI lab), (2, xI ot), (3, xI (fb_si (fun j => b2i (und V j (-1) lab)) (V 0 10).toNat)), (4, xI (k + 1))] [1, 2, 3, 4, 0] rfl ?_
                exact ih52 _ (by omega) (k + 1) M1 rfl (by omega) ((by rw [show (k + 1).toNat = k.toNat + 1 by omega, ← mpk_n (fun h => c75 (und_mpk.mpr h))]; exact hV1)) (hH1) (haf1)
              · skip
                have c75 := b2i_ne0.mp c75
                refine x_aload_n G 0 rfl rfl dX6_rename_78 ?_
                refine x_get G (xR 1) xf6_0 lk_X6_10 (ly_n hY 0 (by decide)) (ly_k hY 0 (by decide)) (Or.inr ⟨rfl, _, (ly_r hY 0 0 (by decide) (by decide)), rfl⟩) dX6_rename_79 ?_
                refine x_get G (xR (1 + 5)) xf3_2 lk_X6_147 (st_n (ly_st1 hY) 0 (by decide)) (st_k (ly_st1 hY) 0 (by decide)) (Or.inr ⟨rfl, _, (st_r (ly_st1 hY) 0 2 (by decide) (by decide)), rfl⟩) dX6_rename_82 ?_
                refine x_iload G 4 rfl dX6_rename_85 ?_
                refine x_iload_n G 2 rfl rfl dX6_rename_87 ?_
                refine x_iast G (st_n (ly_st1 hY) 5 (by decide)) (st_k (ly_st1 hY) 5 (by decide)) (show _ = 100 from st_l (ly_st1 hY) 5 (by decide)) (by omega) (by omega) dX6_rename_88 ?_
                refine x_iinc G [(4, xI (k + 1)), (0, xR 0), (1, xI lab), (2, xI ot), (3, xI (fb_si (fun j => b2i (und V j (-1) lab)) (V 0 10).toNat))] 4 rfl (by decide) (by omega) rfl dX6_rename_89 ?_
                refine x_goto G 52 (by decide) dX6_rename_92 ?_
                refine x_sub [(0, xR 0), (1, xI lab), (2, xI ot), (3, xI (fb_si (fun j => b2i (und V j (-1) lab)) (V 0 10).toNat)), (4, xI (k + 1))] [1, 2, 3, 4, 0] rfl ?_
                exact ih52 _ (by omega) (k + 1) (xst M1 (1 + 5) k.toNat ot) rfl (by omega) ((by rw [show (k + 1).toNat = k.toNat + 1 by omega, ← mpk_y (und_mpk.mp c75) ]; exact shw_xst hV1 (by decide))) ((hst_st hH1 (by omega))) ((afr_st haf1 (by omega)))
          refine x_sub [(0, xR 0), (1, xI lab), (2, xI ot), (3, xI (fb_si (fun j => b2i (und V j (-1) lab)) (V 0 10).toNat)), (4, xI 0)] [2, 3, 4, 1, 0] rfl ?_
          exact loop52 _ 0 M46 rfl (by omega) ((by rw [show (0 : Int).toNat = 0 from rfl, mpk_0]; exact (shw_fr hV (fun k9 g1 g2 g3 => h46.2 (1 + k9) (by omega))))) (h46.1) ((afr_trans (afr_refl _) (fun q9 g9 => h46.2 q9 (by omega))))
        · skip
          refine x_bipush G (by decide) dX6_rename_35 ?_
          exact x_iret G Rt dX6_rename_37 ⟨rfl, rfl, _, rfl, (by
        have e9 : aRen V lab ot = ((-2), none) := (by unfold aRen cntU; (repeat (first | rw [if_pos (by omega)] | rw [if_neg (by omega)])) <;> try rfl)
        rw [e9]
        exact ⟨rfl, fin_same hV hs hH, (afr_refl _)⟩)⟩
      · skip
        refine x_iconst G (by decide) dX6_rename_19 ?_
        exact x_iret G Rt dX6_rename_20 ⟨rfl, rfl, _, rfl, (by
        have e9 : aRen V lab ot = ((-1), none) := (by unfold aRen cntU; (repeat (first | rw [if_pos (by omega)] | rw [if_neg (by omega)])) <;> try rfl)
        rw [e9]
        exact ⟨rfl, fin_same hV hs hH, (afr_refl _)⟩)⟩
set_option maxRecDepth 100000 in
set_option maxHeartbeats 4000000 in
theorem kX6_thin (D : xD) (l : Launch) {n : Nat} {T : xT} {M : xM} (V : xM) (Hs : List xM) (sh : Int) (hY : LayOK n T) (hV : shw M 1 V) (hv : VOK V) (hs : Srt V (V 10) (V 0 10).toNat) (hH : Hst M Hs) : xC D l uX6_thin 4 91 0 0 [xR 0, xI sh] n T M (xPI n T (fun z M2 => z = (aThin V sh).1 ∧ Fin1 M2 (nxV V (aThin V sh)) (nxH V Hs (aThin V sh)) ∧ afr M M2)) := by
  refine x_met uX6_thin (by decide) (Nat.le_of_ble_eq_true rfl) ?_
  intro Γ G Rt _
  have G : xG Γ RX6 cX6_thin 4 4 91 0 0 := G
  have Rt : xRt Γ (xPI n T (fun z M2 => z = (aThin V sh).1 ∧ Fin1 M2 (nxV V (aThin V sh)) (nxH V Hs (aThin V sh)) ∧ afr M M2)) (some .int) 0 0 := Rt
  show xX Γ 0 0 n T 0 [(0, xR 0), (1, xI sh)] [] M
  have hc := ok_c hv
  have hsc := hv.1
  have hbU := si_b (fun j => und V j sh (-1)) (V 0 10).toNat
  refine x_iload_n G 1 rfl rfl dX6_thin_0 ?_
  refine x_callSp G [] [xI sh] hy_X6_isShard ht_X6_isShard ml_X6_86 rfl rfl (kX6_isShard _ _ sh) (by decide) (by decide) (Nat.le_of_ble_eq_true rfl) dX6_thin_1 ?_
  refine x_if_ne G 9 (by decide) dX6_thin_4 (fun c4 => ?_) (fun c4 => ?_)
  · skip
    have c4 := b2i_ne0.mp c4
    refine x_aload_n G 0 rfl rfl dX6_thin_9 ?_
    refine x_get G (xR 162) xf6_4 lk_X6_37 (ly_n hY 0 (by decide)) (ly_k hY 0 (by decide)) (Or.inr ⟨rfl, _, (ly_r hY 0 4 (by decide) (by decide)), rfl⟩) dX6_thin_10 ?_
    refine x_aload_n G 0 rfl rfl dX6_thin_13 ?_
    refine x_get G (xR 1) xf6_0 lk_X6_10 (ly_n hY 0 (by decide)) (ly_k hY 0 (by decide)) (Or.inr ⟨rfl, _, (ly_r hY 0 0 (by decide) (by decide)), rfl⟩) dX6_thin_14 ?_
    refine x_iload_n G 1 rfl rfl dX6_thin_17 ?_
    refine x_callVV G [] [xR 1, xI sh] rfl (by decide) (sa_n (ly_sa162 hY) 0 (by decide)) (sa_k (ly_sa162 hY) 0 (by decide)) hy_X2_take hi_X2_take hs_X2_take ml_X6_150 rfl rfl (kX2_take _ _ 162 1 V sh (ly_sa162 hY) (ly_st1 hY) (by omega) hV hv (by omega) hs) (by decide) (by decide) (Nat.le_of_ble_eq_true rfl) dX6_thin_18 (fun M18 h18 => ?_)
    have hsm18 : Smp M18 162 V (smL V sh) := by
        have e9 := h18.1
        rw [tkL_eq hv hs (by omega)] at e9
        exact e9
    have hn18 := hsm18.1
    have hl18 : (smL V sh).length ≤ 100 := take_len (alL_len hv _ _ _ _)
    refine x_aload_n G 0 rfl rfl dX6_thin_21 ?_
    refine x_get G (xR 1) xf6_0 lk_X6_10 (ly_n hY 0 (by decide)) (ly_k hY 0 (by decide)) (Or.inr ⟨rfl, _, (ly_r hY 0 0 (by decide) (by decide)), rfl⟩) dX6_thin_22 ?_
    refine x_iload_n G 1 rfl rfl dX6_thin_25 ?_
    refine x_iconst G (by decide) dX6_thin_26 ?_
    refine x_callVp G [] [xI sh, xI (-1)] rfl (by decide) (st_n (ly_st1 hY) 0 (by decide)) (st_k (ly_st1 hY) 0 (by decide)) hy_X3_countUndropped hi_X3_countUndropped hs_X3_countUndropped ml_X6_136 rfl rfl (kX3_countUndropped _ _ 1 V sh (-1) (ly_st1 hY) (shw_xof hV h18.2.2 (by intro k9 h1 h2 h3; simp <;> omega)) hv) (by decide) (by decide) (Nat.le_of_ble_eq_true rfl) dX6_thin_27 ?_
    refine x_aload_n G 0 rfl rfl dX6_thin_30 ?_
    refine x_get G (xR 162) xf6_4 lk_X6_37 (ly_n hY 0 (by decide)) (ly_k hY 0 (by decide)) (Or.inr ⟨rfl, _, (ly_r hY 0 4 (by decide) (by decide)), rfl⟩) dX6_thin_31 ?_
    refine x_get G (xI (M18 162 2)) xf2_2 lk_X6_154 (sa_n (ly_sa162 hY) 0 (by decide)) (sa_k (ly_sa162 hY) 0 (by decide)) (Or.inl ⟨rfl, rfl⟩) dX6_thin_34 ?_
    refine x_isub G (by omega) dX6_thin_37 ?_
    rw [hn18]
    skip
    refine x_istore_n G [(2, xI (fb_si (fun j => b2i (und V j sh (-1))) (V 0 10).toNat - ((smL V sh).length : Int))), (0, xR 0), (1, xI sh)] rfl (by decide) rfl dX6_thin_38 ?_
    refine x_iload_n G 0 rfl rfl dX6_thin_39 ?_
    refine x_if_ne G 46 (by decide) dX6_thin_40 (fun c40 => ?_) (fun c40 => ?_)
    · skip
      refine x_aload_n G 1 rfl rfl dX6_thin_46 ?_
      refine x_get G (xR 14) xf6_1 lk_X6_19 (ly_n hY 0 (by decide)) (ly_k hY 0 (by decide)) (Or.inr ⟨rfl, _, (ly_r hY 0 1 (by decide) (by decide)), rfl⟩) dX6_thin_47 ?_
      refine x_aload_n G 1 rfl rfl dX6_thin_50 ?_
      refine x_get G (xR 1) xf6_0 lk_X6_10 (ly_n hY 0 (by decide)) (ly_k hY 0 (by decide)) (Or.inr ⟨rfl, _, (ly_r hY 0 0 (by decide) (by decide)), rfl⟩) dX6_thin_51 ?_
      refine x_callVV G [] [xR 1] rfl (by decide) (ly_n hY 14 (by decide)) (ly_k hY 14 (by decide)) hy_X0_add hi_X0_add hs_X0_add ml_X6_96 rfl rfl (kX0_add _ _ V Hs hY (shw_xof hV h18.2.2 (by intro k9 h1 h2 h3; simp <;> omega)) hv (hst_fr hH (h18.2.2 14 (by simp <;> omega)) (fun q9 g1 g2 => h18.2.2 q9 (by simp <;> omega)))) (by decide) (by decide) (Nat.le_of_ble_eq_true rfl) dX6_thin_54 (fun M54 h54 => ?_)
      refine x_iconst G (by decide) dX6_thin_57 ?_
      refine x_istore_n G [(3, xI 0), (2, xI (fb_si (fun j => b2i (und V j sh (-1))) (V 0 10).toNat - ((smL V sh).length : Int))), (0, xR 0), (1, xI sh)] rfl (by decide) rfl dX6_thin_58 ?_
      have loop59 : ∀ (d : Nat) (k : Int) (M1 : xM), (V 0 10 - k).toNat = d → (0 ≤ k ∧ k ≤ V 0 10) → (shw M1 1 (mpk V 9 k.toNat (fun j => und V j sh (-1) ∧ j ∉ smL V sh) (fun j => 1))) → (Hst M1 ((V :: Hs).take 10)) → (afr M M1) → (Smp M1 162 V (smL V sh)) → xX Γ 0 0 n T 59 [(0, xR 0), (1, xI sh), (2, xI (fb_si (fun j => b2i (und V j sh (-1))) (V 0 10).toNat - ((smL V sh).length : Int))), (3, xI k)] [] M1 := by
        intro d
        induction d using Nat.strongRecOn with
        | ind d ih59 =>
        intro k M1 hd59 hk hV1 hH1 haf1 hsm1
        have hvk : VOK (mpk V 9 k.toNat (fun j => und V j sh (-1) ∧ j ∉ smL V sh) (fun j => 1)) := mpk_ok hv (by decide) (fun j hj => by have hij := hv.2.2.1 j hj; simp [xst_eq, itm]; omega)
        have hm10 : (mpk V 9 k.toNat (fun j => und V j sh (-1) ∧ j ∉ smL V sh) (fun j => 1)) 0 10 = V 0 10 := congrFun (mpk_row (by decide)) 10
        have hn1 := hsm1.1
        refine x_iload_n G 3 rfl rfl dX6_thin_59 ?_
        refine x_aload_n G 0 rfl rfl dX6_thin_60 ?_
        refine x_get G (xR 1) xf6_0 lk_X6_10 (ly_n hY 0 (by decide)) (ly_k hY 0 (by decide)) (Or.inr ⟨rfl, _, (ly_r hY 0 0 (by decide) (by decide)), rfl⟩) dX6_thin_61 ?_
        refine x_get G (xI (M1 1 10)) xf3_10 lk_X6_83 (st_n (ly_st1 hY) 0 (by decide)) (st_k (ly_st1 hY) 0 (by decide)) (Or.inl ⟨rfl, rfl⟩) dX6_thin_64 ?_
        rw [show M1 1 10 = ((mpk V 9 k.toNat (fun j => und V j sh (-1) ∧ j ∉ smL V sh) (fun j => 1)) 0 10) from (congrFun (hV1 0 (by decide) (by decide) (by decide)) 10)]
        refine x_icmp_ge G 111 (by decide) dX6_thin_67 (fun c67 => ?_) (fun c67 => ?_)
        · skip
          refine x_iload_n G 2 rfl rfl dX6_thin_111 ?_
          exact x_iret G Rt dX6_thin_112 ⟨rfl, rfl, _, rfl, (by
        have e9 : aThin V sh = ((fb_si (fun j => b2i (und V j sh (-1))) (V 0 10).toNat - ((smL V sh).length : Int)), some (mpk V 9 (V 0 10).toNat (fun j => und V j sh (-1) ∧ j ∉ smL V sh) (fun j => 1))) := (by unfold aThin cntU; (repeat (first | rw [if_pos (by omega)] | rw [if_neg (by omega)])) <;> try rfl)
        rw [e9]
        exact ⟨rfl, (fin_same (V := (mpk V 9 (V 0 10).toNat (fun j => und V j sh (-1) ∧ j ∉ smL V sh) (fun j => 1))) (by rw [show V 0 10 = k by omega]; exact hV1) hs hH1), haf1⟩)⟩
        · skip
          refine x_aload_n G 0 rfl rfl dX6_thin_70 ?_
          refine x_get G (xR 1) xf6_0 lk_X6_10 (ly_n hY 0 (by decide)) (ly_k hY 0 (by decide)) (Or.inr ⟨rfl, _, (ly_r hY 0 0 (by decide) (by decide)), rfl⟩) dX6_thin_71 ?_
          refine x_iload_n G 3 rfl rfl dX6_thin_74 ?_
          refine x_iload_n G 1 rfl rfl dX6_thin_75 ?_
          refine x_iconst G (by decide) dX6_thin_76 ?_
          refine x_callVp G [] [xI k, xI sh, xI (-1)] rfl (by decide) (st_n (ly_st1 hY) 0 (by decide)) (st_k (ly_st1 hY) 0 (by decide)) hy_X3_isUndroppedOf hi_X3_isUndroppedOf hs_X3_isUndroppedOf ml_X6_144 rfl rfl (kX3_isUndroppedOf _ _ 1 (mpk V 9 k.toNat (fun j => und V j sh (-1) ∧ j ∉ smL V sh) (fun j => 1)) k sh (-1) (ly_st1 hY) hV1 hvk (by omega)) (by decide) (by decide) (Nat.le_of_ble_eq_true rfl) dX6_thin_77 ?_
          refine x_if_eq G 105 (by decide) dX6_thin_80 (fun c80 => ?_) (fun c80 => ?_)
          · skip
            have c80 := b2i_eq0.mp c80
            refine x_iinc G [(3, xI (k + 1)), (0, xR 0), (1, xI sh), (2, xI (fb_si (fun j => b2i (und V j sh (-1))) (V 0 10).toNat - ((smL V sh).length : Int)))] 3 rfl (by decide) (by omega) rfl dX6_thin_105 ?_
            refine x_goto G 59 (by decide) dX6_thin_108 ?_
            refine x_sub [(0, xR 0), (1, xI sh), (2, xI (fb_si (fun j => b2i (und V j sh (-1))) (V 0 10).toNat - ((smL V sh).length : Int))), (3, xI (k + 1))] [1, 2, 3, 0] rfl ?_
            exact ih59 _ (by omega) (k + 1) M1 rfl (by omega) ((by rw [show (k + 1).toNat = k.toNat + 1 by omega, ← mpk_n (fun h => c80 (und_mpk.mpr h.1))]; exact hV1)) (hH1) (haf1) (hsm1)
          · skip
            have c80 := b2i_ne0.mp c80
            refine x_aload_n G 0 rfl rfl dX6_thin_83 ?_
            refine x_get G (xR 162) xf6_4 lk_X6_37 (ly_n hY 0 (by decide)) (ly_k hY 0 (by decide)) (Or.inr ⟨rfl, _, (ly_r hY 0 4 (by decide) (by decide)), rfl⟩) dX6_thin_84 ?_
            refine x_iload_n G 3 rfl rfl dX6_thin_87 ?_
            refine x_callVp G [] [xI k] rfl (by decide) (sa_n (ly_sa162 hY) 0 (by decide)) (sa_k (ly_sa162 hY) 0 (by decide)) hy_X2_placeOf hi_X2_placeOf hs_X2_placeOf ml_X6_157 rfl rfl (kX2_placeOf _ _ 162 V (smL V sh) k (ly_sa162 hY) hsm1 hl18 (by omega)) (by decide) (by decide) (Nat.le_of_ble_eq_true rfl) dX6_thin_88 ?_
            refine x_iconst G (by decide) dX6_thin_91 ?_
            refine x_icmp_ne G 105 (by decide) dX6_thin_92 (fun c92 => ?_) (fun c92 => ?_)
            · skip
              refine x_iinc G [(3, xI (k + 1)), (0, xR 0), (1, xI sh), (2, xI (fb_si (fun j => b2i (und V j sh (-1))) (V 0 10).toNat - ((smL V sh).length : Int)))] 3 rfl (by decide) (by omega) rfl dX6_thin_105 ?_
              refine x_goto G 59 (by decide) dX6_thin_108 ?_
              refine x_sub [(0, xR 0), (1, xI sh), (2, xI (fb_si (fun j => b2i (und V j sh (-1))) (V 0 10).toNat - ((smL V sh).length : Int))), (3, xI (k + 1))] [1, 2, 3, 0] rfl ?_
              exact ih59 _ (by omega) (k + 1) M1 rfl (by omega) ((by rw [show (k + 1).toNat = k.toNat + 1 by omega, ← mpk_n (fun h => c92 (plc_iff.mpr h.2))]; exact hV1)) (hH1) (haf1) (hsm1)
            · skip
              refine x_aload_n G 0 rfl rfl dX6_thin_95 ?_
              refine x_get G (xR 1) xf6_0 lk_X6_10 (ly_n hY 0 (by decide)) (ly_k hY 0 (by decide)) (Or.inr ⟨rfl, _, (ly_r hY 0 0 (by decide) (by decide)), rfl⟩) dX6_thin_96 ?_
              refine x_get G (xR (1 + 9)) xf3_6 lk_X6_129 (st_n (ly_st1 hY) 0 (by decide)) (st_k (ly_st1 hY) 0 (by decide)) (Or.inr ⟨rfl, _, (st_r (ly_st1 hY) 0 6 (by decide) (by decide)), rfl⟩) dX6_thin_99 ?_
              refine x_iload_n G 3 rfl rfl dX6_thin_102 ?_
              refine x_iconst G (by decide) dX6_thin_103 ?_
              refine x_zast G (by omega) (st_n (ly_st1 hY) 9 (by decide)) (st_k (ly_st1 hY) 9 (by decide)) (show _ = 100 from st_l (ly_st1 hY) 9 (by decide)) (by omega) (by omega) dX6_thin_104 ?_
              refine x_iinc G [(3, xI (k + 1)), (0, xR 0), (1, xI sh), (2, xI (fb_si (fun j => b2i (und V j sh (-1))) (V 0 10).toNat - ((smL V sh).length : Int)))] 3 rfl (by decide) (by omega) rfl dX6_thin_105 ?_
              refine x_goto G 59 (by decide) dX6_thin_108 ?_
              refine x_sub [(0, xR 0), (1, xI sh), (2, xI (fb_si (fun j => b2i (und V j sh (-1))) (V 0 10).toNat - ((smL V sh).length : Int))), (3, xI (k + 1))] [1, 2, 3, 0] rfl ?_
              exact ih59 _ (by omega) (k + 1) (xst M1 (1 + 9) k.toNat 1) rfl (by omega) ((by rw [show (k + 1).toNat = k.toNat + 1 by omega, ← mpk_y (⟨und_mpk.mp c80, plc_iff.mp (by omega)⟩) ]; exact shw_xst hV1 (by decide))) ((hst_st hH1 (by omega))) ((afr_st haf1 (by omega))) ((smp_st hsm1 (by omega)))
      refine x_sub [(0, xR 0), (1, xI sh), (2, xI (fb_si (fun j => b2i (und V j sh (-1))) (V 0 10).toNat - ((smL V sh).length : Int))), (3, xI 0)] [2, 3, 1, 0] rfl ?_
      exact loop59 _ 0 M54 rfl (by omega) ((by rw [show (0 : Int).toNat = 0 from rfl, mpk_0]; exact (shw_fr (shw_xof hV h18.2.2 (by intro k9 h1 h2 h3; simp <;> omega)) (fun k9 g1 g2 g3 => h54.2 (1 + k9) (by omega))))) (h54.1) ((afr_trans (afr_trans (afr_refl _) (fun q9 g9 => h18.2.2 q9 (by simp <;> omega))) (fun q9 g9 => h54.2 q9 (by omega)))) ((smp_fr hsm18 (fun k9 h9 => h54.2 (162 + k9) (by omega))))
    · skip
      refine x_bipush G (by decide) dX6_thin_43 ?_
      exact x_iret G Rt dX6_thin_45 ⟨rfl, rfl, _, rfl, (by
        have e9 : aThin V sh = ((-2), none) := (by unfold aThin cntU; (repeat (first | rw [if_pos (by omega)] | rw [if_neg (by omega)])) <;> try rfl)
        rw [e9]
        exact ⟨rfl, fin_same (shw_xof hV h18.2.2 (by intro k9 h1 h2 h3; simp <;> omega)) hs (hst_fr hH (h18.2.2 14 (by simp <;> omega)) (fun q9 g1 g2 => h18.2.2 q9 (by simp <;> omega))), (afr_trans (afr_refl _) (fun q9 g9 => h18.2.2 q9 (by simp <;> omega)))⟩)⟩
  · skip
    have c4 := b2i_eq0.mp c4
    refine x_iconst G (by decide) dX6_thin_7 ?_
    exact x_iret G Rt dX6_thin_8 ⟨rfl, rfl, _, rfl, (by
        have e9 : aThin V sh = ((-1), none) := (by unfold aThin cntU; (repeat (first | rw [if_pos (by omega)] | rw [if_neg (by omega)])) <;> try rfl)
        rw [e9]
        exact ⟨rfl, fin_same hV hs hH, (afr_refl _)⟩)⟩
set_option maxRecDepth 100000 in
set_option maxHeartbeats 4000000 in
theorem kX6_weighAll (D : xD) (l : Launch) {n : Nat} {T : xT} {M : xM} (V : xM) (Hs : List xM) (sh m : Int) (hY : LayOK n T) (hV : shw M 1 V) (hv : VOK V) (hs : Srt V (V 10) (V 0 10).toNat) (hH : Hst M Hs) : xC D l uX6_weighAll 7 159 0 0 [xR 0, xI sh, xI m] n T M (xPI n T (fun z M2 => z = (aWAll V sh m).1 ∧ Fin1 M2 (nxV V (aWAll V sh m)) (nxH V Hs (aWAll V sh m)) ∧ afr M M2)) := by
  refine x_met uX6_weighAll (by decide) (Nat.le_of_ble_eq_true rfl) ?_
  intro Γ G Rt _
  have G : xG Γ RX6 cX6_weighAll 5 7 159 0 0 := G
  have Rt : xRt Γ (xPI n T (fun z M2 => z = (aWAll V sh m).1 ∧ Fin1 M2 (nxV V (aWAll V sh m)) (nxH V Hs (aWAll V sh m)) ∧ afr M M2)) (some .int) 0 0 := Rt
  show xX Γ 0 0 n T 0 [(0, xR 0), (1, xI sh), (2, xI m)] [] M
  have hc := ok_c hv
  have hsc := hv.1
  refine x_iload_n G 1 rfl rfl dX6_weighAll_0 ?_
  refine x_callSp G [] [xI sh] hy_X6_isShard ht_X6_isShard ml_X6_86 rfl rfl (kX6_isShard _ _ sh) (by decide) (by decide) (Nat.le_of_ble_eq_true rfl) dX6_weighAll_1 ?_
  refine x_if_eq G 17 (by decide) dX6_weighAll_4 (fun c4 => ?_) (fun c4 => ?_)
  · skip
    have c4 := b2i_eq0.mp c4
    refine x_iconst G (by decide) dX6_weighAll_17 ?_
    exact x_iret G Rt dX6_weighAll_18 ⟨rfl, rfl, _, rfl, (by
        have e9 : aWAll V sh m = ((-1), none) := (by unfold aWAll; (repeat (first | rw [if_pos (by omega)] | rw [if_neg (by omega)])) <;> try rfl)
        rw [e9]
        exact ⟨rfl, fin_same hV hs hH, (afr_refl _)⟩)⟩
  · skip
    have c4 := b2i_ne0.mp c4
    refine x_iload_n G 2 rfl rfl dX6_weighAll_7 ?_
    refine x_iconst G (by decide) dX6_weighAll_8 ?_
    refine x_bipush G (by decide) dX6_weighAll_9 ?_
    refine x_callSp G [] [xI m, xI 2, xI 20] hy_X6_isWithin ht_X6_isWithin ml_X6_62 rfl rfl (kX6_isWithin _ _ m 2 20) (by decide) (by decide) (Nat.le_of_ble_eq_true rfl) dX6_weighAll_11 ?_
    refine x_if_ne G 19 (by decide) dX6_weighAll_14 (fun c14 => ?_) (fun c14 => ?_)
    · skip
      have c14 := b2i_ne0.mp c14
      refine x_iconst G (by decide) dX6_weighAll_19 ?_
      refine x_istore_n G [(3, xI 0), (0, xR 0), (1, xI sh), (2, xI m)] rfl (by decide) rfl dX6_weighAll_20 ?_
      refine x_iconst G (by decide) dX6_weighAll_21 ?_
      refine x_istore G [(4, xI 0), (3, xI 0), (0, xR 0), (1, xI sh), (2, xI m)] (by decide) rfl dX6_weighAll_22 ?_
      have loop24 : ∀ (d : Nat) (k : Int) (q : Int), (V 0 10 - k).toNat = d → (0 ≤ k ∧ k ≤ V 0 10) → (q = fb_si (fun j => b2i (und V j sh (-1) ∧ V 6 j < 20)) k.toNat) → xX Γ 0 0 n T 24 [(0, xR 0), (1, xI sh), (2, xI m), (3, xI q), (4, xI k)] [] M := by
        intro d
        induction d using Nat.strongRecOn with
        | ind d ih24 =>
        intro k q hd24 hk hn
        have hb := si_b (fun j => und V j sh (-1) ∧ V 6 j < 20) k.toNat
        refine x_iload G 4 rfl dX6_weighAll_24 ?_
        refine x_aload_n G 0 rfl rfl dX6_weighAll_26 ?_
        refine x_get G (xR 1) xf6_0 lk_X6_10 (ly_n hY 0 (by decide)) (ly_k hY 0 (by decide)) (Or.inr ⟨rfl, _, (ly_r hY 0 0 (by decide) (by decide)), rfl⟩) dX6_weighAll_27 ?_
        refine x_get G (xI (M 1 10)) xf3_10 lk_X6_83 (st_n (ly_st1 hY) 0 (by decide)) (st_k (ly_st1 hY) 0 (by decide)) (Or.inl ⟨rfl, rfl⟩) dX6_weighAll_30 ?_
        rw [show M 1 10 = (V 0 10) from (congrFun (hV 0 (by decide) (by decide) (by decide)) 10)]
        refine x_icmp_ge G 74 (by decide) dX6_weighAll_33 (fun c33 => ?_) (fun c33 => ?_)
        · skip
          have hqw : q = wAC V sh := (by unfold wAC; rw [hn, show k = V 0 10 by omega])
          refine x_iload_n G 3 rfl rfl dX6_weighAll_74 ?_
          refine x_if_ne G 81 (by decide) dX6_weighAll_75 (fun c75 => ?_) (fun c75 => ?_)
          · skip
            refine x_aload_n G 0 rfl rfl dX6_weighAll_81 ?_
            refine x_get G (xR 14) xf6_1 lk_X6_19 (ly_n hY 0 (by decide)) (ly_k hY 0 (by decide)) (Or.inr ⟨rfl, _, (ly_r hY 0 1 (by decide) (by decide)), rfl⟩) dX6_weighAll_82 ?_
            refine x_aload_n G 0 rfl rfl dX6_weighAll_85 ?_
            refine x_get G (xR 1) xf6_0 lk_X6_10 (ly_n hY 0 (by decide)) (ly_k hY 0 (by decide)) (Or.inr ⟨rfl, _, (ly_r hY 0 0 (by decide) (by decide)), rfl⟩) dX6_weighAll_86 ?_
            refine x_callVV G [] [xR 1] rfl (by decide) (ly_n hY 14 (by decide)) (ly_k hY 14 (by decide)) hy_X0_add hi_X0_add hs_X0_add ml_X6_96 rfl rfl (kX0_add _ _ V Hs hY hV hv hH) (by decide) (by decide) (Nat.le_of_ble_eq_true rfl) dX6_weighAll_89 (fun M89 h89 => ?_)
            refine x_iconst G (by decide) dX6_weighAll_92 ?_
            refine x_istore G [(4, xI 0), (0, xR 0), (1, xI sh), (2, xI m), (3, xI q)] (by decide) rfl dX6_weighAll_93 ?_
            have loop95 : ∀ (d : Nat) (k : Int) (M1 : xM), (V 0 10 - k).toNat = d → (0 ≤ k ∧ k ≤ V 0 10) → (shw M1 1 (mpk V 6 k.toNat (fun j => und V j sh (-1)) (fun j => if 20 < V 6 j * m then 20 else V 6 j * m))) → (Hst M1 ((V :: Hs).take 10)) → (afr M M1) → xX Γ 0 0 n T 95 [(0, xR 0), (1, xI sh), (2, xI m), (3, xI q), (4, xI k)] [] M1 := by
              intro d
              induction d using Nat.strongRecOn with
              | ind d ih95 =>
              intro k M1 hd95 hk hV1 hH1 haf1
              have hvk : VOK (mpk V 6 k.toNat (fun j => und V j sh (-1)) (fun j => if 20 < V 6 j * m then 20 else V 6 j * m)) := mpk_ok hv (by decide) (fun j hj => by have hij := hv.2.2.1 j hj; (have hb1 := Int.mul_le_mul_of_nonneg_left (show (1 : Int) ≤ m by omega) (show (0 : Int) ≤ V 6 j by omega)); simp [xst_eq, itm]; split <;> omega)
              have hm10 : (mpk V 6 k.toNat (fun j => und V j sh (-1)) (fun j => if 20 < V 6 j * m then 20 else V 6 j * m)) 0 10 = V 0 10 := congrFun (mpk_row (by decide)) 10
              refine x_iload G 4 rfl dX6_weighAll_95 ?_
              refine x_aload_n G 0 rfl rfl dX6_weighAll_97 ?_
              refine x_get G (xR 1) xf6_0 lk_X6_10 (ly_n hY 0 (by decide)) (ly_k hY 0 (by decide)) (Or.inr ⟨rfl, _, (ly_r hY 0 0 (by decide) (by decide)), rfl⟩) dX6_weighAll_98 ?_
              refine x_get G (xI (M1 1 10)) xf3_10 lk_X6_83 (st_n (ly_st1 hY) 0 (by decide)) (st_k (ly_st1 hY) 0 (by decide)) (Or.inl ⟨rfl, rfl⟩) dX6_weighAll_101 ?_
              rw [show M1 1 10 = ((mpk V 6 k.toNat (fun j => und V j sh (-1)) (fun j => if 20 < V 6 j * m then 20 else V 6 j * m)) 0 10) from (congrFun (hV1 0 (by decide) (by decide) (by decide)) 10)]
              refine x_icmp_ge G 154 (by decide) dX6_weighAll_104 (fun c104 => ?_) (fun c104 => ?_)
              · skip
                have hkk : k = V 0 10 := by omega
                refine x_aload_n G 0 rfl rfl dX6_weighAll_154 ?_
                refine x_get G (xR 1) xf6_0 lk_X6_10 (ly_n hY 0 (by decide)) (ly_k hY 0 (by decide)) (Or.inr ⟨rfl, _, (ly_r hY 0 0 (by decide) (by decide)), rfl⟩) dX6_weighAll_155 ?_
                refine x_callVV G [] [] rfl (by decide) (st_n (ly_st1 hY) 0 (by decide)) (st_k (ly_st1 hY) 0 (by decide)) hy_X3_rankAll hi_X3_rankAll hs_X3_rankAll ml_X6_77 rfl rfl (kX3_rankAll _ _ 1 (mpk V 6 k.toNat (fun j => und V j sh (-1)) (fun j => if 20 < V 6 j * m then 20 else V 6 j * m)) (ly_st1 hY) hV1 hvk) (by decide) (by decide) (Nat.le_of_ble_eq_true rfl) dX6_weighAll_158 (fun M158 h158 => ?_)
                refine x_iload_n G 3 rfl rfl dX6_weighAll_161 ?_
                exact x_iret G Rt dX6_weighAll_162 ⟨rfl, rfl, _, rfl, (by
        have e9 : aWAll V sh m = (q, some (mpk V 6 (V 0 10).toNat (fun j => und V j sh (-1)) (fun j => if 20 < V 6 j * m then 20 else V 6 j * m))) := (by unfold aWAll; rw [← hqw]; (repeat (first | rw [if_pos (by omega)] | rw [if_neg (by omega)])) <;> try rfl)
        rw [e9]
        exact ⟨rfl, (by rw [← hkk]; exact (fin_rank hV1 h158.2 h158.1 (hst_fr hH1 (h158.2 14 (by simp <;> omega)) (fun q9 g1 g2 => h158.2 q9 (by simp <;> omega))))), (afr_trans haf1 (fun q9 g9 => h158.2 q9 (by simp <;> omega)))⟩)⟩
              · skip
                refine x_aload_n G 0 rfl rfl dX6_weighAll_107 ?_
                refine x_get G (xR 1) xf6_0 lk_X6_10 (ly_n hY 0 (by decide)) (ly_k hY 0 (by decide)) (Or.inr ⟨rfl, _, (ly_r hY 0 0 (by decide) (by decide)), rfl⟩) dX6_weighAll_108 ?_
                refine x_iload G 4 rfl dX6_weighAll_111 ?_
                refine x_iload_n G 1 rfl rfl dX6_weighAll_113 ?_
                refine x_iconst G (by decide) dX6_weighAll_114 ?_
                refine x_callVp G [] [xI k, xI sh, xI (-1)] rfl (by decide) (st_n (ly_st1 hY) 0 (by decide)) (st_k (ly_st1 hY) 0 (by decide)) hy_X3_isUndroppedOf hi_X3_isUndroppedOf hs_X3_isUndroppedOf ml_X6_144 rfl rfl (kX3_isUndroppedOf _ _ 1 (mpk V 6 k.toNat (fun j => und V j sh (-1)) (fun j => if 20 < V 6 j * m then 20 else V 6 j * m)) k sh (-1) (ly_st1 hY) hV1 hvk (by omega)) (by decide) (by decide) (Nat.le_of_ble_eq_true rfl) dX6_weighAll_115 ?_
                refine x_if_eq G 148 (by decide) dX6_weighAll_118 (fun c118 => ?_) (fun c118 => ?_)
                · skip
                  have c118 := b2i_eq0.mp c118
                  refine x_iinc G [(4, xI (k + 1)), (0, xR 0), (1, xI sh), (2, xI m), (3, xI q)] 4 rfl (by decide) (by omega) rfl dX6_weighAll_148 ?_
                  refine x_goto G 95 (by decide) dX6_weighAll_151 ?_
                  refine x_sub [(0, xR 0), (1, xI sh), (2, xI m), (3, xI q), (4, xI (k + 1))] [1, 2, 3, 4, 0] rfl ?_
                  exact ih95 _ (by omega) (k + 1) M1 rfl (by omega) ((by rw [show (k + 1).toNat = k.toNat + 1 by omega, ← mpk_n (fun h => c118 (und_mpk.mpr h))]; exact hV1)) (hH1) (haf1)
                · skip
                  have c118 := b2i_ne0.mp c118
                  have hit := ok_i hv hk.1 (by omega)
                  have hm6 : (mpk V 6 k.toNat (fun j => und V j sh (-1)) (fun j => if 20 < V 6 j * m then 20 else V 6 j * m)) 6 k.toNat = V 6 k.toNat := mpk_at (Nat.le_refl _)
                  have hmb : V 6 k.toNat * m ≤ 20 * m ∧ 0 ≤ V 6 k.toNat * m := ⟨Int.mul_le_mul_of_nonneg_right hit.2.2.1.2 (by omega), Int.mul_nonneg (by omega) (by omega)⟩
                  refine x_aload_n G 0 rfl rfl dX6_weighAll_121 ?_
                  refine x_get G (xR 1) xf6_0 lk_X6_10 (ly_n hY 0 (by decide)) (ly_k hY 0 (by decide)) (Or.inr ⟨rfl, _, (ly_r hY 0 0 (by decide) (by decide)), rfl⟩) dX6_weighAll_122 ?_
                  refine x_get G (xR (1 + 6)) xf3_3 lk_X6_123 (st_n (ly_st1 hY) 0 (by decide)) (st_k (ly_st1 hY) 0 (by decide)) (Or.inr ⟨rfl, _, (st_r (ly_st1 hY) 0 3 (by decide) (by decide)), rfl⟩) dX6_weighAll_125 ?_
                  refine x_iload G 4 rfl dX6_weighAll_128 ?_
                  refine x_aload_n G 0 rfl rfl dX6_weighAll_130 ?_
                  refine x_get G (xR 1) xf6_0 lk_X6_10 (ly_n hY 0 (by decide)) (ly_k hY 0 (by decide)) (Or.inr ⟨rfl, _, (ly_r hY 0 0 (by decide) (by decide)), rfl⟩) dX6_weighAll_131 ?_
                  refine x_get G (xR (1 + 6)) xf3_3 lk_X6_123 (st_n (ly_st1 hY) 0 (by decide)) (st_k (ly_st1 hY) 0 (by decide)) (Or.inr ⟨rfl, _, (st_r (ly_st1 hY) 0 3 (by decide) (by decide)), rfl⟩) dX6_weighAll_134 ?_
                  refine x_iload G 4 rfl dX6_weighAll_137 ?_
                  refine x_iald G (st_n (ly_st1 hY) 6 (by decide)) (st_k (ly_st1 hY) 6 (by decide)) (show _ = 100 from st_l (ly_st1 hY) 6 (by decide)) (by omega) (by omega) dX6_weighAll_139 ?_
                  rw [show M1 (1 + 6) k.toNat = ((mpk V 6 k.toNat (fun j => und V j sh (-1)) (fun j => if 20 < V 6 j * m then 20 else V 6 j * m)) 6 k.toNat) from (congrFun (hV1 6 (by decide) (by decide) (by decide)) k.toNat)]
                  rw [hm6]
                  skip
                  refine x_iload_n G 2 rfl rfl dX6_weighAll_140 ?_
                  refine x_imul G (by omega) dX6_weighAll_141 ?_
                  refine x_bipush G (by decide) dX6_weighAll_142 ?_
                  refine x_min G ml_X6_161 stat_min ini_Math code_min (by decide) (by decide) (Nat.le_of_ble_eq_true rfl) dX6_weighAll_144 ?_
                  refine x_iast G (st_n (ly_st1 hY) 6 (by decide)) (st_k (ly_st1 hY) 6 (by decide)) (show _ = 100 from st_l (ly_st1 hY) 6 (by decide)) (by omega) (by omega) dX6_weighAll_147 ?_
                  refine x_iinc G [(4, xI (k + 1)), (0, xR 0), (1, xI sh), (2, xI m), (3, xI q)] 4 rfl (by decide) (by omega) rfl dX6_weighAll_148 ?_
                  refine x_goto G 95 (by decide) dX6_weighAll_151 ?_
                  refine x_sub [(0, xR 0), (1, xI sh), (2, xI m), (3, xI q), (4, xI (k + 1))] [1, 2, 3, 4, 0] rfl ?_
                  exact ih95 _ (by omega) (k + 1) (xst M1 (1 + 6) k.toNat (if 20 < ((V 6 k.toNat) * m) then 20 else ((V 6 k.toNat) * m))) rfl (by omega) ((by rw [show (k + 1).toNat = k.toNat + 1 by omega, ← mpk_y (und_mpk.mp c118)]; exact shw_xst hV1 (by decide))) ((hst_st hH1 (by omega))) ((afr_st haf1 (by omega)))
            refine x_sub [(0, xR 0), (1, xI sh), (2, xI m), (3, xI q), (4, xI 0)] [1, 2, 3, 4, 0] rfl ?_
            exact loop95 _ 0 M89 rfl (by omega) ((by rw [show (0 : Int).toNat = 0 from rfl, mpk_0]; exact (shw_fr hV (fun k9 g1 g2 g3 => h89.2 (1 + k9) (by omega))))) (h89.1) ((afr_trans (afr_refl _) (fun q9 g9 => h89.2 q9 (by omega))))
          · skip
            refine x_bipush G (by decide) dX6_weighAll_78 ?_
            exact x_iret G Rt dX6_weighAll_80 ⟨rfl, rfl, _, rfl, (by
        have e9 : aWAll V sh m = ((-2), none) := (by unfold aWAll; rw [← hqw]; (repeat (first | rw [if_pos (by omega)] | rw [if_neg (by omega)])) <;> try rfl)
        rw [e9]
        exact ⟨rfl, fin_same hV hs hH, (afr_refl _)⟩)⟩
        · skip
          refine x_aload_n G 0 rfl rfl dX6_weighAll_36 ?_
          refine x_get G (xR 1) xf6_0 lk_X6_10 (ly_n hY 0 (by decide)) (ly_k hY 0 (by decide)) (Or.inr ⟨rfl, _, (ly_r hY 0 0 (by decide) (by decide)), rfl⟩) dX6_weighAll_37 ?_
          refine x_iload G 4 rfl dX6_weighAll_40 ?_
          refine x_iload_n G 1 rfl rfl dX6_weighAll_42 ?_
          refine x_iconst G (by decide) dX6_weighAll_43 ?_
          refine x_callVp G [] [xI k, xI sh, xI (-1)] rfl (by decide) (st_n (ly_st1 hY) 0 (by decide)) (st_k (ly_st1 hY) 0 (by decide)) hy_X3_isUndroppedOf hi_X3_isUndroppedOf hs_X3_isUndroppedOf ml_X6_144 rfl rfl (kX3_isUndroppedOf _ _ 1 V k sh (-1) (ly_st1 hY) hV hv (by omega)) (by decide) (by decide) (Nat.le_of_ble_eq_true rfl) dX6_weighAll_44 ?_
          refine x_if_eq G 68 (by decide) dX6_weighAll_47 (fun c47 => ?_) (fun c47 => ?_)
          · skip
            have c47 := b2i_eq0.mp c47
            refine x_iinc G [(4, xI (k + 1)), (0, xR 0), (1, xI sh), (2, xI m), (3, xI q)] 4 rfl (by decide) (by omega) rfl dX6_weighAll_68 ?_
            refine x_goto G 24 (by decide) dX6_weighAll_71 ?_
            refine x_sub [(0, xR 0), (1, xI sh), (2, xI m), (3, xI q), (4, xI (k + 1))] [1, 2, 3, 4, 0] rfl ?_
            exact ih24 _ (by omega) (k + 1) q rfl (by omega) (si_n hk.1 hn (fun h => c47 h.1))
          · skip
            have c47 := b2i_ne0.mp c47
            have hit := ok_i hv hk.1 (by omega)
            refine x_aload_n G 0 rfl rfl dX6_weighAll_50 ?_
            refine x_get G (xR 1) xf6_0 lk_X6_10 (ly_n hY 0 (by decide)) (ly_k hY 0 (by decide)) (Or.inr ⟨rfl, _, (ly_r hY 0 0 (by decide) (by decide)), rfl⟩) dX6_weighAll_51 ?_
            refine x_get G (xR (1 + 6)) xf3_3 lk_X6_123 (st_n (ly_st1 hY) 0 (by decide)) (st_k (ly_st1 hY) 0 (by decide)) (Or.inr ⟨rfl, _, (st_r (ly_st1 hY) 0 3 (by decide) (by decide)), rfl⟩) dX6_weighAll_54 ?_
            refine x_iload G 4 rfl dX6_weighAll_57 ?_
            refine x_iald G (st_n (ly_st1 hY) 6 (by decide)) (st_k (ly_st1 hY) 6 (by decide)) (show _ = 100 from st_l (ly_st1 hY) 6 (by decide)) (by omega) (by omega) dX6_weighAll_59 ?_
            rw [show M (1 + 6) k.toNat = (V 6 k.toNat) from (congrFun (hV 6 (by decide) (by decide) (by decide)) k.toNat)]
            refine x_bipush G (by decide) dX6_weighAll_60 ?_
            refine x_icmp_ge G 68 (by decide) dX6_weighAll_62 (fun c62 => ?_) (fun c62 => ?_)
            · skip
              refine x_iinc G [(4, xI (k + 1)), (0, xR 0), (1, xI sh), (2, xI m), (3, xI q)] 4 rfl (by decide) (by omega) rfl dX6_weighAll_68 ?_
              refine x_goto G 24 (by decide) dX6_weighAll_71 ?_
              refine x_sub [(0, xR 0), (1, xI sh), (2, xI m), (3, xI q), (4, xI (k + 1))] [1, 2, 3, 4, 0] rfl ?_
              exact ih24 _ (by omega) (k + 1) q rfl (by omega) (si_n hk.1 hn (fun h => by have := h.2; omega))
            · skip
              refine x_iinc G [(3, xI (q + 1)), (0, xR 0), (1, xI sh), (2, xI m), (4, xI k)] 3 rfl (by decide) (by omega) rfl dX6_weighAll_65 ?_
              refine x_iinc G [(4, xI (k + 1)), (3, xI (q + 1)), (0, xR 0), (1, xI sh), (2, xI m)] 4 rfl (by decide) (by omega) rfl dX6_weighAll_68 ?_
              refine x_goto G 24 (by decide) dX6_weighAll_71 ?_
              refine x_sub [(0, xR 0), (1, xI sh), (2, xI m), (3, xI (q + 1)), (4, xI (k + 1))] [2, 3, 4, 1, 0] rfl ?_
              exact ih24 _ (by omega) (k + 1) (q + 1) rfl (by omega) (si_y hk.1 hn ⟨c47, by omega⟩)
      refine x_sub [(0, xR 0), (1, xI sh), (2, xI m), (3, xI 0), (4, xI 0)] [2, 3, 4, 1, 0] rfl ?_
      exact loop24 _ 0 0 rfl (by omega) (rfl)
    · skip
      have c14 := b2i_eq0.mp c14
      refine x_iconst G (by decide) dX6_weighAll_17 ?_
      exact x_iret G Rt dX6_weighAll_18 ⟨rfl, rfl, _, rfl, (by
        have e9 : aWAll V sh m = ((-1), none) := (by unfold aWAll; (repeat (first | rw [if_pos (by omega)] | rw [if_neg (by omega)])) <;> try rfl)
        rw [e9]
        exact ⟨rfl, fin_same hV hs hH, (afr_refl _)⟩)⟩
set_option maxRecDepth 100000 in
set_option maxHeartbeats 4000000 in
theorem kX6_purge (D : xD) (l : Launch) {n : Nat} {T : xT} {M : xM} (V : xM) (Hs : List xM) (hY : LayOK n T) (hV : shw M 1 V) (hv : VOK V) (hs : Srt V (V 10) (V 0 10).toNat) (hH : Hst M Hs) : xC D l uX6_purge 4 91 0 0 [xR 0] n T M (xPI n T (fun z M2 => z = (aPurge V).1 ∧ Fin1 M2 (nxV V (aPurge V)) (nxH V Hs (aPurge V)) ∧ afr M M2)) := by
  refine x_met uX6_purge (by decide) (Nat.le_of_ble_eq_true rfl) ?_
  intro Γ G Rt _
  have G : xG Γ RX6 cX6_purge 3 4 91 0 0 := G
  have Rt : xRt Γ (xPI n T (fun z M2 => z = (aPurge V).1 ∧ Fin1 M2 (nxV V (aPurge V)) (nxH V Hs (aPurge V)) ∧ afr M M2)) (some .int) 0 0 := Rt
  show xX Γ 0 0 n T 0 [(0, xR 0)] [] M
  have hc := ok_c hv
  have hsc := hv.1
  have hbU := si_b (fun j => und V j (-1) (-1)) (V 0 10).toNat
  have hbA := si_b (fun j => und V j (-1) (-1) ∧ alv V j (V 0 11)) (V 0 10).toNat
  refine x_aload_n G 0 rfl rfl dX6_purge_0 ?_
  refine x_get G (xR 1) xf6_0 lk_X6_10 (ly_n hY 0 (by decide)) (ly_k hY 0 (by decide)) (Or.inr ⟨rfl, _, (ly_r hY 0 0 (by decide) (by decide)), rfl⟩) dX6_purge_1 ?_
  refine x_iconst G (by decide) dX6_purge_4 ?_
  refine x_iconst G (by decide) dX6_purge_5 ?_
  refine x_callVp G [] [xI (-1), xI (-1)] rfl (by decide) (st_n (ly_st1 hY) 0 (by decide)) (st_k (ly_st1 hY) 0 (by decide)) hy_X3_countUndropped hi_X3_countUndropped hs_X3_countUndropped ml_X6_136 rfl rfl (kX3_countUndropped _ _ 1 V (-1) (-1) (ly_st1 hY) hV hv) (by decide) (by decide) (Nat.le_of_ble_eq_true rfl) dX6_purge_6 ?_
  refine x_aload_n G 0 rfl rfl dX6_purge_9 ?_
  refine x_get G (xR 1) xf6_0 lk_X6_10 (ly_n hY 0 (by decide)) (ly_k hY 0 (by decide)) (Or.inr ⟨rfl, _, (ly_r hY 0 0 (by decide) (by decide)), rfl⟩) dX6_purge_10 ?_
  refine x_iconst G (by decide) dX6_purge_13 ?_
  refine x_iconst G (by decide) dX6_purge_14 ?_
  refine x_callVp G [xI (fb_si (fun j => b2i (und V j (-1) (-1))) (V 0 10).toNat)] [xI (-1), xI (-1)] rfl (by decide) (st_n (ly_st1 hY) 0 (by decide)) (st_k (ly_st1 hY) 0 (by decide)) hy_X3_countAlive hi_X3_countAlive hs_X3_countAlive ml_X6_166 rfl rfl (kX3_countAlive _ _ 1 V (-1) (-1) (ly_st1 hY) hV hv) (by decide) (by decide) (Nat.le_of_ble_eq_true rfl) dX6_purge_15 ?_
  refine x_isub G (by omega) dX6_purge_18 ?_
  refine x_istore_n G [(1, xI ((fb_si (fun j => b2i (und V j (-1) (-1))) (V 0 10).toNat) - (fb_si (fun j => b2i (und V j (-1) (-1) ∧ alv V j (V 0 11))) (V 0 10).toNat))), (0, xR 0)] rfl (by decide) rfl dX6_purge_19 ?_
  refine x_iload_n G 0 rfl rfl dX6_purge_20 ?_
  refine x_if_ne G 27 (by decide) dX6_purge_21 (fun c21 => ?_) (fun c21 => ?_)
  · skip
    refine x_aload_n G 1 rfl rfl dX6_purge_27 ?_
    refine x_get G (xR 14) xf6_1 lk_X6_19 (ly_n hY 0 (by decide)) (ly_k hY 0 (by decide)) (Or.inr ⟨rfl, _, (ly_r hY 0 1 (by decide) (by decide)), rfl⟩) dX6_purge_28 ?_
    refine x_aload_n G 1 rfl rfl dX6_purge_31 ?_
    refine x_get G (xR 1) xf6_0 lk_X6_10 (ly_n hY 0 (by decide)) (ly_k hY 0 (by decide)) (Or.inr ⟨rfl, _, (ly_r hY 0 0 (by decide) (by decide)), rfl⟩) dX6_purge_32 ?_
    refine x_callVV G [] [xR 1] rfl (by decide) (ly_n hY 14 (by decide)) (ly_k hY 14 (by decide)) hy_X0_add hi_X0_add hs_X0_add ml_X6_96 rfl rfl (kX0_add _ _ V Hs hY hV hv hH) (by decide) (by decide) (Nat.le_of_ble_eq_true rfl) dX6_purge_35 (fun M35 h35 => ?_)
    refine x_iconst G (by decide) dX6_purge_38 ?_
    refine x_istore_n G [(2, xI 0), (1, xI ((fb_si (fun j => b2i (und V j (-1) (-1))) (V 0 10).toNat) - (fb_si (fun j => b2i (und V j (-1) (-1) ∧ alv V j (V 0 11))) (V 0 10).toNat))), (0, xR 0)] rfl (by decide) rfl dX6_purge_39 ?_
    have loop40 : ∀ (d : Nat) (k : Int) (M1 : xM), (V 0 10 - k).toNat = d → (0 ≤ k ∧ k ≤ V 0 10) → (shw M1 1 (mpk V 9 k.toNat (fun j => ¬ alv V j (V 0 11)) (fun j => 1))) → (Hst M1 ((V :: Hs).take 10)) → (afr M M1) → xX Γ 0 0 n T 40 [(0, xR 0), (1, xI ((fb_si (fun j => b2i (und V j (-1) (-1))) (V 0 10).toNat) - (fb_si (fun j => b2i (und V j (-1) (-1) ∧ alv V j (V 0 11))) (V 0 10).toNat))), (2, xI k)] [] M1 := by
      intro d
      induction d using Nat.strongRecOn with
      | ind d ih40 =>
      intro k M1 hd40 hk hV1 hH1 haf1
      have hvk : VOK (mpk V 9 k.toNat (fun j => ¬ alv V j (V 0 11)) (fun j => 1)) := mpk_ok hv (by decide) (fun j hj => by have hij := hv.2.2.1 j hj; simp [xst_eq, itm]; omega)
      have hm10 : (mpk V 9 k.toNat (fun j => ¬ alv V j (V 0 11)) (fun j => 1)) 0 10 = V 0 10 := congrFun (mpk_row (by decide)) 10
      refine x_iload_n G 2 rfl rfl dX6_purge_40 ?_
      refine x_aload_n G 0 rfl rfl dX6_purge_41 ?_
      refine x_get G (xR 1) xf6_0 lk_X6_10 (ly_n hY 0 (by decide)) (ly_k hY 0 (by decide)) (Or.inr ⟨rfl, _, (ly_r hY 0 0 (by decide) (by decide)), rfl⟩) dX6_purge_42 ?_
      refine x_get G (xI (M1 1 10)) xf3_10 lk_X6_83 (st_n (ly_st1 hY) 0 (by decide)) (st_k (ly_st1 hY) 0 (by decide)) (Or.inl ⟨rfl, rfl⟩) dX6_purge_45 ?_
      rw [show M1 1 10 = ((mpk V 9 k.toNat (fun j => ¬ alv V j (V 0 11)) (fun j => 1)) 0 10) from (congrFun (hV1 0 (by decide) (by decide) (by decide)) 10)]
      refine x_icmp_ge G 78 (by decide) dX6_purge_48 (fun c48 => ?_) (fun c48 => ?_)
      · skip
        refine x_iload_n G 1 rfl rfl dX6_purge_78 ?_
        exact x_iret G Rt dX6_purge_79 ⟨rfl, rfl, _, rfl, (by
        have e9 : aPurge V = (((fb_si (fun j => b2i (und V j (-1) (-1))) (V 0 10).toNat) - (fb_si (fun j => b2i (und V j (-1) (-1) ∧ alv V j (V 0 11))) (V 0 10).toNat)), some (mpk V 9 (V 0 10).toNat (fun j => ¬ alv V j (V 0 11)) (fun j => 1))) := (by unfold aPurge cntU cntA; (repeat (first | rw [if_pos (by omega)] | rw [if_neg (by omega)])) <;> try rfl)
        rw [e9]
        exact ⟨rfl, (fin_same (V := (mpk V 9 (V 0 10).toNat (fun j => ¬ alv V j (V 0 11)) (fun j => 1))) (by rw [show V 0 10 = k by omega]; exact hV1) hs hH1), haf1⟩)⟩
      · skip
        refine x_aload_n G 0 rfl rfl dX6_purge_51 ?_
        refine x_get G (xR 1) xf6_0 lk_X6_10 (ly_n hY 0 (by decide)) (ly_k hY 0 (by decide)) (Or.inr ⟨rfl, _, (ly_r hY 0 0 (by decide) (by decide)), rfl⟩) dX6_purge_52 ?_
        refine x_iload_n G 2 rfl rfl dX6_purge_55 ?_
        refine x_callVp G [] [xI k] rfl (by decide) (st_n (ly_st1 hY) 0 (by decide)) (st_k (ly_st1 hY) 0 (by decide)) hy_X3_isAlive hi_X3_isAlive hs_X3_isAlive ml_X6_169 rfl rfl (kX3_isAlive _ _ 1 (mpk V 9 k.toNat (fun j => ¬ alv V j (V 0 11)) (fun j => 1)) k (ly_st1 hY) hV1 hvk (by omega)) (by decide) (by decide) (Nat.le_of_ble_eq_true rfl) dX6_purge_56 ?_
        refine x_if_ne G 72 (by decide) dX6_purge_59 (fun c59 => ?_) (fun c59 => ?_)
        · skip
          have c59 := b2i_ne0.mp c59
          refine x_iinc G [(2, xI (k + 1)), (0, xR 0), (1, xI ((fb_si (fun j => b2i (und V j (-1) (-1))) (V 0 10).toNat) - (fb_si (fun j => b2i (und V j (-1) (-1) ∧ alv V j (V 0 11))) (V 0 10).toNat)))] 2 rfl (by decide) (by omega) rfl dX6_purge_72 ?_
          refine x_goto G 40 (by decide) dX6_purge_75 ?_
          refine x_sub [(0, xR 0), (1, xI ((fb_si (fun j => b2i (und V j (-1) (-1))) (V 0 10).toNat) - (fb_si (fun j => b2i (und V j (-1) (-1) ∧ alv V j (V 0 11))) (V 0 10).toNat))), (2, xI (k + 1))] [1, 2, 0] rfl ?_
          exact ih40 _ (by omega) (k + 1) M1 rfl (by omega) ((by rw [show (k + 1).toNat = k.toNat + 1 by omega, ← mpk_n (fun h => h (alv_mpk.mp c59))]; exact hV1)) (hH1) (haf1)
        · skip
          have c59 := b2i_eq0.mp c59
          refine x_aload_n G 0 rfl rfl dX6_purge_62 ?_
          refine x_get G (xR 1) xf6_0 lk_X6_10 (ly_n hY 0 (by decide)) (ly_k hY 0 (by decide)) (Or.inr ⟨rfl, _, (ly_r hY 0 0 (by decide) (by decide)), rfl⟩) dX6_purge_63 ?_
          refine x_get G (xR (1 + 9)) xf3_6 lk_X6_129 (st_n (ly_st1 hY) 0 (by decide)) (st_k (ly_st1 hY) 0 (by decide)) (Or.inr ⟨rfl, _, (st_r (ly_st1 hY) 0 6 (by decide) (by decide)), rfl⟩) dX6_purge_66 ?_
          refine x_iload_n G 2 rfl rfl dX6_purge_69 ?_
          refine x_iconst G (by decide) dX6_purge_70 ?_
          refine x_zast G (by omega) (st_n (ly_st1 hY) 9 (by decide)) (st_k (ly_st1 hY) 9 (by decide)) (show _ = 100 from st_l (ly_st1 hY) 9 (by decide)) (by omega) (by omega) dX6_purge_71 ?_
          refine x_iinc G [(2, xI (k + 1)), (0, xR 0), (1, xI ((fb_si (fun j => b2i (und V j (-1) (-1))) (V 0 10).toNat) - (fb_si (fun j => b2i (und V j (-1) (-1) ∧ alv V j (V 0 11))) (V 0 10).toNat)))] 2 rfl (by decide) (by omega) rfl dX6_purge_72 ?_
          refine x_goto G 40 (by decide) dX6_purge_75 ?_
          refine x_sub [(0, xR 0), (1, xI ((fb_si (fun j => b2i (und V j (-1) (-1))) (V 0 10).toNat) - (fb_si (fun j => b2i (und V j (-1) (-1) ∧ alv V j (V 0 11))) (V 0 10).toNat))), (2, xI (k + 1))] [1, 2, 0] rfl ?_
          exact ih40 _ (by omega) (k + 1) (xst M1 (1 + 9) k.toNat 1) rfl (by omega) ((by rw [show (k + 1).toNat = k.toNat + 1 by omega, ← mpk_y (fun h => c59 (alv_mpk.mpr h)) ]; exact shw_xst hV1 (by decide))) ((hst_st hH1 (by omega))) ((afr_st haf1 (by omega)))
    refine x_sub [(0, xR 0), (1, xI ((fb_si (fun j => b2i (und V j (-1) (-1))) (V 0 10).toNat) - (fb_si (fun j => b2i (und V j (-1) (-1) ∧ alv V j (V 0 11))) (V 0 10).toNat))), (2, xI 0)] [2, 1, 0] rfl ?_
    exact loop40 _ 0 M35 rfl (by omega) ((by rw [show (0 : Int).toNat = 0 from rfl, mpk_0]; exact (shw_fr hV (fun k9 g1 g2 g3 => h35.2 (1 + k9) (by omega))))) (h35.1) ((afr_trans (afr_refl _) (fun q9 g9 => h35.2 q9 (by omega))))
  · skip
    refine x_bipush G (by decide) dX6_purge_24 ?_
    exact x_iret G Rt dX6_purge_26 ⟨rfl, rfl, _, rfl, (by
        have e9 : aPurge V = ((-2), none) := (by unfold aPurge cntU cntA; (repeat (first | rw [if_pos (by omega)] | rw [if_neg (by omega)])) <;> try rfl)
        rw [e9]
        exact ⟨rfl, fin_same hV hs hH, (afr_refl _)⟩)⟩
set_option maxRecDepth 100000 in
set_option maxHeartbeats 4000000 in
theorem kX6_undo (D : xD) (l : Launch) {n : Nat} {T : xT} {M : xM} (V : xM) (Hs : List xM) (hY : LayOK n T) (hV : shw M 1 V) (hv : VOK V) (hs : Srt V (V 10) (V 0 10).toNat) (hH : Hst M Hs) (hW : ∀ W ∈ Hs, VOK W ∧ Srt W (W 10) (W 0 10).toNat) : xC D l uX6_undo 2 43 0 0 [xR 0] n T M (xPI n T (fun z M2 => (Hs = [] ∧ z = -1 ∧ Fin1 M2 V Hs ∧ afr M M2) ∨ ∃ W Hs2, Hs = W :: Hs2 ∧ z = (Hs2.length : Int) ∧ Fin1 M2 W Hs2 ∧ afr M M2)) := by
  refine x_met uX6_undo (by decide) (Nat.le_of_ble_eq_true rfl) ?_
  intro Γ G Rt _
  have G : xG Γ RX6 cX6_undo 1 2 43 0 0 := G
  have Rt : xRt Γ (xPI n T (fun z M2 => (Hs = [] ∧ z = -1 ∧ Fin1 M2 V Hs ∧ afr M M2) ∨ ∃ W Hs2, Hs = W :: Hs2 ∧ z = (Hs2.length : Int) ∧ Fin1 M2 W Hs2 ∧ afr M M2)) (some .int) 0 0 := Rt
  show xX Γ 0 0 n T 0 [(0, xR 0)] [] M
  refine x_aload_n G 0 rfl rfl dX6_undo_0 ?_
  refine x_get G (xR 14) xf6_1 lk_X6_19 (ly_n hY 0 (by decide)) (ly_k hY 0 (by decide)) (Or.inr ⟨rfl, _, (ly_r hY 0 1 (by decide) (by decide)), rfl⟩) dX6_undo_1 ?_
  refine x_aload_n G 0 rfl rfl dX6_undo_4 ?_
  refine x_get G (xR 1) xf6_0 lk_X6_10 (ly_n hY 0 (by decide)) (ly_k hY 0 (by decide)) (Or.inr ⟨rfl, _, (ly_r hY 0 0 (by decide) (by decide)), rfl⟩) dX6_undo_5 ?_
  refine x_callVI G [] [xR 1] rfl (by decide) (ly_n hY 14 (by decide)) (ly_k hY 14 (by decide)) hy_X0_restore hi_X0_restore hs_X0_restore ml_X6_176 rfl rfl (kX0_restore _ _ Hs hY hH (fun W hw => (hW W hw).1)) (by decide) (by decide) (Nat.le_of_ble_eq_true rfl) dX6_undo_8 (fun z8 M8 h8 => ?_)
  refine x_if_ne G 16 (by decide) dX6_undo_11 (fun c11 => ?_) (fun c11 => ?_)
  · skip
    refine x_aload_n G 0 rfl rfl dX6_undo_16 ?_
    refine x_get G (xR 14) xf6_1 lk_X6_19 (ly_n hY 0 (by decide)) (ly_k hY 0 (by decide)) (Or.inr ⟨rfl, _, (ly_r hY 0 1 (by decide) (by decide)), rfl⟩) dX6_undo_17 ?_
    refine x_get G (xI (M8 14 2)) xf0_2 lk_X6_180 (ly_n hY 14 (by decide)) (ly_k hY 14 (by decide)) (Or.inl ⟨rfl, rfl⟩) dX6_undo_20 ?_
    exact x_iret G Rt dX6_undo_23 ⟨rfl, rfl, _, rfl, by
      rcases h8 with ⟨h1, h2, h3⟩ | ⟨h1, W, Hs2, h2, h3, h4, h5⟩
      · omega
      · refine Or.inr ⟨W, Hs2, h2, h4.2.1, ⟨h3.1, ?_, h4⟩, fun q hq => h5 q (by omega) (by omega)⟩
        have hw := hW W (by rw [h2]; simp)
        exact srt_cg (fun p hp => h3.2 p (by omega)) hw.2⟩
  · skip
    refine x_iconst G (by decide) dX6_undo_14 ?_
    exact x_iret G Rt dX6_undo_15 ⟨rfl, rfl, _, rfl, by rcases h8 with ⟨h1, h2, h3⟩ | ⟨h1, _⟩; exact Or.inl ⟨h2, rfl, (by rw [h3]; exact fin_same hV hs hH), (by rw [h3]; exact afr_refl _)⟩; omega⟩
def kor (kp sf : Int) : Int := if bit kp sf then kp else kp + 2 ^ sf.toNat
theorem kor_or : ∀ k, k < 4 → ∀ s, s < 2 → (Int32.ofInt ((k : Nat) : Int) ||| Int32.ofInt (2 ^ ((s : Nat) : Int).toNat)) = Int32.ofInt (kor (k : Nat) (s : Nat)) := by decide +kernel
theorem kor_b : ∀ k, k < 4 → ∀ s, s < 2 → 0 ≤ kor (k : Nat) (s : Nat) ∧ kor (k : Nat) (s : Nat) ≤ 3 := by decide +kernel
theorem kor_or' {k s : Int} (hk : 0 ≤ k ∧ k ≤ 3) (hs : 0 ≤ s ∧ s ≤ 1) : (Int32.ofInt k ||| Int32.ofInt (2 ^ s.toNat)) = Int32.ofInt (kor k s) := by
  obtain ⟨a, rfl⟩ := Int.eq_ofNat_of_zero_le hk.1
  obtain ⟨b, rfl⟩ := Int.eq_ofNat_of_zero_le hs.1
  exact kor_or a (by omega) b (by omega)
theorem kor_b' {k s : Int} (hk : 0 ≤ k ∧ k ≤ 3) (hs : 0 ≤ s ∧ s ≤ 1) : 0 ≤ kor k s ∧ kor k s ≤ 3 := by
  obtain ⟨a, rfl⟩ := Int.eq_ofNat_of_zero_le hk.1
  obtain ⟨b, rfl⟩ := Int.eq_ofNat_of_zero_le hs.1
  exact kor_b a (by omega) b (by omega)
set_option maxRecDepth 100000 in
set_option maxHeartbeats 4000000 in
theorem kX6_keep (D : xD) (l : Launch) {n : Nat} {T : xT} {M : xM} (V : xM) (sf : Int) (hY : LayOK n T) (hV : shw M 1 V) (hv : VOK V) (hs : Srt V (V 10) (V 0 10).toNat) (hk : 0 ≤ M 0 7 ∧ M 0 7 ≤ 3) : xC D l uX6_keep 2 42 0 0 [xR 0, xI sf] n T M (xPI n T (fun z M2 => (¬ (0 ≤ sf ∧ sf ≤ 1) ∧ z = -1 ∧ M2 = M) ∨ ((0 ≤ sf ∧ sf ≤ 1) ∧ z = V 0 10 ∧ seqr (vw M2 (169 + 13 * sf.toNat)) V ∧ M2 0 7 = kor (M 0 7) sf ∧ ∀ q, q ≠ 0 → (q < 169 + 13 * sf.toNat ∨ 169 + 13 * sf.toNat + 13 ≤ q) → M2 q = M q))) := by
  refine x_met uX6_keep (by decide) (Nat.le_of_ble_eq_true rfl) ?_
  intro Γ G Rt _
  have G : xG Γ RX6 cX6_keep 2 2 42 0 0 := G
  have Rt : xRt Γ (xPI n T (fun z M2 => (¬ (0 ≤ sf ∧ sf ≤ 1) ∧ z = -1 ∧ M2 = M) ∨ ((0 ≤ sf ∧ sf ≤ 1) ∧ z = V 0 10 ∧ seqr (vw M2 (169 + 13 * sf.toNat)) V ∧ M2 0 7 = kor (M 0 7) sf ∧ ∀ q, q ≠ 0 → (q < 169 + 13 * sf.toNat ∨ 169 + 13 * sf.toNat + 13 ≤ q) → M2 q = M q))) (some .int) 0 0 := Rt
  show xX Γ 0 0 n T 0 [(0, xR 0), (1, xI sf)] [] M
  have hc := ok_c hv
  have hsc := hv.1
  refine x_iload_n G 1 rfl rfl dX6_keep_0 ?_
  refine x_callSp G [] [xI sf] hy_X6_isShelf ht_X6_isShelf ml_X6_181 rfl rfl (kX6_isShelf _ _ sf) (by decide) (by decide) (Nat.le_of_ble_eq_true rfl) dX6_keep_1 ?_
  refine x_if_ne G 9 (by decide) dX6_keep_4 (fun c4 => ?_) (fun c4 => ?_)
  · skip
    have c4 := b2i_ne0.mp c4
    refine x_aload_n G 0 rfl rfl dX6_keep_9 ?_
    refine x_get G (xR 161) xf6_3 lk_X6_30 (ly_n hY 0 (by decide)) (ly_k hY 0 (by decide)) (Or.inr ⟨rfl, _, (ly_r hY 0 3 (by decide) (by decide)), rfl⟩) dX6_keep_10 ?_
    refine x_iload_n G 1 rfl rfl dX6_keep_13 ?_
    refine x_aald G (b := (169 + 13 * sf.toNat)) (ly_n hY 161 (by decide)) (ly_k hY 161 (by decide)) (show _ = 2 from ly_l hY 161 (by decide)) (by omega) (by omega) (shelf_r hY (by omega)) dX6_keep_14 ?_
    refine x_aload_n G 0 rfl rfl dX6_keep_15 ?_
    refine x_get G (xR 1) xf6_0 lk_X6_10 (ly_n hY 0 (by decide)) (ly_k hY 0 (by decide)) (Or.inr ⟨rfl, _, (ly_r hY 0 0 (by decide) (by decide)), rfl⟩) dX6_keep_16 ?_
    refine x_callVV G [] [xR 1] rfl (by decide) (st_n (shelf_st hY (by omega)) 0 (by decide)) (st_k (shelf_st hY (by omega)) 0 (by decide)) hy_X3_copyFrom hi_X3_copyFrom hs_X3_copyFrom ml_X6_73 rfl rfl (kX3_copyFrom _ _ (169 + 13 * sf.toNat) 1 V (shelf_st hY (by omega)) (ly_st1 hY) (by omega) hV hv) (by decide) (by decide) (Nat.le_of_ble_eq_true rfl) dX6_keep_19 (fun M19 h19 => ?_)
    refine x_aload_n G 0 rfl rfl dX6_keep_22 ?_
    refine x_dup G rfl dX6_keep_23 ?_
    refine x_get G (xI (M19 0 7)) xf6_7 lk_X6_51 (ly_n hY 0 (by decide)) (ly_k hY 0 (by decide)) (Or.inl ⟨rfl, rfl⟩) dX6_keep_24 ?_
    rw [show M19 0 7 = (M 0 7) from (congrFun (h19.2 0 (by omega)) 7)]
    refine x_iconst G (by decide) dX6_keep_27 ?_
    refine x_iload_n G 1 rfl rfl dX6_keep_28 ?_
    refine x_ishl G (2 ^ sf.toNat) (x_shl1 (by omega) (by omega)) (by have := ipow_mono (show (1 : Int) ≤ 2 by decide) (show sf.toNat ≤ 1 by omega); have := ipow_pos (show (1 : Int) ≤ 2 by decide) sf.toNat; omega) dX6_keep_29 ?_
    refine x_ior G (kor (M 0 7) sf) (kor_or' hk (by omega)) (by have := kor_b' hk (show 0 ≤ sf ∧ sf ≤ 1 by omega); omega) dX6_keep_30 ?_
    refine x_put G  xf6_7 lk_X6_51 (ly_n hY 0 (by decide)) (ly_k hY 0 (by decide)) rfl dX6_keep_31 ?_
    refine x_aload_n G 0 rfl rfl dX6_keep_34 ?_
    refine x_get G (xR 1) xf6_0 lk_X6_10 (ly_n hY 0 (by decide)) (ly_k hY 0 (by decide)) (Or.inr ⟨rfl, _, (ly_r hY 0 0 (by decide) (by decide)), rfl⟩) dX6_keep_35 ?_
    refine x_get G (xI ((xst M19 0 7 (kor (M 0 7) sf)) 1 10)) xf3_10 lk_X6_83 (st_n (ly_st1 hY) 0 (by decide)) (st_k (ly_st1 hY) 0 (by decide)) (Or.inl ⟨rfl, rfl⟩) dX6_keep_38 ?_
    rw [show (xst M19 0 7 (kor (M 0 7) sf)) 1 10 = (V 0 10) from ((xst_nq (by omega)).trans ((congrFun (h19.2 1 (by omega)) 10).trans (congrFun (hV 0 (by decide) (by decide) (by decide)) 10)))]
    exact x_iret G Rt dX6_keep_41 ⟨rfl, rfl, _, rfl, Or.inr ⟨by omega, rfl, vw_cg (fun k hk9 => xst_row (by omega)) h19.1, by simp [xst_eq], fun q h1 h2 => by rw [xst_row h1]; exact h19.2 q h2⟩⟩
  · skip
    have c4 := b2i_eq0.mp c4
    refine x_iconst G (by decide) dX6_keep_7 ?_
    exact x_iret G Rt dX6_keep_8 ⟨rfl, rfl, _, rfl, Or.inl ⟨by omega, rfl, rfl⟩⟩
set_option maxRecDepth 100000 in
set_option maxHeartbeats 4000000 in
theorem kX6_back (D : xD) (l : Launch) {n : Nat} {T : xT} {M : xM} (V W : xM) (Hs : List xM) (sf : Int) (hY : LayOK n T) (hV : shw M 1 V) (hv : VOK V) (hs : Srt V (V 10) (V 0 10).toNat) (hH : Hst M Hs) (hk : 0 ≤ M 0 7 ∧ M 0 7 ≤ 3) (hW : (0 ≤ sf ∧ sf ≤ 1) → bit (M 0 7) sf → shw M (169 + 13 * sf.toNat) W ∧ VOK W ∧ Srt W (W 10) (W 0 10).toNat) : xC D l uX6_back 2 42 0 0 [xR 0, xI sf] n T M (xPI n T (fun z M2 => (¬ (0 ≤ sf ∧ sf ≤ 1) ∧ z = -1 ∧ M2 = M) ∨ ((0 ≤ sf ∧ sf ≤ 1) ∧ ¬ bit (M 0 7) sf ∧ z = -2 ∧ M2 = M) ∨ ((0 ≤ sf ∧ sf ≤ 1) ∧ bit (M 0 7) sf ∧ z = W 0 10 ∧ Fin1 M2 W [] ∧ afr M M2))) := by
  refine x_met uX6_back (by decide) (Nat.le_of_ble_eq_true rfl) ?_
  intro Γ G Rt _
  have G : xG Γ RX6 cX6_back 2 2 42 0 0 := G
  have Rt : xRt Γ (xPI n T (fun z M2 => (¬ (0 ≤ sf ∧ sf ≤ 1) ∧ z = -1 ∧ M2 = M) ∨ ((0 ≤ sf ∧ sf ≤ 1) ∧ ¬ bit (M 0 7) sf ∧ z = -2 ∧ M2 = M) ∨ ((0 ≤ sf ∧ sf ≤ 1) ∧ bit (M 0 7) sf ∧ z = W 0 10 ∧ Fin1 M2 W [] ∧ afr M M2))) (some .int) 0 0 := Rt
  show xX Γ 0 0 n T 0 [(0, xR 0), (1, xI sf)] [] M
  have hc := ok_c hv
  have hsc := hv.1
  have hH1 := hH.1
  refine x_iload_n G 1 rfl rfl dX6_back_0 ?_
  refine x_callSp G [] [xI sf] hy_X6_isShelf ht_X6_isShelf ml_X6_181 rfl rfl (kX6_isShelf _ _ sf) (by decide) (by decide) (Nat.le_of_ble_eq_true rfl) dX6_back_1 ?_
  refine x_if_ne G 9 (by decide) dX6_back_4 (fun c4 => ?_) (fun c4 => ?_)
  · skip
    have c4 := b2i_ne0.mp c4
    refine x_aload_n G 0 rfl rfl dX6_back_9 ?_
    refine x_iload_n G 1 rfl rfl dX6_back_10 ?_
    refine x_callVp G [] [xI sf] rfl (by decide) (ly_n hY 0 (by decide)) (ly_k hY 0 (by decide)) hy_X6_isKept hi_X6_isKept hs_X6_isKept ml_X6_184 rfl rfl (kX6_isKept _ _ sf hY hk (by omega)) (by decide) (by decide) (Nat.le_of_ble_eq_true rfl) dX6_back_11 ?_
    refine x_if_ne G 20 (by decide) dX6_back_14 (fun c14 => ?_) (fun c14 => ?_)
    · skip
      have c14 := b2i_ne0.mp c14
      obtain ⟨hWV, hWv, hWs⟩ := hW (by omega) c14
      skip
      refine x_aload_n G 0 rfl rfl dX6_back_20 ?_
      refine x_get G (xR 1) xf6_0 lk_X6_10 (ly_n hY 0 (by decide)) (ly_k hY 0 (by decide)) (Or.inr ⟨rfl, _, (ly_r hY 0 0 (by decide) (by decide)), rfl⟩) dX6_back_21 ?_
      refine x_aload_n G 0 rfl rfl dX6_back_24 ?_
      refine x_get G (xR 161) xf6_3 lk_X6_30 (ly_n hY 0 (by decide)) (ly_k hY 0 (by decide)) (Or.inr ⟨rfl, _, (ly_r hY 0 3 (by decide) (by decide)), rfl⟩) dX6_back_25 ?_
      refine x_iload_n G 1 rfl rfl dX6_back_28 ?_
      refine x_aald G (b := (169 + 13 * sf.toNat)) (ly_n hY 161 (by decide)) (ly_k hY 161 (by decide)) (show _ = 2 from ly_l hY 161 (by decide)) (by omega) (by omega) (shelf_r hY (by omega)) dX6_back_29 ?_
      refine x_callVV G [] [xR (169 + 13 * sf.toNat)] rfl (by decide) (st_n (ly_st1 hY) 0 (by decide)) (st_k (ly_st1 hY) 0 (by decide)) hy_X3_copyFrom hi_X3_copyFrom hs_X3_copyFrom ml_X6_73 rfl rfl (kX3_copyFrom _ _ 1 (169 + 13 * sf.toNat) W (ly_st1 hY) (shelf_st hY (by omega)) (by omega) hWV hWv) (by decide) (by decide) (Nat.le_of_ble_eq_true rfl) dX6_back_30 (fun M30 h30 => ?_)
      refine x_aload_n G 0 rfl rfl dX6_back_33 ?_
      refine x_get G (xR 14) xf6_1 lk_X6_19 (ly_n hY 0 (by decide)) (ly_k hY 0 (by decide)) (Or.inr ⟨rfl, _, (ly_r hY 0 1 (by decide) (by decide)), rfl⟩) dX6_back_34 ?_
      have hc2 := ok_c hWv
      refine x_callVV G [] [] rfl (by decide) (ly_n hY 14 (by decide)) (ly_k hY 14 (by decide)) hy_X0_clear hi_X0_clear hs_X0_clear ml_X6_80 rfl rfl (kX0_clear _ _ hY) (by decide) (by decide) (Nat.le_of_ble_eq_true rfl) dX6_back_37 (fun M37 h37 => ?_)
      have hfr := h30.2
      subst h37
      skip
      refine x_aload_n G 0 rfl rfl dX6_back_40 ?_
      refine x_get G (xR 1) xf6_0 lk_X6_10 (ly_n hY 0 (by decide)) (ly_k hY 0 (by decide)) (Or.inr ⟨rfl, _, (ly_r hY 0 0 (by decide) (by decide)), rfl⟩) dX6_back_41 ?_
      refine x_get G (xI ((xst M30 14 2 0) 1 10)) xf3_10 lk_X6_83 (st_n (ly_st1 hY) 0 (by decide)) (st_k (ly_st1 hY) 0 (by decide)) (Or.inl ⟨rfl, rfl⟩) dX6_back_44 ?_
      rw [show (xst M30 14 2 0) 1 10 = (M30 1 10) from (xst_nq (by omega))]
      exact x_iret G Rt dX6_back_47 ⟨rfl, rfl, _, rfl, Or.inr (Or.inr ⟨by omega, c14, by first | exact h30.1.1.1.1 | (rw [xst_nq (by omega)]; exact h30.1.1.1.1), ⟨(vw_cg (fun k hk9 => xst_row (by omega)) h30.1).1, srt_cg (R := W 10) (fun p hp => by rw [xst_row (by omega)]; exact h30.1.2 p (by omega)) hWs, ⟨by rw [xst_nq (by omega), h30.2 14 (by omega)]; exact hH1, by simp [xst_eq], by decide, fun j hj => absurd hj (Nat.not_lt_zero _)⟩⟩, fun q hq => by rw [xst_row (by omega)]; exact h30.2 q (by omega)⟩)⟩
    · skip
      have c14 := b2i_eq0.mp c14
      refine x_bipush G (by decide) dX6_back_17 ?_
      exact x_iret G Rt dX6_back_19 ⟨rfl, rfl, _, rfl, Or.inr (Or.inl ⟨by omega, c14, rfl, rfl⟩)⟩
  · skip
    have c4 := b2i_eq0.mp c4
    refine x_iconst G (by decide) dX6_back_7 ?_
    exact x_iret G Rt dX6_back_8 ⟨rfl, rfl, _, rfl, Or.inl ⟨by omega, rfl, rfl⟩⟩
