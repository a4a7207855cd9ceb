set_option maxRecDepth 100000 in
set_option maxHeartbeats 4000000 in
theorem kX7_order (D : xD) (l : Launch) {n : Nat} {T : xT} {M : xM} (V : xM) (i j : Int) (hY : LayOK n T) (hN : mrel (M 196) V) (hv : VOK V) (hs : Srt V (V 10) (V 0 10).toNat) (hR : Rk M V) : xC D l uX7_order 3 75 0 0 [xR 195, xI i, xI j] n T M (xPI n T (fun z M2 => z = qOrd V i j ∧ mfr M M2 ∧ Rk M2 V)) := by
  refine x_met uX7_order (by decide) (Nat.le_of_ble_eq_true rfl) ?_
  intro Γ G Rt _
  have G : xG Γ RX7 cX7_order 4 3 75 0 0 := G
  have Rt : xRt Γ (xPI n T (fun z M2 => z = qOrd V i j ∧ mfr M M2 ∧ Rk M2 V)) (some .int) 0 0 := Rt
  show xX Γ 0 0 n T 0 [(0, xR 195), (1, xI i), (2, xI j)] [] M
  have hc := ok_c hv
  refine x_aload_n G 0 rfl rfl dX7_order_0 ?_
  refine x_iload_n G 1 rfl rfl dX7_order_1 ?_
  refine x_callVp G [] [xI i] rfl (by decide) (ly_n hY 195 (by decide)) (ly_k hY 195 (by decide)) hy_X7_isItem hi_X7_isItem hs_X7_isItem ml_X7_66 rfl rfl (kX7_isItem _ _ V i hY hN hv) (by decide) (by decide) (Nat.le_of_ble_eq_true rfl) dX7_order_2 ?_
  refine x_if_eq G 16 (by decide) dX7_order_5 (fun c5 => ?_) (fun c5 => ?_)
  · skip
    have c5 := b2i_eq0.mp c5
    refine x_iconst G (by decide) dX7_order_16 ?_
    exact x_iret G Rt dX7_order_17 ⟨rfl, rfl, _, rfl, ⟨(by unfold qOrd; (repeat (first | rw [if_pos (by omega)] | rw [if_neg (by omega)])) <;> try rfl), (mfr_refl _), hR⟩⟩
  · skip
    have c5 := b2i_ne0.mp c5
    refine x_aload_n G 0 rfl rfl dX7_order_8 ?_
    refine x_iload_n G 2 rfl rfl dX7_order_9 ?_
    refine x_callVp G [] [xI j] rfl (by decide) (ly_n hY 195 (by decide)) (ly_k hY 195 (by decide)) hy_X7_isItem hi_X7_isItem hs_X7_isItem ml_X7_66 rfl rfl (kX7_isItem _ _ V j hY hN hv) (by decide) (by decide) (Nat.le_of_ble_eq_true rfl) dX7_order_10 ?_
    refine x_if_ne G 18 (by decide) dX7_order_13 (fun c13 => ?_) (fun c13 => ?_)
    · skip
      have c13 := b2i_ne0.mp c13
      have hit := ok_i hv (i := i) (by omega) (by omega)
      have hjt := ok_i hv (i := j) (by omega) (by omega)
      refine x_aload_n G 0 rfl rfl dX7_order_18 ?_
      refine x_aload_n G 0 rfl rfl dX7_order_19 ?_
      refine x_iload_n G 1 rfl rfl dX7_order_20 ?_
      refine x_iconst G (by decide) dX7_order_21 ?_
      refine x_callVp G [xR 195] [xI i, xI 3] rfl (by decide) (ly_n hY 195 (by decide)) (ly_k hY 195 (by decide)) hy_X7_item hi_X7_item hs_X7_item ml_X7_58 rfl rfl (kX7_item_3 _ _ V i hY hN hv (by omega)) (by decide) (by decide) (Nat.le_of_ble_eq_true rfl) dX7_order_22 ?_
      refine x_aload_n G 0 rfl rfl dX7_order_25 ?_
      refine x_iload_n G 1 rfl rfl dX7_order_26 ?_
      refine x_iconst G (by decide) dX7_order_27 ?_
      refine x_callVp G [xI (V 7 i.toNat), xR 195] [xI i, xI 2] rfl (by decide) (ly_n hY 195 (by decide)) (ly_k hY 195 (by decide)) hy_X7_item hi_X7_item hs_X7_item ml_X7_58 rfl rfl (kX7_item_2 _ _ V i hY hN hv (by omega)) (by decide) (by decide) (Nat.le_of_ble_eq_true rfl) dX7_order_28 ?_
      refine x_aload_n G 0 rfl rfl dX7_order_31 ?_
      refine x_iload_n G 2 rfl rfl dX7_order_32 ?_
      refine x_iconst G (by decide) dX7_order_33 ?_
      refine x_callVp G [xI (V 6 i.toNat), xI (V 7 i.toNat), xR 195] [xI j, xI 3] rfl (by decide) (ly_n hY 195 (by decide)) (ly_k hY 195 (by decide)) hy_X7_item hi_X7_item hs_X7_item ml_X7_58 rfl rfl (kX7_item_3 _ _ V j hY hN hv (by omega)) (by decide) (by decide) (Nat.le_of_ble_eq_true rfl) dX7_order_34 ?_
      refine x_aload_n G 0 rfl rfl dX7_order_37 ?_
      refine x_iload_n G 2 rfl rfl dX7_order_38 ?_
      refine x_iconst G (by decide) dX7_order_39 ?_
      refine x_callVp G [xI (V 7 j.toNat), xI (V 6 i.toNat), xI (V 7 i.toNat), xR 195] [xI j, xI 2] rfl (by decide) (ly_n hY 195 (by decide)) (ly_k hY 195 (by decide)) hy_X7_item hi_X7_item hs_X7_item ml_X7_58 rfl rfl (kX7_item_2 _ _ V j hY hN hv (by omega)) (by decide) (by decide) (Nat.le_of_ble_eq_true rfl) dX7_order_40 ?_
      refine x_callVI G [] [xI (V 7 i.toNat), xI (V 6 i.toNat), xI (V 7 j.toNat), xI (V 6 j.toNat)] rfl (by decide) (ly_n hY 195 (by decide)) (ly_k hY 195 (by decide)) hy_X7_comparedKeys hi_X7_comparedKeys hs_X7_comparedKeys ml_X7_86 rfl rfl (kX7_comparedKeys _ _ (V 7 i.toNat) (V 6 i.toNat) (V 7 j.toNat) (V 6 j.toNat) hY (by omega) (by omega) (by omega) (by omega)) (by decide) (by decide) (Nat.le_of_ble_eq_true rfl) dX7_order_43 (fun z43 M43 h43 => ?_)
      rw [h43.1]
      refine x_istore_n G [(3, xI (kc (V 7 i.toNat) (V 6 i.toNat) (V 7 j.toNat) (V 6 j.toNat))), (0, xR 195), (1, xI i), (2, xI j)] rfl (by decide) rfl dX7_order_46 ?_
      refine x_iload_n G 0 rfl rfl dX7_order_47 ?_
      refine x_if_ne G 55 (by decide) dX7_order_48 (fun c48 => ?_) (fun c48 => ?_)
      · skip
        refine x_iload_n G 0 rfl rfl dX7_order_55 ?_
        refine x_if_le G 63 (by decide) dX7_order_56 (fun c56 => ?_) (fun c56 => ?_)
        · skip
          refine x_iconst G (by decide) dX7_order_63 ?_
          exact x_iret G Rt dX7_order_64 ⟨rfl, rfl, _, rfl, ⟨(by unfold qOrd; (repeat (first | rw [if_pos (by omega)] | rw [if_neg (by omega)])) <;> try rfl), (mfr_of (mfr_refl _) h43.2 (by decide)), (rk_cg hR (congrFun (h43.2 195 (by simp)) 10) (h43.2 203 (by simp)))⟩⟩
        · skip
          refine x_iconst G (by decide) dX7_order_59 ?_
          refine x_goto G 64 (by decide) dX7_order_60 ?_
          exact x_iret G Rt dX7_order_64 ⟨rfl, rfl, _, rfl, ⟨(by unfold qOrd; (repeat (first | rw [if_pos (by omega)] | rw [if_neg (by omega)])) <;> try rfl), (mfr_of (mfr_refl _) h43.2 (by decide)), (rk_cg hR (congrFun (h43.2 195 (by simp)) 10) (h43.2 203 (by simp)))⟩⟩
      · skip
        refine x_iconst G (by decide) dX7_order_51 ?_
        refine x_goto G 64 (by decide) dX7_order_52 ?_
        exact x_iret G Rt dX7_order_64 ⟨rfl, rfl, _, rfl, ⟨(by unfold qOrd; (repeat (first | rw [if_pos (by omega)] | rw [if_neg (by omega)])) <;> try rfl), (mfr_of (mfr_refl _) h43.2 (by decide)), (rk_cg hR (congrFun (h43.2 195 (by simp)) 10) (h43.2 203 (by simp)))⟩⟩
    · skip
      have c13 := b2i_eq0.mp c13
      refine x_iconst G (by decide) dX7_order_16 ?_
      exact x_iret G Rt dX7_order_17 ⟨rfl, rfl, _, rfl, ⟨(by unfold qOrd; (repeat (first | rw [if_pos (by omega)] | rw [if_neg (by omega)])) <;> try rfl), (mfr_refl _), hR⟩⟩
theorem qpl_out {L : List Nat} {i : Nat} (h : i ∉ L) : qPl L i = -2 := by unfold qPl; rw [if_neg h]
theorem smL_no {V : xM} {sh : Int} {i : Nat} (h : ¬ V 9 i = 0) : i ∉ smL V sh := fun g => h (alL_mem.mp (List.mem_of_mem_take g)).2.2.1
theorem alN_no {V : xM} {sh : Int} {i : Nat} (h : ¬ V 9 i = 0) : i ∉ alN V sh := fun g => h (alL_mem.mp g).2.2.1
set_option maxRecDepth 100000 in
set_option maxHeartbeats 4000000 in
theorem kX7_of (D : xD) (l : Launch) {n : Nat} {T : xT} {M : xM} (V : xM) (i what : Int) (hY : LayOK n T) (hN : mrel (M 196) V) (hv : VOK V) (hs : Srt V (V 10) (V 0 10).toNat) (hR : Rk M V) : xC D l uX7_of 9 212 0 0 [xR 195, xI i, xI what] n T M (xPI n T (fun z M2 => z = qOf V i what ∧ mfr M M2 ∧ Rk M2 V)) := by
  refine x_met uX7_of (by decide) (Nat.le_of_ble_eq_true rfl) ?_
  intro Γ G Rt _
  have G : xG Γ RX7 cX7_of 3 9 212 0 0 := G
  have Rt : xRt Γ (xPI n T (fun z M2 => z = qOf V i what ∧ mfr M M2 ∧ Rk M2 V)) (some .int) 0 0 := Rt
  show xX Γ 0 0 n T 0 [(0, xR 195), (1, xI i), (2, xI what)] [] M
  have hc := ok_c hv
  refine x_aload_n G 0 rfl rfl dX7_of_0 ?_
  refine x_iload_n G 1 rfl rfl dX7_of_1 ?_
  refine x_callVp G [] [xI i] rfl (by decide) (ly_n hY 195 (by decide)) (ly_k hY 195 (by decide)) hy_X7_isItem hi_X7_isItem hs_X7_isItem ml_X7_66 rfl rfl (kX7_isItem _ _ V i hY hN hv) (by decide) (by decide) (Nat.le_of_ble_eq_true rfl) dX7_of_2 ?_
  refine x_if_ne G 10 (by decide) dX7_of_5 (fun c5 => ?_) (fun c5 => ?_)
  · skip
    have c5 := b2i_ne0.mp c5
    refine x_iload_n G 2 rfl rfl dX7_of_10 ?_
    have hit := ok_i hv (i := i) (by omega) (by omega)
    by_cases k11_0 : what = 0
    · refine x_tabIn G 56 (by omega) (by omega) (by rw [k11_0]; rfl) (by decide) dX7_of_11 ?_
      refine x_aload_n G 0 rfl rfl dX7_of_56 ?_
      refine x_iload_n G 1 rfl rfl dX7_of_57 ?_
      refine x_callVp G [] [xI i] rfl (by decide) (ly_n hY 195 (by decide)) (ly_k hY 195 (by decide)) hy_X7_shardOf hi_X7_shardOf hs_X7_shardOf ml_X7_62 rfl rfl (kX7_shardOf _ _ V i hY hN hv (by omega)) (by decide) (by decide) (Nat.le_of_ble_eq_true rfl) dX7_of_58 ?_
      refine x_iconst G (by decide) dX7_of_61 ?_
      refine x_irem G ((V 4 i.toNat + 4 * V 9 i.toNat) % 4) (x_nz (by decide) (by decide)) (x_rem' (by omega) ⟨by omega, by omega⟩ (by decide) (by decide)) (by omega) dX7_of_62 ?_
      exact x_iret G Rt dX7_of_63 ⟨rfl, rfl, _, rfl, ⟨(by unfold qOf; rw [if_pos c5, if_pos k11_0]; omega), (mfr_refl _), hR⟩⟩
    by_cases k11_1 : what = 1
    · refine x_tabIn G 64 (by omega) (by omega) (by rw [k11_1]; rfl) (by decide) dX7_of_11 ?_
      refine x_aload_n G 0 rfl rfl dX7_of_64 ?_
      refine x_iload_n G 1 rfl rfl dX7_of_65 ?_
      refine x_iload_n G 2 rfl rfl dX7_of_66 ?_
      refine x_callVp G [] [xI i, xI what] rfl (by decide) (ly_n hY 195 (by decide)) (ly_k hY 195 (by decide)) hy_X7_item hi_X7_item hs_X7_item ml_X7_58 rfl rfl (kX7_item _ _ V i what hY hN hv (by omega) (by omega)) (by decide) (by decide) (Nat.le_of_ble_eq_true rfl) dX7_of_67 ?_
      exact x_iret G Rt dX7_of_70 ⟨rfl, rfl, _, rfl, ⟨(by unfold qOf; rw [if_pos c5]; rw [if_neg (by omega)]; rw [if_pos k11_1, k11_1]; rfl), (mfr_refl _), hR⟩⟩
    by_cases k11_2 : what = 2
    · refine x_tabIn G 64 (by omega) (by omega) (by rw [k11_2]; rfl) (by decide) dX7_of_11 ?_
      refine x_aload_n G 0 rfl rfl dX7_of_64 ?_
      refine x_iload_n G 1 rfl rfl dX7_of_65 ?_
      refine x_iload_n G 2 rfl rfl dX7_of_66 ?_
      refine x_callVp G [] [xI i, xI what] rfl (by decide) (ly_n hY 195 (by decide)) (ly_k hY 195 (by decide)) hy_X7_item hi_X7_item hs_X7_item ml_X7_58 rfl rfl (kX7_item _ _ V i what hY hN hv (by omega) (by omega)) (by decide) (by decide) (Nat.le_of_ble_eq_true rfl) dX7_of_67 ?_
      exact x_iret G Rt dX7_of_70 ⟨rfl, rfl, _, rfl, ⟨(by unfold qOf; rw [if_pos c5]; rw [if_neg (by omega)]; rw [if_neg (by omega)]; rw [if_pos k11_2, k11_2]; rfl), (mfr_refl _), hR⟩⟩
    by_cases k11_3 : what = 3
    · refine x_tabIn G 64 (by omega) (by omega) (by rw [k11_3]; rfl) (by decide) dX7_of_11 ?_
      refine x_aload_n G 0 rfl rfl dX7_of_64 ?_
      refine x_iload_n G 1 rfl rfl dX7_of_65 ?_
      refine x_iload_n G 2 rfl rfl dX7_of_66 ?_
      refine x_callVp G [] [xI i, xI what] rfl (by decide) (ly_n hY 195 (by decide)) (ly_k hY 195 (by decide)) hy_X7_item hi_X7_item hs_X7_item ml_X7_58 rfl rfl (kX7_item _ _ V i what hY hN hv (by omega) (by omega)) (by decide) (by decide) (Nat.le_of_ble_eq_true rfl) dX7_of_67 ?_
      exact x_iret G Rt dX7_of_70 ⟨rfl, rfl, _, rfl, ⟨(by unfold qOf; rw [if_pos c5]; rw [if_neg (by omega)]; rw [if_neg (by omega)]; rw [if_neg (by omega)]; rw [if_pos k11_3, k11_3]; rfl), (mfr_refl _), hR⟩⟩
    by_cases k11_4 : what = 4
    · refine x_tabIn G 64 (by omega) (by omega) (by rw [k11_4]; rfl) (by decide) dX7_of_11 ?_
      refine x_aload_n G 0 rfl rfl dX7_of_64 ?_
      refine x_iload_n G 1 rfl rfl dX7_of_65 ?_
      refine x_iload_n G 2 rfl rfl dX7_of_66 ?_
      refine x_callVp G [] [xI i, xI what] rfl (by decide) (ly_n hY 195 (by decide)) (ly_k hY 195 (by decide)) hy_X7_item hi_X7_item hs_X7_item ml_X7_58 rfl rfl (kX7_item _ _ V i what hY hN hv (by omega) (by omega)) (by decide) (by decide) (Nat.le_of_ble_eq_true rfl) dX7_of_67 ?_
      exact x_iret G Rt dX7_of_70 ⟨rfl, rfl, _, rfl, ⟨(by unfold qOf; rw [if_pos c5]; rw [if_neg (by omega)]; rw [if_neg (by omega)]; rw [if_neg (by omega)]; rw [if_neg (by omega)]; rw [if_pos k11_4, k11_4]; rfl), (mfr_refl _), hR⟩⟩
    by_cases k11_5 : what = 5
    · refine x_tabIn G 71 (by omega) (by omega) (by rw [k11_5]; rfl) (by decide) dX7_of_11 ?_
      refine x_aload_n G 0 rfl rfl dX7_of_71 ?_
      refine x_iload_n G 1 rfl rfl dX7_of_72 ?_
      refine x_callVp G [] [xI i] rfl (by decide) (ly_n hY 195 (by decide)) (ly_k hY 195 (by decide)) hy_X7_isDropped hi_X7_isDropped hs_X7_isDropped ml_X7_70 rfl rfl (kX7_isDropped _ _ V i hY hN hv (by omega)) (by decide) (by decide) (Nat.le_of_ble_eq_true rfl) dX7_of_73 ?_
      refine x_if_eq G 83 (by decide) dX7_of_76 (fun c76 => ?_) (fun c76 => ?_)
      · skip
        have c76 := b2i_eq0.mp c76
        refine x_aload_n G 0 rfl rfl dX7_of_83 ?_
        refine x_iload_n G 1 rfl rfl dX7_of_84 ?_
        refine x_callVp G [] [xI i] rfl (by decide) (ly_n hY 195 (by decide)) (ly_k hY 195 (by decide)) hy_X7_isAlive hi_X7_isAlive hs_X7_isAlive ml_X7_134 rfl rfl (kX7_isAlive _ _ V i hY hN hv (by omega)) (by decide) (by decide) (Nat.le_of_ble_eq_true rfl) dX7_of_85 ?_
        refine x_if_eq G 95 (by decide) dX7_of_88 (fun c88 => ?_) (fun c88 => ?_)
        · skip
          have c88 := b2i_eq0.mp c88
          refine x_iconst G (by decide) dX7_of_95 ?_
          exact x_iret G Rt dX7_of_96 ⟨rfl, rfl, _, rfl, ⟨(by unfold qOf qLife; rw [if_pos c5]; (repeat (first | rw [if_pos (by omega)] | rw [if_neg (by omega)] | rw [if_pos c88] | rw [if_neg c88])) <;> try rfl), (mfr_refl _), hR⟩⟩
        · skip
          have c88 := b2i_ne0.mp c88
          refine x_iconst G (by decide) dX7_of_91 ?_
          refine x_goto G 96 (by decide) dX7_of_92 ?_
          exact x_iret G Rt dX7_of_96 ⟨rfl, rfl, _, rfl, ⟨(by unfold qOf qLife; rw [if_pos c5]; (repeat (first | rw [if_pos (by omega)] | rw [if_neg (by omega)] | rw [if_pos c88] | rw [if_neg c88])) <;> try rfl), (mfr_refl _), hR⟩⟩
      · skip
        have c76 := b2i_ne0.mp c76
        refine x_iconst G (by decide) dX7_of_79 ?_
        refine x_goto G 96 (by decide) dX7_of_80 ?_
        exact x_iret G Rt dX7_of_96 ⟨rfl, rfl, _, rfl, ⟨(by unfold qOf qLife; rw [if_pos c5]; (repeat (first | rw [if_pos (by omega)] | rw [if_neg (by omega)] | rw [if_pos c88] | rw [if_neg c88])) <;> try rfl), (mfr_refl _), hR⟩⟩
    by_cases k11_6 : what = 6
    · refine x_tabIn G 97 (by omega) (by omega) (by rw [k11_6]; rfl) (by decide) dX7_of_11 ?_
      refine x_aload_n G 0 rfl rfl dX7_of_97 ?_
      refine x_iload_n G 1 rfl rfl dX7_of_98 ?_
      refine x_callVp G [] [xI i] rfl (by decide) (ly_n hY 195 (by decide)) (ly_k hY 195 (by decide)) hy_X7_isDropped hi_X7_isDropped hs_X7_isDropped ml_X7_70 rfl rfl (kX7_isDropped _ _ V i hY hN hv (by omega)) (by decide) (by decide) (Nat.le_of_ble_eq_true rfl) dX7_of_99 ?_
      refine x_if_eq G 108 (by decide) dX7_of_102 (fun c102 => ?_) (fun c102 => ?_)
      · skip
        have c102 := b2i_eq0.mp c102
        refine x_iload_n G 2 rfl rfl dX7_of_108 ?_
        refine x_bipush G (by decide) dX7_of_109 ?_
        refine x_icmp_ne G 126 (by decide) dX7_of_111 (fun c111 => ?_) (fun c111 => ?_)
        · skip
          refine x_aload_n G 0 rfl rfl dX7_of_126 ?_
          refine x_aload_n G 0 rfl rfl dX7_of_127 ?_
          refine x_iload_n G 1 rfl rfl dX7_of_128 ?_
          refine x_callVp G [xR 195] [xI i] rfl (by decide) (ly_n hY 195 (by decide)) (ly_k hY 195 (by decide)) hy_X7_shardOf hi_X7_shardOf hs_X7_shardOf ml_X7_62 rfl rfl (kX7_shardOf_u _ _ V i hY hN hv (by omega) (show V 9 i.toNat = 0 by omega)) (by decide) (by decide) (Nat.le_of_ble_eq_true rfl) dX7_of_129 ?_
          refine x_callVV G [] [xI (V 4 i.toNat)] rfl (by decide) (ly_n hY 195 (by decide)) (ly_k hY 195 (by decide)) hy_X7_laysAlive hi_X7_laysAlive hs_X7_laysAlive ml_X7_128 rfl rfl (kX7_laysAlive _ _ V (V 4 i.toNat) hY hN hv hs hR (by omega)) (by decide) (by decide) (Nat.le_of_ble_eq_true rfl) dX7_of_132 (fun M132 h132 => ?_)
          have hn132 := h132.1.1
          have hl132 : (alN V (V 4 i.toNat)).length ≤ 100 := alL_len hv _ _ _ _
          refine x_aload_n G 0 rfl rfl dX7_of_135 ?_
          refine x_iload_n G 1 rfl rfl dX7_of_136 ?_
          refine x_callVp G [] [xI i] rfl (by decide) (ly_n hY 195 (by decide)) (ly_k hY 195 (by decide)) hy_X7_placeOf hi_X7_placeOf hs_X7_placeOf ml_X7_140 rfl rfl (kX7_placeOf _ _ (alN V (V 4 i.toNat)) i hY h132.1 hl132 (by omega)) (by decide) (by decide) (Nat.le_of_ble_eq_true rfl) dX7_of_137 ?_
          exact x_iret G Rt dX7_of_140 ⟨rfl, rfl, _, rfl, ⟨(by first | (exfalso; omega) | unfold qOf; (repeat (first | rw [if_pos (by omega)] | rw [if_neg (by omega)])) <;> try rfl), (mfr_tr (mfr_refl _) (mfx_w 207 h132.2.1 (by decide))), h132.2.2⟩⟩
        · skip
          refine x_aload_n G 0 rfl rfl dX7_of_114 ?_
          refine x_aload_n G 0 rfl rfl dX7_of_115 ?_
          refine x_iload_n G 1 rfl rfl dX7_of_116 ?_
          refine x_callVp G [xR 195] [xI i] rfl (by decide) (ly_n hY 195 (by decide)) (ly_k hY 195 (by decide)) hy_X7_shardOf hi_X7_shardOf hs_X7_shardOf ml_X7_62 rfl rfl (kX7_shardOf_u _ _ V i hY hN hv (by omega) (show V 9 i.toNat = 0 by omega)) (by decide) (by decide) (Nat.le_of_ble_eq_true rfl) dX7_of_117 ?_
          refine x_callVV G [] [xI (V 4 i.toNat)] rfl (by decide) (ly_n hY 195 (by decide)) (ly_k hY 195 (by decide)) hy_X7_laysSample hi_X7_laysSample hs_X7_laysSample ml_X7_137 rfl rfl (kX7_laysSample _ _ V (V 4 i.toNat) hY hN hv hs hR (by omega)) (by decide) (by decide) (Nat.le_of_ble_eq_true rfl) dX7_of_120 (fun M120 h120 => ?_)
          have hn120 := h120.1.1
          have hl120 : (smL V (V 4 i.toNat)).length ≤ 100 := take_len (alL_len hv _ _ _ _)
          refine x_goto G 135 (by decide) dX7_of_123 ?_
          refine x_aload_n G 0 rfl rfl dX7_of_135 ?_
          refine x_iload_n G 1 rfl rfl dX7_of_136 ?_
          refine x_callVp G [] [xI i] rfl (by decide) (ly_n hY 195 (by decide)) (ly_k hY 195 (by decide)) hy_X7_placeOf hi_X7_placeOf hs_X7_placeOf ml_X7_140 rfl rfl (kX7_placeOf _ _ (smL V (V 4 i.toNat)) i hY h120.1 hl120 (by omega)) (by decide) (by decide) (Nat.le_of_ble_eq_true rfl) dX7_of_137 ?_
          exact x_iret G Rt dX7_of_140 ⟨rfl, rfl, _, rfl, ⟨(by first | (exfalso; omega) | unfold qOf; (repeat (first | rw [if_pos (by omega)] | rw [if_neg (by omega)])) <;> try rfl), (mfr_tr (mfr_refl _) (mfx_w 207 h120.2.1 (by decide))), h120.2.2⟩⟩
      · skip
        have c102 := b2i_ne0.mp c102
        refine x_bipush G (by decide) dX7_of_105 ?_
        exact x_iret G Rt dX7_of_107 ⟨rfl, rfl, _, rfl, ⟨(by unfold qOf; rw [if_pos c5]; (repeat (first | rw [if_pos (by omega)] | rw [if_neg (by omega)])); exact (qpl_out (by first | exact smL_no c102 | exact alN_no c102)).symm), (mfr_refl _), hR⟩⟩
    by_cases k11_7 : what = 7
    · refine x_tabIn G 97 (by omega) (by omega) (by rw [k11_7]; rfl) (by decide) dX7_of_11 ?_
      refine x_aload_n G 0 rfl rfl dX7_of_97 ?_
      refine x_iload_n G 1 rfl rfl dX7_of_98 ?_
      refine x_callVp G [] [xI i] rfl (by decide) (ly_n hY 195 (by decide)) (ly_k hY 195 (by decide)) hy_X7_isDropped hi_X7_isDropped hs_X7_isDropped ml_X7_70 rfl rfl (kX7_isDropped _ _ V i hY hN hv (by omega)) (by decide) (by decide) (Nat.le_of_ble_eq_true rfl) dX7_of_99 ?_
      refine x_if_eq G 108 (by decide) dX7_of_102 (fun c102 => ?_) (fun c102 => ?_)
      · skip
        have c102 := b2i_eq0.mp c102
        refine x_iload_n G 2 rfl rfl dX7_of_108 ?_
        refine x_bipush G (by decide) dX7_of_109 ?_
        refine x_icmp_ne G 126 (by decide) dX7_of_111 (fun c111 => ?_) (fun c111 => ?_)
        · skip
          refine x_aload_n G 0 rfl rfl dX7_of_126 ?_
          refine x_aload_n G 0 rfl rfl dX7_of_127 ?_
          refine x_iload_n G 1 rfl rfl dX7_of_128 ?_
          refine x_callVp G [xR 195] [xI i] rfl (by decide) (ly_n hY 195 (by decide)) (ly_k hY 195 (by decide)) hy_X7_shardOf hi_X7_shardOf hs_X7_shardOf ml_X7_62 rfl rfl (kX7_shardOf_u _ _ V i hY hN hv (by omega) (show V 9 i.toNat = 0 by omega)) (by decide) (by decide) (Nat.le_of_ble_eq_true rfl) dX7_of_129 ?_
          refine x_callVV G [] [xI (V 4 i.toNat)] rfl (by decide) (ly_n hY 195 (by decide)) (ly_k hY 195 (by decide)) hy_X7_laysAlive hi_X7_laysAlive hs_X7_laysAlive ml_X7_128 rfl rfl (kX7_laysAlive _ _ V (V 4 i.toNat) hY hN hv hs hR (by omega)) (by decide) (by decide) (Nat.le_of_ble_eq_true rfl) dX7_of_132 (fun M132 h132 => ?_)
          have hn132 := h132.1.1
          have hl132 : (alN V (V 4 i.toNat)).length ≤ 100 := alL_len hv _ _ _ _
          refine x_aload_n G 0 rfl rfl dX7_of_135 ?_
          refine x_iload_n G 1 rfl rfl dX7_of_136 ?_
          refine x_callVp G [] [xI i] rfl (by decide) (ly_n hY 195 (by decide)) (ly_k hY 195 (by decide)) hy_X7_placeOf hi_X7_placeOf hs_X7_placeOf ml_X7_140 rfl rfl (kX7_placeOf _ _ (alN V (V 4 i.toNat)) i hY h132.1 hl132 (by omega)) (by decide) (by decide) (Nat.le_of_ble_eq_true rfl) dX7_of_137 ?_
          exact x_iret G Rt dX7_of_140 ⟨rfl, rfl, _, rfl, ⟨(by first | (exfalso; omega) | unfold qOf; (repeat (first | rw [if_pos (by omega)] | rw [if_neg (by omega)])) <;> try rfl), (mfr_tr (mfr_refl _) (mfx_w 207 h132.2.1 (by decide))), h132.2.2⟩⟩
        · skip
          refine x_aload_n G 0 rfl rfl dX7_of_114 ?_
          refine x_aload_n G 0 rfl rfl dX7_of_115 ?_
          refine x_iload_n G 1 rfl rfl dX7_of_116 ?_
          refine x_callVp G [xR 195] [xI i] rfl (by decide) (ly_n hY 195 (by decide)) (ly_k hY 195 (by decide)) hy_X7_shardOf hi_X7_shardOf hs_X7_shardOf ml_X7_62 rfl rfl (kX7_shardOf_u _ _ V i hY hN hv (by omega) (show V 9 i.toNat = 0 by omega)) (by decide) (by decide) (Nat.le_of_ble_eq_true rfl) dX7_of_117 ?_
          refine x_callVV G [] [xI (V 4 i.toNat)] rfl (by decide) (ly_n hY 195 (by decide)) (ly_k hY 195 (by decide)) hy_X7_laysSample hi_X7_laysSample hs_X7_laysSample ml_X7_137 rfl rfl (kX7_laysSample _ _ V (V 4 i.toNat) hY hN hv hs hR (by omega)) (by decide) (by decide) (Nat.le_of_ble_eq_true rfl) dX7_of_120 (fun M120 h120 => ?_)
          have hn120 := h120.1.1
          have hl120 : (smL V (V 4 i.toNat)).length ≤ 100 := take_len (alL_len hv _ _ _ _)
          refine x_goto G 135 (by decide) dX7_of_123 ?_
          refine x_aload_n G 0 rfl rfl dX7_of_135 ?_
          refine x_iload_n G 1 rfl rfl dX7_of_136 ?_
          refine x_callVp G [] [xI i] rfl (by decide) (ly_n hY 195 (by decide)) (ly_k hY 195 (by decide)) hy_X7_placeOf hi_X7_placeOf hs_X7_placeOf ml_X7_140 rfl rfl (kX7_placeOf _ _ (smL V (V 4 i.toNat)) i hY h120.1 hl120 (by omega)) (by decide) (by decide) (Nat.le_of_ble_eq_true rfl) dX7_of_137 ?_
          exact x_iret G Rt dX7_of_140 ⟨rfl, rfl, _, rfl, ⟨(by first | (exfalso; omega) | unfold qOf; (repeat (first | rw [if_pos (by omega)] | rw [if_neg (by omega)])) <;> try rfl), (mfr_tr (mfr_refl _) (mfx_w 207 h120.2.1 (by decide))), h120.2.2⟩⟩
      · skip
        have c102 := b2i_ne0.mp c102
        refine x_bipush G (by decide) dX7_of_105 ?_
        exact x_iret G Rt dX7_of_107 ⟨rfl, rfl, _, rfl, ⟨(by unfold qOf; rw [if_pos c5]; (repeat (first | rw [if_pos (by omega)] | rw [if_neg (by omega)])); exact (qpl_out (by first | exact smL_no c102 | exact alN_no c102)).symm), (mfr_refl _), hR⟩⟩
    refine x_tabOut G 141 (by omega) (by decide) dX7_of_11 ?_
    refine x_iconst G (by decide) dX7_of_141 ?_
    exact x_iret G Rt dX7_of_142 ⟨rfl, rfl, _, rfl, ⟨(by unfold qOf; (repeat (first | rw [if_pos (by omega)] | rw [if_neg (by omega)])) <;> try rfl), (mfr_refl _), hR⟩⟩
  · skip
    have c5 := b2i_eq0.mp c5
    refine x_iconst G (by decide) dX7_of_8 ?_
    exact x_iret G Rt dX7_of_9 ⟨rfl, rfl, _, rfl, ⟨(by unfold qOf; (repeat (first | rw [if_pos (by omega)] | rw [if_neg (by omega)])) <;> try rfl), (mfr_refl _), hR⟩⟩
set_option maxRecDepth 100000 in
set_option maxHeartbeats 4000000 in
theorem kX7_sample (D : xD) (l : Launch) {n : Nat} {T : xT} {M : xM} (V : xM) (sh k : Int) (hY : LayOK n T) (hN : mrel (M 196) V) (hv : VOK V) (hs : Srt V (V 10) (V 0 10).toNat) (hR : Rk M V) : xC D l uX7_sample 9 212 0 0 [xR 195, xI sh, xI k] n T M (xPI n T (fun z M2 => z = qSample V sh k ∧ mfr M M2 ∧ Rk M2 V)) := by
  refine x_met uX7_sample (by decide) (Nat.le_of_ble_eq_true rfl) ?_
  intro Γ G Rt _
  have G : xG Γ RX7 cX7_sample 3 9 212 0 0 := G
  have Rt : xRt Γ (xPI n T (fun z M2 => z = qSample V sh k ∧ mfr M M2 ∧ Rk M2 V)) (some .int) 0 0 := Rt
  show xX Γ 0 0 n T 0 [(0, xR 195), (1, xI sh), (2, xI k)] [] M
  have hc := ok_c hv
  refine x_iload_n G 1 rfl rfl dX7_sample_0 ?_
  refine x_callSp G [] [xI sh] hy_X7_isShard ht_X7_isShard ml_X7_143 rfl rfl (kX7_isShard _ _ sh) (by decide) (by decide) (Nat.le_of_ble_eq_true rfl) dX7_sample_1 ?_
  refine x_if_eq G 12 (by decide) dX7_sample_4 (fun c4 => ?_) (fun c4 => ?_)
  · skip
    have c4 := b2i_eq0.mp c4
    refine x_iconst G (by decide) dX7_sample_12 ?_
    exact x_iret G Rt dX7_sample_13 ⟨rfl, rfl, _, rfl, ⟨(by unfold qSample; (repeat (first | rw [if_pos (by omega)] | rw [if_neg (by omega)])) <;> try rfl), (mfr_refl _), hR⟩⟩
  · skip
    have c4 := b2i_ne0.mp c4
    refine x_iload_n G 2 rfl rfl dX7_sample_7 ?_
    refine x_iconst G (by decide) dX7_sample_8 ?_
    refine x_icmp_ge G 14 (by decide) dX7_sample_9 (fun c9 => ?_) (fun c9 => ?_)
    · skip
      refine x_aload_n G 0 rfl rfl dX7_sample_14 ?_
      refine x_iload_n G 1 rfl rfl dX7_sample_15 ?_
      refine x_callVV G [] [xI sh] rfl (by decide) (ly_n hY 195 (by decide)) (ly_k hY 195 (by decide)) hy_X7_laysSample hi_X7_laysSample hs_X7_laysSample ml_X7_137 rfl rfl (kX7_laysSample _ _ V sh hY hN hv hs hR (by omega)) (by decide) (by decide) (Nat.le_of_ble_eq_true rfl) dX7_sample_16 (fun M16 h16 => ?_)
      have hn16 := h16.1.1
      have hl16 : (smL V sh).length ≤ 100 := take_len (alL_len hv _ _ _ _)
      refine x_aload_n G 0 rfl rfl dX7_sample_19 ?_
      refine x_iload_n G 2 rfl rfl dX7_sample_20 ?_
      refine x_callVp G [] [xI k] rfl (by decide) (ly_n hY 195 (by decide)) (ly_k hY 195 (by decide)) hy_X7_toldOf hi_X7_toldOf hs_X7_toldOf ml_X7_146 rfl rfl (kX7_toldOf _ _ (smL V sh) k hY h16.1 hl16 (by omega)) (by decide) (by decide) (Nat.le_of_ble_eq_true rfl) dX7_sample_21 ?_
      exact x_iret G Rt dX7_sample_24 ⟨rfl, rfl, _, rfl, ⟨(by unfold qSample; (repeat (first | rw [if_pos (by omega)] | rw [if_neg (by omega)])) <;> try rfl), (mfr_tr (mfr_refl _) (mfx_w 207 h16.2.1 (by decide))), h16.2.2⟩⟩
    · skip
      refine x_iconst G (by decide) dX7_sample_12 ?_
      exact x_iret G Rt dX7_sample_13 ⟨rfl, rfl, _, rfl, ⟨(by unfold qSample; (repeat (first | rw [if_pos (by omega)] | rw [if_neg (by omega)])) <;> try rfl), (mfr_refl _), hR⟩⟩
set_option maxRecDepth 100000 in
set_option maxHeartbeats 4000000 in
theorem kX7_laysMerged (D : xD) (l : Launch) {n : Nat} {T : xT} {M : xM} (V : xM) (set mo : Int) (hY : LayOK n T) (hN : mrel (M 196) V) (hv : VOK V) (hs : Srt V (V 10) (V 0 10).toNat) (hR : Rk M V) : xC D l uX7_laysMerged 6 144 0 0 [xR 195, xI set, xI mo] n T M (xPI n T (fun z M2 => (z = b2i (okMe set mo) ∧ (okMe set mo → Rw M2 (meL V set mo))) ∧ mfx 204 M M2 ∧ Rk M2 V)) := by
  refine x_met uX7_laysMerged (by decide) (Nat.le_of_ble_eq_true rfl) ?_
  intro Γ G Rt _
  have G : xG Γ RX7 cX7_laysMerged 5 6 144 0 0 := G
  have Rt : xRt Γ (xPI n T (fun z M2 => (z = b2i (okMe set mo) ∧ (okMe set mo → Rw M2 (meL V set mo))) ∧ mfx 204 M M2 ∧ Rk M2 V)) (some .boolean) 0 0 := Rt
  show xX Γ 0 0 n T 0 [(0, xR 195), (1, xI set), (2, xI mo)] [] M
  have hc := ok_c hv
  refine x_iload_n G 1 rfl rfl dX7_laysMerged_0 ?_
  refine x_i2l G dX7_laysMerged_1 ?_
  refine x_lconst G dX7_laysMerged_2 ?_
  show xX Γ 0 0 n T 3 [(0, xR 195), (1, xI set), (2, xI mo)] [xL 1, xL set] M
  refine x_ldc2 G (z := 15) (by decide) kc_X7_149 dX7_laysMerged_3 ?_
  refine x_callSp G [] [xL set, xL 1, xL 15] hy_X7_in ht_X7_in ml_X7_54 rfl rfl (kX7_in _ _ set 1 15) (by decide) (by decide) (Nat.le_of_ble_eq_true rfl) dX7_laysMerged_6 ?_
  refine x_if_eq G 24 (by decide) dX7_laysMerged_9 (fun c9 => ?_) (fun c9 => ?_)
  · skip
    have c9 := b2i_eq0.mp c9
    refine x_iconst G (by decide) dX7_laysMerged_24 ?_
    exact x_zret G (by omega) Rt dX7_laysMerged_25 ⟨rfl, rfl, _, rfl, ⟨⟨(b2i_f (by omega)).symm, fun h => by omega⟩, (mfr_refl _), hR⟩⟩
  · skip
    have c9 := b2i_ne0.mp c9
    refine x_iload_n G 2 rfl rfl dX7_laysMerged_12 ?_
    refine x_i2l G dX7_laysMerged_13 ?_
    refine x_lconst G dX7_laysMerged_14 ?_
    show xX Γ 0 0 n T 15 [(0, xR 195), (1, xI set), (2, xI mo)] [xL 1, xL mo] M
    refine x_ldc2 G (z := 24) (by decide) kc_X7_151 dX7_laysMerged_15 ?_
    refine x_callSp G [] [xL mo, xL 1, xL 24] hy_X7_in ht_X7_in ml_X7_54 rfl rfl (kX7_in _ _ mo 1 24) (by decide) (by decide) (Nat.le_of_ble_eq_true rfl) dX7_laysMerged_18 ?_
    refine x_if_ne G 26 (by decide) dX7_laysMerged_21 (fun c21 => ?_) (fun c21 => ?_)
    · skip
      have c21 := b2i_ne0.mp c21
      refine x_aload_n G 0 rfl rfl dX7_laysMerged_26 ?_
      refine x_callVV G [] [] rfl (by decide) (ly_n hY 195 (by decide)) (ly_k hY 195 (by decide)) hy_X7_ranks hi_X7_ranks hs_X7_ranks ml_X7_115 rfl rfl (kX7_ranks _ _ V hY hN hv hs hR) (by decide) (by decide) (Nat.le_of_ble_eq_true rfl) dX7_laysMerged_27 (fun M27 h27 => ?_)
      refine x_aload_n G 0 rfl rfl dX7_laysMerged_30 ?_
      refine x_callVV G [] [] rfl (by decide) (ly_n hY 195 (by decide)) (ly_k hY 195 (by decide)) hy_X7_begins_ hi_X7_begins_ hs_X7_begins_ ml_X7_118 rfl rfl (kX7_begins_ _ _ hY) (by decide) (by decide) (Nat.le_of_ble_eq_true rfl) dX7_laysMerged_31 (fun M31 h31 => ?_)
      subst h31
      show xX Γ 0 0 n T 34 [(0, xR 195), (1, xI set), (2, xI mo)] [] (xst M27 195 8 0)
      refine x_iconst G (by decide) dX7_laysMerged_34 ?_
      refine x_istore_n G [(3, xI 0), (0, xR 195), (1, xI set), (2, xI mo)] rfl (by decide) rfl dX7_laysMerged_35 ?_
      have loop36 : ∀ (d : Nat) (k : Int) (N1 : xM), (V 0 10 - k).toNat = d → (0 ≤ k ∧ k ≤ V 0 10) → (mfx 204 M N1) → (Rk N1 V) → (∀ p : Nat, (p : Int) < V 0 10 → N1 203 p = V 10 p) → (Rw N1 (((rkl V).take k.toNat).filter fun i : Nat => decide (bit set (V 4 i) ∧ alv V i (V 0 11)))) → xX Γ 0 0 n T 36 [(0, xR 195), (1, xI set), (2, xI mo), (3, xI k)] [] N1 := by
        intro d
        induction d using Nat.strongRecOn with
        | ind d ih36 =>
        intro k N1 hd36 hk hf1 hR1 hrk hw1
        skip
        have hfl := ft_len (V := V) (fun i : Nat => bit set (V 4 i) ∧ alv V i (V 0 11)) k.toNat
        refine x_iload_n G 3 rfl rfl dX7_laysMerged_36 ?_
        refine x_aload_n G 0 rfl rfl dX7_laysMerged_37 ?_
        refine x_get G (xR 196) xf7_0 lk_X7_7 (ly_n hY 195 (by decide)) (ly_k hY 195 (by decide)) (Or.inr ⟨rfl, _, (ly_r hY 195 0 (by decide) (by decide)), rfl⟩) dX7_laysMerged_38 ?_
        refine x_iconst G (by decide) dX7_laysMerged_41 ?_
        refine x_iald G (ly_n hY 196 (by decide)) (ly_k hY 196 (by decide)) (show _ = 511 from ly_l hY 196 (by decide)) (by omega) (by omega) dX7_laysMerged_42 ?_
        show xX Γ 0 0 n T 43 [(0, xR 195), (1, xI set), (2, xI mo), (3, xI k)] [xI (N1 196 2), xI k] N1
        rw [show N1 196 2 = (V 0 10) from (mr_cg hN (hf1.1 196 (by omega))).1.2.2]
        refine x_icmp_ge G 98 (by decide) dX7_laysMerged_43 (fun c43 => ?_) (fun c43 => ?_)
        · skip
          have h9w := hw1
          rw [ft_all V (fun i : Nat => bit set (V 4 i) ∧ alv V i (V 0 11)) (show k = V 0 10 by omega)] at h9w
          skip
          refine x_aload_n G 0 rfl rfl dX7_laysMerged_98 ?_
          refine x_iload_n G 2 rfl rfl dX7_laysMerged_99 ?_
          refine x_callVV G [] [xI mo] rfl (by decide) (ly_n hY 195 (by decide)) (ly_k hY 195 (by decide)) hy_X7_cuts hi_X7_cuts hs_X7_cuts ml_X7_131 rfl rfl (kX7_cuts _ _ ((rkl V).filter fun i : Nat => decide (bit set (V 4 i) ∧ alv V i (V 0 11))) mo hY h9w (Nat.le_trans (List.length_filter_le _ _) (rkl_l100 hv)) (by omega)) (by decide) (by decide) (Nat.le_of_ble_eq_true rfl) dX7_laysMerged_100 (fun M100 h100 => ?_)
          subst h100
          show xX Γ 0 0 n T 103 [(0, xR 195), (1, xI set), (2, xI mo), (3, xI k)] [] (xst N1 195 8 ((((rkl V).filter fun i : Nat => decide (bit set (V 4 i) ∧ alv V i (V 0 11))).take mo.toNat).length : Int))
          refine x_iconst G (by decide) dX7_laysMerged_103 ?_
          exact x_zret G (by omega) Rt dX7_laysMerged_104 ⟨rfl, rfl, _, rfl, ⟨⟨(b2i_t (by omega)).symm, fun _ => (rw_take h9w (xst_same ..) (xst_row (by decide)))⟩, (mfr_st hf1 (by omega)), (rk_cg hR1 (xst_nq (by omega)) (xst_row (by omega)))⟩⟩
        · skip
          refine x_aload_n G 0 rfl rfl dX7_laysMerged_46 ?_
          refine x_get G (xR 203) xf7_9 lk_X7_32 (ly_n hY 195 (by decide)) (ly_k hY 195 (by decide)) (Or.inr ⟨rfl, _, (ly_r hY 195 9 (by decide) (by decide)), rfl⟩) dX7_laysMerged_47 ?_
          refine x_iload_n G 3 rfl rfl dX7_laysMerged_50 ?_
          refine x_iald G (ly_n hY 203 (by decide)) (ly_k hY 203 (by decide)) (show _ = 100 from ly_l hY 203 (by decide)) (by omega) (by omega) dX7_laysMerged_51 ?_
          rw [hrk k.toNat (by omega)]
          skip
          have hr := hs.1 k.toNat (by omega)
          have hit := ok_i hv (i := V 10 k.toNat) hr.1 (by omega)
          have hq : 0 ≤ set / 2 ^ (V 4 (V 10 k.toNat).toNat).toNat ∧ set / 2 ^ (V 4 (V 10 k.toNat).toNat).toNat ≤ set := ⟨Int.ediv_nonneg (by omega) (Int.pow_nonneg (by decide)), Int.ediv_le_self _ (by omega)⟩
          refine x_istore G [(4, xI (V 10 k.toNat)), (0, xR 195), (1, xI set), (2, xI mo), (3, xI k)] (by decide) rfl dX7_laysMerged_52 ?_
          refine x_aload_n G 1 rfl rfl dX7_laysMerged_54 ?_
          refine x_iload G 0 rfl dX7_laysMerged_55 ?_
          refine x_callVp G [] [xI (V 10 k.toNat)] rfl (by decide) (ly_n hY 195 (by decide)) (ly_k hY 195 (by decide)) hy_X7_isDropped hi_X7_isDropped hs_X7_isDropped ml_X7_70 rfl rfl (kX7_isDropped _ _ V (V 10 k.toNat) hY (mr_cg hN (hf1.1 196 (by omega))) hv (by omega)) (by decide) (by decide) (Nat.le_of_ble_eq_true rfl) dX7_laysMerged_57 ?_
          refine x_if_ne G 92 (by decide) dX7_laysMerged_60 (fun c60 => ?_) (fun c60 => ?_)
          · skip
            have c60 := b2i_ne0.mp c60
            refine x_iinc G [(3, xI (k + 1)), (4, xI (V 10 k.toNat)), (0, xR 195), (1, xI set), (2, xI mo)] 4 rfl (by decide) (by omega) rfl dX7_laysMerged_92 ?_
            refine x_goto G 36 (by decide) dX7_laysMerged_95 ?_
            refine x_sub [(0, xR 195), (1, xI set), (2, xI mo), (3, xI (k + 1))] [2, 3, 4, 0] rfl ?_
            exact ih36 _ (by omega) (k + 1) N1 rfl (by omega) (hf1) (hR1) (hrk) (by rw [ft_n (P := fun i : Nat => bit set (V 4 i) ∧ alv V i (V 0 11)) (by omega) (by first | exact fun h => c60 h.2.1 | exact fun h => c74 h.1 | exact fun h => c83 h.2)]; exact hw1)
          · skip
            have c60 := b2i_eq0.mp c60
            refine x_iload_n G 2 rfl rfl dX7_laysMerged_63 ?_
            refine x_aload_n G 1 rfl rfl dX7_laysMerged_64 ?_
            refine x_iload G 0 rfl dX7_laysMerged_65 ?_
            refine x_callVp G [xI set] [xI (V 10 k.toNat)] rfl (by decide) (ly_n hY 195 (by decide)) (ly_k hY 195 (by decide)) hy_X7_shardOf hi_X7_shardOf hs_X7_shardOf ml_X7_62 rfl rfl (kX7_shardOf_u _ _ V (V 10 k.toNat) hY (mr_cg hN (hf1.1 196 (by omega))) hv (by omega) (show V 9 (V 10 k.toNat).toNat = 0 by omega)) (by decide) (by decide) (Nat.le_of_ble_eq_true rfl) dX7_laysMerged_67 ?_
            refine x_ishr G (set / 2 ^ (V 4 (V 10 k.toNat).toNat).toNat) (x_shr' (by omega) ⟨by omega, by omega⟩ hit.1.1 (by omega)) (by omega) dX7_laysMerged_70 ?_
            refine x_iconst G (by decide) dX7_laysMerged_71 ?_
            refine x_iand G ((set / 2 ^ (V 4 (V 10 k.toNat).toNat).toNat) % 2) (by have := x_and' (x := (set / 2 ^ (V 4 (V 10 k.toNat).toNat).toNat)) (m := 1) 1 (by decide) hq.1; exact this) (by omega) dX7_laysMerged_72 ?_
            refine x_iconst G (by decide) dX7_laysMerged_73 ?_
            refine x_icmp_ne G 92 (by decide) dX7_laysMerged_74 (fun c74 => ?_) (fun c74 => ?_)
            · skip
              refine x_iinc G [(3, xI (k + 1)), (4, xI (V 10 k.toNat)), (0, xR 195), (1, xI set), (2, xI mo)] 4 rfl (by decide) (by omega) rfl dX7_laysMerged_92 ?_
              refine x_goto G 36 (by decide) dX7_laysMerged_95 ?_
              refine x_sub [(0, xR 195), (1, xI set), (2, xI mo), (3, xI (k + 1))] [2, 3, 4, 0] rfl ?_
              exact ih36 _ (by omega) (k + 1) N1 rfl (by omega) (hf1) (hR1) (hrk) (by rw [ft_n (P := fun i : Nat => bit set (V 4 i) ∧ alv V i (V 0 11)) (by omega) (by first | exact fun h => c60 h.2.1 | exact fun h => c74 h.1 | exact fun h => c83 h.2)]; exact hw1)
            · skip
              refine x_aload_n G 1 rfl rfl dX7_laysMerged_77 ?_
              refine x_iload G 0 rfl dX7_laysMerged_78 ?_
              refine x_callVp G [] [xI (V 10 k.toNat)] rfl (by decide) (ly_n hY 195 (by decide)) (ly_k hY 195 (by decide)) hy_X7_isAlive hi_X7_isAlive hs_X7_isAlive ml_X7_134 rfl rfl (kX7_isAlive _ _ V (V 10 k.toNat) hY (mr_cg hN (hf1.1 196 (by omega))) hv (by omega)) (by decide) (by decide) (Nat.le_of_ble_eq_true rfl) dX7_laysMerged_80 ?_
              refine x_if_eq G 92 (by decide) dX7_laysMerged_83 (fun c83 => ?_) (fun c83 => ?_)
              · skip
                have c83 := b2i_eq0.mp c83
                refine x_iinc G [(3, xI (k + 1)), (4, xI (V 10 k.toNat)), (0, xR 195), (1, xI set), (2, xI mo)] 4 rfl (by decide) (by omega) rfl dX7_laysMerged_92 ?_
                refine x_goto G 36 (by decide) dX7_laysMerged_95 ?_
                refine x_sub [(0, xR 195), (1, xI set), (2, xI mo), (3, xI (k + 1))] [2, 3, 4, 0] rfl ?_
                exact ih36 _ (by omega) (k + 1) N1 rfl (by omega) (hf1) (hR1) (hrk) (by rw [ft_n (P := fun i : Nat => bit set (V 4 i) ∧ alv V i (V 0 11)) (by omega) (by first | exact fun h => c60 h.2.1 | exact fun h => c74 h.1 | exact fun h => c83 h.2)]; exact hw1)
              · skip
                have c83 := b2i_ne0.mp c83
                refine x_aload_n G 1 rfl rfl dX7_laysMerged_86 ?_
                refine x_iload G 0 rfl dX7_laysMerged_87 ?_
                refine x_callVV G [] [xI (V 10 k.toNat)] rfl (by decide) (ly_n hY 195 (by decide)) (ly_k hY 195 (by decide)) hy_X7_comesIn hi_X7_comesIn hs_X7_comesIn ml_X7_120 rfl rfl (kX7_comesIn _ _ (((rkl V).take k.toNat).filter fun i : Nat => decide (bit set (V 4 i) ∧ alv V i (V 0 11))) (V 10 k.toNat) hY hw1 (by omega)) (by decide) (by decide) (Nat.le_of_ble_eq_true rfl) dX7_laysMerged_89 (fun M89 h89 => ?_)
                subst h89
                show xX Γ 0 0 n T 92 [(4, xI (V 10 k.toNat)), (0, xR 195), (1, xI set), (2, xI mo), (3, xI k)] [] (xst (xst N1 202 (((rkl V).take k.toNat).filter fun i : Nat => decide (bit set (V 4 i) ∧ alv V i (V 0 11))).length (V 10 k.toNat)) 195 8 (((((rkl V).take k.toNat).filter fun i : Nat => decide (bit set (V 4 i) ∧ alv V i (V 0 11))).length : Int) + 1))
                refine x_iinc G [(3, xI (k + 1)), (4, xI (V 10 k.toNat)), (0, xR 195), (1, xI set), (2, xI mo)] 4 rfl (by decide) (by omega) rfl dX7_laysMerged_92 ?_
                refine x_goto G 36 (by decide) dX7_laysMerged_95 ?_
                refine x_sub [(0, xR 195), (1, xI set), (2, xI mo), (3, xI (k + 1))] [2, 3, 4, 0] rfl ?_
                exact ih36 _ (by omega) (k + 1) (xst (xst N1 202 (((rkl V).take k.toNat).filter fun i : Nat => decide (bit set (V 4 i) ∧ alv V i (V 0 11))).length (V 10 k.toNat)) 195 8 (((((rkl V).take k.toNat).filter fun i : Nat => decide (bit set (V 4 i) ∧ alv V i (V 0 11))).length : Int) + 1)) rfl (by omega) ((mfr_st (mfr_st hf1 (by omega)) (by omega))) ((rk_cg (rk_cg hR1 (xst_nq (by omega)) (xst_row (by omega))) (xst_nq (by omega)) (xst_row (by omega)))) (fun p hp => (congrFun ((xst_row (by decide)).trans (xst_row (by decide))) p).trans (hrk p hp)) (by rw [ft_y (P := fun i : Nat => bit set (V 4 i) ∧ alv V i (V 0 11)) (by omega) (⟨c74, c83⟩)]; exact (rw_add hw1 (by omega) (xst_same ..) (fun j => by rw [xst_row (by decide), xst_eq]; by_cases e : j = (((rkl V).take k.toNat).filter fun i : Nat => decide (bit set (V 4 i) ∧ alv V i (V 0 11))).length; rw [if_pos ⟨rfl, e⟩, if_pos e]; rw [if_neg (fun h => e h.2), if_neg e])))
      refine x_sub [(0, xR 195), (1, xI set), (2, xI mo), (3, xI 0)] [1, 2, 3, 0] rfl ?_
      exact loop36 _ 0 (xst M27 195 8 0) rfl (by omega) ((mfr_st (mfr_tr (mfr_refl _) h27.2.1) (by omega))) ((rk_cg h27.2.2 (xst_nq (by omega)) (xst_row (by omega)))) (fun p hp => (congrFun (xst_row (by decide)) p).trans (srt_one h27.1 hs p (by omega))) ((rw_nil (xst_same ..)))
    · skip
      have c21 := b2i_eq0.mp c21
      refine x_iconst G (by decide) dX7_laysMerged_24 ?_
      exact x_zret G (by omega) Rt dX7_laysMerged_25 ⟨rfl, rfl, _, rfl, ⟨⟨(b2i_f (by omega)).symm, fun h => by omega⟩, (mfr_refl _), hR⟩⟩
set_option maxRecDepth 100000 in
set_option maxHeartbeats 4000000 in
theorem kX7_merged (D : xD) (l : Launch) {n : Nat} {T : xT} {M : xM} (V : xM) (set mo k : Int) (hY : LayOK n T) (hN : mrel (M 196) V) (hv : VOK V) (hs : Srt V (V 10) (V 0 10).toNat) (hR : Rk M V) : xC D l uX7_merged 7 168 0 0 [xR 195, xI set, xI mo, xI k] n T M (xPI n T (fun z M2 => z = qMerged V set mo k ∧ mfr M M2 ∧ Rk M2 V)) := by
  refine x_met uX7_merged (by decide) (Nat.le_of_ble_eq_true rfl) ?_
  intro Γ G Rt _
  have G : xG Γ RX7 cX7_merged 4 7 168 0 0 := G
  have Rt : xRt Γ (xPI n T (fun z M2 => z = qMerged V set mo k ∧ mfr M M2 ∧ Rk M2 V)) (some .int) 0 0 := Rt
  show xX Γ 0 0 n T 0 [(0, xR 195), (1, xI set), (2, xI mo), (3, xI k)] [] M
  have hc := ok_c hv
  refine x_iload_n G 3 rfl rfl dX7_merged_0 ?_
  refine x_iconst G (by decide) dX7_merged_1 ?_
  refine x_icmp_lt G 22 (by decide) dX7_merged_2 (fun c2 => ?_) (fun c2 => ?_)
  · skip
    refine x_iconst G (by decide) dX7_merged_22 ?_
    exact x_iret G Rt dX7_merged_23 ⟨rfl, rfl, _, rfl, ⟨(by unfold qMerged; (repeat (first | rw [if_pos (by omega)] | rw [if_neg (by omega)])) <;> try rfl), (mfr_refl _), hR⟩⟩
  · skip
    refine x_aload_n G 0 rfl rfl dX7_merged_5 ?_
    refine x_iload_n G 1 rfl rfl dX7_merged_6 ?_
    refine x_iload_n G 2 rfl rfl dX7_merged_7 ?_
    refine x_callVI G [] [xI set, xI mo] rfl (by decide) (ly_n hY 195 (by decide)) (ly_k hY 195 (by decide)) hy_X7_laysMerged hi_X7_laysMerged hs_X7_laysMerged ml_X7_153 rfl rfl (kX7_laysMerged _ _ V set mo hY hN hv hs hR) (by decide) (by decide) (Nat.le_of_ble_eq_true rfl) dX7_merged_8 (fun z8 M8 h8 => ?_)
    rw [h8.1.1]
    refine x_if_eq G 22 (by decide) dX7_merged_11 (fun c11 => ?_) (fun c11 => ?_)
    · skip
      have c11 := b2i_eq0.mp c11
      refine x_iconst G (by decide) dX7_merged_22 ?_
      exact x_iret G Rt dX7_merged_23 ⟨rfl, rfl, _, rfl, ⟨(by unfold qMerged; (repeat (first | rw [if_pos (by omega)] | rw [if_neg (by omega)])) <;> try rfl), (mfr_tr (mfr_refl _) (mfx_w 207 h8.2.1 (by decide))), h8.2.2⟩⟩
    · skip
      have c11 := b2i_ne0.mp c11
      skip
      refine x_aload_n G 0 rfl rfl dX7_merged_14 ?_
      refine x_iload_n G 3 rfl rfl dX7_merged_15 ?_
      refine x_callVp G [] [xI k] rfl (by decide) (ly_n hY 195 (by decide)) (ly_k hY 195 (by decide)) hy_X7_toldOf hi_X7_toldOf hs_X7_toldOf ml_X7_146 rfl rfl (kX7_toldOf _ _ (meL V set mo) k hY (h8.1.2 c11) (take_len (Nat.le_trans (List.length_filter_le _ _) (rkl_l100 hv))) (by omega)) (by decide) (by decide) (Nat.le_of_ble_eq_true rfl) dX7_merged_16 ?_
      refine x_goto G 23 (by decide) dX7_merged_19 ?_
      exact x_iret G Rt dX7_merged_23 ⟨rfl, rfl, _, rfl, ⟨(by unfold qMerged; (repeat (first | rw [if_pos (by omega)] | rw [if_neg (by omega)])) <;> try rfl), (mfr_tr (mfr_refl _) (mfx_w 207 h8.2.1 (by decide))), h8.2.2⟩⟩
theorem me_und {V : xM} {set n : Int} {i : Nat} (h : i ∈ meL V set n) : V 9 i = 0 := (of_decide_eq_true (List.mem_filter.mp (List.mem_of_mem_take h)).2).2.1
theorem al_und {V : xM} {sh t w up : Int} {i : Nat} (h : i ∈ alL V sh t w up) : V 9 i = 0 ∧ V 4 i = sh := ⟨(alL_mem.mp h).2.2.1, (alL_mem.mp h).2.2.2.1⟩
theorem sm_und {V : xM} {sh : Int} {i : Nat} (h : i ∈ smL V sh) : V 9 i = 0 ∧ V 4 i = sh := al_und (List.mem_of_mem_take h)
theorem cast_tn (x : Nat) : ((x : Int)).toNat = x := rfl
set_option maxRecDepth 100000 in
set_option maxHeartbeats 4000000 in
theorem kX7_partOf (D : xD) (l : Launch) {n : Nat} {T : xT} {M : xM} (V : xM) (set mo sh : Int) (hY : LayOK n T) (hN : mrel (M 196) V) (hv : VOK V) (hs : Srt V (V 10) (V 0 10).toNat) (hR : Rk M V) : xC D l uX7_partOf 7 168 0 0 [xR 195, xI set, xI mo, xI sh] n T M (xPI n T (fun z M2 => z = qPartOf V set mo sh ∧ mfr M M2 ∧ Rk M2 V)) := by
  refine x_met uX7_partOf (by decide) (Nat.le_of_ble_eq_true rfl) ?_
  intro Γ G Rt _
  have G : xG Γ RX7 cX7_partOf 6 7 168 0 0 := G
  have Rt : xRt Γ (xPI n T (fun z M2 => z = qPartOf V set mo sh ∧ mfr M M2 ∧ Rk M2 V)) (some .int) 0 0 := Rt
  show xX Γ 0 0 n T 0 [(0, xR 195), (1, xI set), (2, xI mo), (3, xI sh)] [] M
  have hc := ok_c hv
  refine x_iload_n G 3 rfl rfl dX7_partOf_0 ?_
  refine x_callSp G [] [xI sh] hy_X7_isShard ht_X7_isShard ml_X7_143 rfl rfl (kX7_isShard _ _ sh) (by decide) (by decide) (Nat.le_of_ble_eq_true rfl) dX7_partOf_1 ?_
  refine x_if_eq G 16 (by decide) dX7_partOf_4 (fun c4 => ?_) (fun c4 => ?_)
  · skip
    have c4 := b2i_eq0.mp c4
    refine x_iconst G (by decide) dX7_partOf_16 ?_
    exact x_iret G Rt dX7_partOf_17 ⟨rfl, rfl, _, rfl, ⟨(by unfold qPartOf; (repeat (first | rw [if_pos (by omega)] | rw [if_neg (by omega)])) <;> try rfl), (mfr_refl _), hR⟩⟩
  · skip
    have c4 := b2i_ne0.mp c4
    refine x_aload_n G 0 rfl rfl dX7_partOf_7 ?_
    refine x_iload_n G 1 rfl rfl dX7_partOf_8 ?_
    refine x_iload_n G 2 rfl rfl dX7_partOf_9 ?_
    refine x_callVI G [] [xI set, xI mo] rfl (by decide) (ly_n hY 195 (by decide)) (ly_k hY 195 (by decide)) hy_X7_laysMerged hi_X7_laysMerged hs_X7_laysMerged ml_X7_153 rfl rfl (kX7_laysMerged _ _ V set mo hY hN hv hs hR) (by decide) (by decide) (Nat.le_of_ble_eq_true rfl) dX7_partOf_10 (fun z10 M10 h10 => ?_)
    rw [h10.1.1]
    refine x_if_ne G 18 (by decide) dX7_partOf_13 (fun c13 => ?_) (fun c13 => ?_)
    · skip
      have c13 := b2i_ne0.mp c13
      skip
      have hlm : (meL V set mo).length ≤ 100 := take_len (Nat.le_trans (List.length_filter_le _ _) (rkl_l100 hv))
      refine x_iconst G (by decide) dX7_partOf_18 ?_
      refine x_istore G [(4, xI 0), (0, xR 195), (1, xI set), (2, xI mo), (3, xI sh)] (by decide) rfl dX7_partOf_19 ?_
      refine x_iconst G (by decide) dX7_partOf_21 ?_
      refine x_istore G [(5, xI 0), (4, xI 0), (0, xR 195), (1, xI set), (2, xI mo), (3, xI sh)] (by decide) rfl dX7_partOf_22 ?_
      have loop24 : ∀ (d : Nat) (k : Int) (q : Int), ((meL V set mo).length - k).toNat = d → (0 ≤ k ∧ k ≤ (meL V set mo).length) → (q = cntL ((meL V set mo).take k.toNat) (fun i => V 4 i = sh)) → xX Γ 0 0 n T 24 [(0, xR 195), (1, xI set), (2, xI mo), (3, xI sh), (4, xI q), (5, xI k)] [] M10 := by
        intro d
        induction d using Nat.strongRecOn with
        | ind d ih24 =>
        intro k q hd24 hk hq
        have hcb := cnt_b ((meL V set mo).take k.toNat) (fun i => V 4 i = sh)
        have hcl := List.length_take_le k.toNat (meL V set mo)
        refine x_iload G 5 rfl dX7_partOf_24 ?_
        refine x_aload_n G 0 rfl rfl dX7_partOf_26 ?_
        refine x_get G (xI (M10 195 8)) xf7_8 lk_X7_103 (ly_n hY 195 (by decide)) (ly_k hY 195 (by decide)) (Or.inl ⟨rfl, rfl⟩) dX7_partOf_27 ?_
        rw [show M10 195 8 = ((meL V set mo).length : Int) from (h10.1.2 c13).1]
        refine x_icmp_ge G 64 (by decide) dX7_partOf_30 (fun c30 => ?_) (fun c30 => ?_)
        · skip
          refine x_iload G 4 rfl dX7_partOf_64 ?_
          exact x_iret G Rt dX7_partOf_66 ⟨rfl, rfl, _, rfl, ⟨(by unfold qPartOf; rw [if_pos (by omega), hq, List.take_of_length_le (by omega)]), (mfr_tr (mfr_refl _) (mfx_w 207 h10.2.1 (by decide))), h10.2.2⟩⟩
        · skip
          refine x_iload G 4 rfl dX7_partOf_33 ?_
          refine x_aload_n G 0 rfl rfl dX7_partOf_35 ?_
          refine x_aload_n G 0 rfl rfl dX7_partOf_36 ?_
          refine x_get G (xR 202) xf7_7 lk_X7_29 (ly_n hY 195 (by decide)) (ly_k hY 195 (by decide)) (Or.inr ⟨rfl, _, (ly_r hY 195 7 (by decide) (by decide)), rfl⟩) dX7_partOf_37 ?_
          refine x_iload G 5 rfl dX7_partOf_40 ?_
          refine x_iald G (ly_n hY 202 (by decide)) (ly_k hY 202 (by decide)) (show _ = 100 from ly_l hY 202 (by decide)) (by omega) (by omega) dX7_partOf_42 ?_
          rw [show M10 202 k.toNat = (((meL V set mo).getD k.toNat 0 : Nat) : Int) from ((h10.1.2 c13).2 k.toNat (by omega))]
          have hin := getD_in (L := (meL V set mo)) (j := k.toNat) (by omega)
          have hin2 := me_it hs hin
          have hin3 := me_und hin
          have hit := hv.2.2.1 ((meL V set mo).getD k.toNat 0) hin2
          refine x_callVp G [xI q] [xI (((meL V set mo).getD k.toNat 0 : Nat) : Int)] rfl (by decide) (ly_n hY 195 (by decide)) (ly_k hY 195 (by decide)) hy_X7_shardOf hi_X7_shardOf hs_X7_shardOf ml_X7_62 rfl rfl (kX7_shardOf_u _ _ V (((meL V set mo).getD k.toNat 0 : Nat) : Int) hY (mr_cg hN (h10.2.1.1 196 (by omega))) hv (by omega) (show V 9 ((meL V set mo).getD k.toNat 0) = 0 by omega)) (by decide) (by decide) (Nat.le_of_ble_eq_true rfl) dX7_partOf_43 ?_
          show xX Γ 0 0 n T 46 [(0, xR 195), (1, xI set), (2, xI mo), (3, xI sh), (4, xI q), (5, xI k)] [xI (V 4 ((meL V set mo).getD k.toNat 0)), xI q] M10
          refine x_iload_n G 3 rfl rfl dX7_partOf_46 ?_
          refine x_icmp_ne G 54 (by decide) dX7_partOf_47 (fun c47 => ?_) (fun c47 => ?_)
          · skip
            refine x_iconst G (by decide) dX7_partOf_54 ?_
            refine x_iadd G (by omega) dX7_partOf_55 ?_
            refine x_istore G [(4, xI (q + 0)), (0, xR 195), (1, xI set), (2, xI mo), (3, xI sh), (5, xI k)] (by decide) rfl dX7_partOf_56 ?_
            refine x_iinc G [(5, xI (k + 1)), (4, xI (q + 0)), (0, xR 195), (1, xI set), (2, xI mo), (3, xI sh)] 5 rfl (by decide) (by omega) rfl dX7_partOf_58 ?_
            refine x_goto G 24 (by decide) dX7_partOf_61 ?_
            refine x_sub [(0, xR 195), (1, xI set), (2, xI mo), (3, xI sh), (4, xI (q + 0)), (5, xI (k + 1))] [2, 3, 4, 5, 1, 0] rfl ?_
            exact ih24 _ (by omega) (k + 1) (q + 0) rfl (by omega) (by rw [show (k + 1).toNat = k.toNat + 1 by omega, cnt_take _ _ (by omega), ← hq]; first | (rw [b2i_t (by omega)]) | (rw [b2i_f (by omega)]; try omega))
          · skip
            refine x_iconst G (by decide) dX7_partOf_50 ?_
            refine x_goto G 55 (by decide) dX7_partOf_51 ?_
            refine x_iadd G (by omega) dX7_partOf_55 ?_
            refine x_istore G [(4, xI (q + 1)), (0, xR 195), (1, xI set), (2, xI mo), (3, xI sh), (5, xI k)] (by decide) rfl dX7_partOf_56 ?_
            refine x_iinc G [(5, xI (k + 1)), (4, xI (q + 1)), (0, xR 195), (1, xI set), (2, xI mo), (3, xI sh)] 5 rfl (by decide) (by omega) rfl dX7_partOf_58 ?_
            refine x_goto G 24 (by decide) dX7_partOf_61 ?_
            refine x_sub [(0, xR 195), (1, xI set), (2, xI mo), (3, xI sh), (4, xI (q + 1)), (5, xI (k + 1))] [2, 3, 4, 5, 1, 0] rfl ?_
            exact ih24 _ (by omega) (k + 1) (q + 1) rfl (by omega) (by rw [show (k + 1).toNat = k.toNat + 1 by omega, cnt_take _ _ (by omega), ← hq]; first | (rw [b2i_t (by omega)]) | (rw [b2i_f (by omega)]; try omega))
      refine x_sub [(0, xR 195), (1, xI set), (2, xI mo), (3, xI sh), (4, xI 0), (5, xI 0)] [2, 3, 4, 5, 1, 0] rfl ?_
      exact loop24 _ 0 0 rfl (by omega) (rfl)
    · skip
      have c13 := b2i_eq0.mp c13
      refine x_iconst G (by decide) dX7_partOf_16 ?_
      exact x_iret G Rt dX7_partOf_17 ⟨rfl, rfl, _, rfl, ⟨(by unfold qPartOf; (repeat (first | rw [if_pos (by omega)] | rw [if_neg (by omega)])) <;> try rfl), (mfr_tr (mfr_refl _) (mfx_w 207 h10.2.1 (by decide))), h10.2.2⟩⟩
theorem lb1_take (V : xM) {L : List Nat} (b : Int) {k : Nat} (hk : k < L.length) : lb1 V (L.take (k + 1)) b = lb1 V (L.take k) b + (if V 5 (L.getD k 0) = b then 1 else 0) := by
  have e : L.take (k + 1) = L.take k ++ [L.getD k 0] := by
    rw [List.take_succ]
    congr 1
    simp [List.getD, hk]
  rw [e, lb1_add]
set_option maxRecDepth 100000 in
set_option maxHeartbeats 4000000 in
theorem kX7_labelled (D : xD) (l : Launch) {n : Nat} {T : xT} {M : xM} (V : xM) (L : List Nat) (lab : Int) (hY : LayOK n T) (hN : mrel (M 196) V) (hv : VOK V) (hw : Rw M L) (hl : L.length ≤ 100) (hin : ∀ i ∈ L, (i : Int) < V 0 10) : xC D l uX7_labelled 1 22 0 0 [xR 195, xI lab] n T M (xPp n T M (lb1 V L lab)) := by
  refine x_met uX7_labelled (by decide) (Nat.le_of_ble_eq_true rfl) ?_
  intro Γ G Rt _
  have G : xG Γ RX7 cX7_labelled 4 1 22 0 0 := G
  have Rt : xRt Γ (xPp n T M (lb1 V L lab)) (some .int) 0 0 := Rt
  show xX Γ 0 0 n T 0 [(0, xR 195), (1, xI lab)] [] M
  have hwn := hw.1
  have hc := ok_c hv
  refine x_iconst G (by decide) dX7_labelled_0 ?_
  refine x_istore_n G [(2, xI 0), (0, xR 195), (1, xI lab)] rfl (by decide) rfl dX7_labelled_1 ?_
  refine x_iconst G (by decide) dX7_labelled_2 ?_
  refine x_istore_n G [(3, xI 0), (2, xI 0), (0, xR 195), (1, xI lab)] rfl (by decide) rfl dX7_labelled_3 ?_
  have loop4 : ∀ (d : Nat) (k : Int) (q : Int), (L.length - k).toNat = d → (0 ≤ k ∧ k ≤ L.length) → (q = lb1 V (L.take k.toNat) lab) → xX Γ 0 0 n T 4 [(0, xR 195), (1, xI lab), (2, xI q), (3, xI k)] [] M := by
    intro d
    induction d using Nat.strongRecOn with
    | ind d ih4 =>
    intro k q hd4 hk hq
    have hcb := lb1_b V (L.take k.toNat) lab
    have hcl := List.length_take_le k.toNat L
    refine x_iload_n G 3 rfl rfl dX7_labelled_4 ?_
    refine x_aload_n G 0 rfl rfl dX7_labelled_5 ?_
    refine x_get G (xI (M 195 8)) xf7_8 lk_X7_103 (ly_n hY 195 (by decide)) (ly_k hY 195 (by decide)) (Or.inl ⟨rfl, rfl⟩) dX7_labelled_6 ?_
    rw [show M 195 8 = (L.length : Int) from hw.1]
    refine x_icmp_ge G 41 (by decide) dX7_labelled_9 (fun c9 => ?_) (fun c9 => ?_)
    · skip
      refine x_iload_n G 2 rfl rfl dX7_labelled_41 ?_
      exact x_iret G Rt dX7_labelled_42 ⟨rfl, rfl, congrArg (fun z => some (xI z)) ((by rw [hq, List.take_of_length_le (by omega)])), rfl⟩
    · skip
      refine x_iload_n G 2 rfl rfl dX7_labelled_12 ?_
      refine x_aload_n G 0 rfl rfl dX7_labelled_13 ?_
      refine x_aload_n G 0 rfl rfl dX7_labelled_14 ?_
      refine x_get G (xR 202) xf7_7 lk_X7_29 (ly_n hY 195 (by decide)) (ly_k hY 195 (by decide)) (Or.inr ⟨rfl, _, (ly_r hY 195 7 (by decide) (by decide)), rfl⟩) dX7_labelled_15 ?_
      refine x_iload_n G 3 rfl rfl dX7_labelled_18 ?_
      refine x_iald G (ly_n hY 202 (by decide)) (ly_k hY 202 (by decide)) (show _ = 100 from ly_l hY 202 (by decide)) (by omega) (by omega) dX7_labelled_19 ?_
      rw [show M 202 k.toNat = ((L.getD k.toNat 0 : Nat) : Int) from (hw.2 k.toNat (by omega))]
      refine x_iconst G (by decide) dX7_labelled_20 ?_
      have hi9 := hin _ (getD_in (L := L) (j := k.toNat) (by omega))
      have hit := hv.2.2.1 (L.getD k.toNat 0) hi9
      refine x_callVp G [xI q] [xI ((L.getD k.toNat 0 : Nat) : Int), xI 1] rfl (by decide) (ly_n hY 195 (by decide)) (ly_k hY 195 (by decide)) hy_X7_item hi_X7_item hs_X7_item ml_X7_58 rfl rfl (kX7_item_1 _ _ V ((L.getD k.toNat 0 : Nat) : Int) hY hN hv (by omega)) (by decide) (by decide) (Nat.le_of_ble_eq_true rfl) dX7_labelled_21 ?_
      show xX Γ 0 0 n T 24 [(0, xR 195), (1, xI lab), (2, xI q), (3, xI k)] [xI (V 5 (L.getD k.toNat 0)), xI q] M
      refine x_iload_n G 1 rfl rfl dX7_labelled_24 ?_
      refine x_icmp_ne G 32 (by decide) dX7_labelled_25 (fun c25 => ?_) (fun c25 => ?_)
      · skip
        refine x_iconst G (by decide) dX7_labelled_32 ?_
        refine x_iadd G (by omega) dX7_labelled_33 ?_
        refine x_istore_n G [(2, xI (q + 0)), (0, xR 195), (1, xI lab), (3, xI k)] rfl (by decide) rfl dX7_labelled_34 ?_
        refine x_iinc G [(3, xI (k + 1)), (2, xI (q + 0)), (0, xR 195), (1, xI lab)] 3 rfl (by decide) (by omega) rfl dX7_labelled_35 ?_
        refine x_goto G 4 (by decide) dX7_labelled_38 ?_
        refine x_sub [(0, xR 195), (1, xI lab), (2, xI (q + 0)), (3, xI (k + 1))] [2, 3, 1, 0] rfl ?_
        exact ih4 _ (by omega) (k + 1) (q + 0) rfl (by omega) (by rw [show (k + 1).toNat = k.toNat + 1 by omega, lb1_take V lab (by omega), ← hq]; first | rw [if_pos (by omega)] | (rw [if_neg (by omega)]; try omega))
      · skip
        refine x_iconst G (by decide) dX7_labelled_28 ?_
        refine x_goto G 33 (by decide) dX7_labelled_29 ?_
        refine x_iadd G (by omega) dX7_labelled_33 ?_
        refine x_istore_n G [(2, xI (q + 1)), (0, xR 195), (1, xI lab), (3, xI k)] rfl (by decide) rfl dX7_labelled_34 ?_
        refine x_iinc G [(3, xI (k + 1)), (2, xI (q + 1)), (0, xR 195), (1, xI lab)] 3 rfl (by decide) (by omega) rfl dX7_labelled_35 ?_
        refine x_goto G 4 (by decide) dX7_labelled_38 ?_
        refine x_sub [(0, xR 195), (1, xI lab), (2, xI (q + 1)), (3, xI (k + 1))] [2, 3, 1, 0] rfl ?_
        exact ih4 _ (by omega) (k + 1) (q + 1) rfl (by omega) (by rw [show (k + 1).toNat = k.toNat + 1 by omega, lb1_take V lab (by omega), ← hq]; first | rw [if_pos (by omega)] | (rw [if_neg (by omega)]; try omega))
  refine x_sub [(0, xR 195), (1, xI lab), (2, xI 0), (3, xI 0)] [2, 3, 1, 0] rfl ?_
  exact loop4 _ 0 0 rfl (by omega) (rfl)
theorem fil_two {V : xM} {P : Nat → Bool} {mo c : Int} : ∀ (l acc : List Nat), l.foldl (stp V P mo c) acc = (l.filter P).foldl (stp V (fun _ => true) mo c) acc := by
  intro l
  induction l with
  | nil => intro acc; rfl
  | cons i l ih =>
    intro acc
    by_cases h : P i = true
    · rw [List.filter_cons_of_pos h, List.foldl_cons, List.foldl_cons, ih]
      congr 1
      unfold stp
      simp [h]
    · rw [List.filter_cons_of_neg h, List.foldl_cons, ih]
      congr 1
      unfold stp
      rw [if_neg (fun g => h g.2.1)]
theorem cp_al {V : xM} (hv : VOK V) (hs : Srt V (V 10) (V 0 10).toNat) {sh m : Int} (h : 0 ≤ sh ∧ sh ≤ 3) : cpL V sh m = fil V (fun _ => true) (V 11 sh.toNat) m (alN V sh) := by
  have e1 : alN V sh = (rkl V).filter (fun i => decide (asd V (2 ^ sh.toNat) (V 0 11) 100 (-1) i)) := by
    have h1 := fil_all hv hs (mo := 100) h (Int.le_refl _)
    rw [fil_eq (by have := rkl_l100 hv; omega)] at h1
    rw [List.take_of_length_le (by have g1 := List.length_filter_le (fun i => decide (asd V (2 ^ sh.toNat) (V 0 11) 100 (-1) i)) (rkl V); have g2 := rkl_l100 hv; show _ ≤ 100; omega)] at h1
    exact h1.symm
  unfold cpL fil
  rw [fil_two, e1]
theorem fil_tk {V : xM} {P : Nat → Bool} {mo c : Int} {A : List Nat} {k : Nat} (hk : k < A.length) : fil V P mo c (A.take (k + 1)) = stp V P mo c (fil V P mo c (A.take k)) (A.getD k 0) := by
  have e : A.take (k + 1) = A.take k ++ [A.getD k 0] := by
    rw [List.take_succ]
    congr 1
    simp [List.getD, hk]
  rw [e, fil_add]
theorem fil_le {V : xM} {P : Nat → Bool} {mo c : Int} : ∀ (A : List Nat), (fil V P mo c A).length ≤ A.length ∧ ∀ i ∈ fil V P mo c A, i ∈ A := by
  have key : ∀ (A acc : List Nat), (A.foldl (stp V P mo c) acc).length ≤ acc.length + A.length ∧ ∀ i ∈ A.foldl (stp V P mo c) acc, i ∈ acc ∨ i ∈ A := by
    intro A
    induction A with
    | nil => intro acc; exact ⟨Nat.le_refl _, fun i hi => Or.inl hi⟩
    | cons x A ih =>
      intro acc
      rw [List.foldl_cons]
      have h1 := ih (stp V P mo c acc x)
      have h2 := stp_len V P mo c acc x
      refine ⟨by have : (x :: A).length = A.length + 1 := rfl; omega, fun i hi => ?_⟩
      rcases h1.2 i hi with g | g
      · unfold stp at g
        split at g
        · rcases List.mem_append.mp g with g | g
          · exact Or.inl g
          · exact Or.inr (by rw [List.mem_singleton.mp g]; exact List.mem_cons_self)
        · exact Or.inl g
      · exact Or.inr (List.mem_cons_of_mem _ g)
  intro A
  have h := key A []
  exact ⟨by have h1 := h.1; simp at h1; exact h1, fun i hi => (h.2 i hi).resolve_left List.not_mem_nil⟩
theorem stp_lb {V : xM} {P : Nat → Bool} {mo c : Int} {acc : List Nat} {i : Nat} (h : ∀ b, lb1 V acc b ≤ c) : ∀ b, lb1 V (stp V P mo c acc i) b ≤ c := by
  intro b
  unfold stp
  split
  · next g =>
    rw [lb1_add]
    by_cases e : V 5 i = b
    · rw [if_pos e, ← e]; omega
    · rw [if_neg e]; have := h b; omega
  · exact h b
theorem stp_y {V : xM} {mo c : Int} {acc : List Nat} {i : Nat} (h1 : (acc.length : Int) < mo) (h2 : lb1 V acc (V 5 i) < c) : stp V (fun _ => true) mo c acc i = acc ++ [i] := by
  unfold stp; rw [if_pos ⟨h1, rfl, h2⟩]
theorem stp_n {V : xM} {mo c : Int} {acc : List Nat} {i : Nat} (h2 : ¬ lb1 V acc (V 5 i) < c) : stp V (fun _ => true) mo c acc i = acc := by
  unfold stp; rw [if_neg (fun h => h2 h.2.2)]
set_option maxRecDepth 100000 in
set_option maxHeartbeats 4000000 in
theorem kX7_capped (D : xD) (l : Launch) {n : Nat} {T : xT} {M : xM} (V : xM) (sh m k9 : Int) (hY : LayOK n T) (hN : mrel (M 196) V) (hv : VOK V) (hs : Srt V (V 10) (V 0 10).toNat) (hR : Rk M V) : xC D l uX7_capped 8 191 0 0 [xR 195, xI sh, xI m, xI k9] n T M (xPI n T (fun z M2 => z = qCapped V sh m k9 ∧ mfr M M2 ∧ Rk M2 V)) := by
  refine x_met uX7_capped (by decide) (Nat.le_of_ble_eq_true rfl) ?_
  intro Γ G Rt _
  have G : xG Γ RX7 cX7_capped 7 8 191 0 0 := G
  have Rt : xRt Γ (xPI n T (fun z M2 => z = qCapped V sh m k9 ∧ mfr M M2 ∧ Rk M2 V)) (some .int) 0 0 := Rt
  show xX Γ 0 0 n T 0 [(0, xR 195), (1, xI sh), (2, xI m), (3, xI k9)] [] M
  have hc := ok_c hv
  refine x_iload_n G 1 rfl rfl dX7_capped_0 ?_
  refine x_callSp G [] [xI sh] hy_X7_isShard ht_X7_isShard ml_X7_143 rfl rfl (kX7_isShard _ _ sh) (by decide) (by decide) (Nat.le_of_ble_eq_true rfl) dX7_capped_1 ?_
  refine x_if_eq G 24 (by decide) dX7_capped_4 (fun c4 => ?_) (fun c4 => ?_)
  · skip
    have c4 := b2i_eq0.mp c4
    refine x_iconst G (by decide) dX7_capped_24 ?_
    exact x_iret G Rt dX7_capped_25 ⟨rfl, rfl, _, rfl, ⟨(by unfold qCapped; (repeat (first | rw [if_pos (by omega)] | rw [if_neg (by omega)])) <;> try rfl), (mfr_refl _), hR⟩⟩
  · skip
    have c4 := b2i_ne0.mp c4
    refine x_iload_n G 2 rfl rfl dX7_capped_7 ?_
    refine x_i2l G dX7_capped_8 ?_
    refine x_lconst G dX7_capped_9 ?_
    show xX Γ 0 0 n T 10 [(0, xR 195), (1, xI sh), (2, xI m), (3, xI k9)] [xL 1, xL m] M
    refine x_ldc2 G (z := 12) (by decide) kc_X7_156 dX7_capped_10 ?_
    refine x_callSp G [] [xL m, xL 1, xL 12] hy_X7_in ht_X7_in ml_X7_54 rfl rfl (kX7_in _ _ m 1 12) (by decide) (by decide) (Nat.le_of_ble_eq_true rfl) dX7_capped_13 ?_
    refine x_if_eq G 24 (by decide) dX7_capped_16 (fun c16 => ?_) (fun c16 => ?_)
    · skip
      have c16 := b2i_eq0.mp c16
      refine x_iconst G (by decide) dX7_capped_24 ?_
      exact x_iret G Rt dX7_capped_25 ⟨rfl, rfl, _, rfl, ⟨(by unfold qCapped; (repeat (first | rw [if_pos (by omega)] | rw [if_neg (by omega)])) <;> try rfl), (mfr_refl _), hR⟩⟩
    · skip
      have c16 := b2i_ne0.mp c16
      refine x_iload_n G 3 rfl rfl dX7_capped_19 ?_
      refine x_iconst G (by decide) dX7_capped_20 ?_
      refine x_icmp_ge G 26 (by decide) dX7_capped_21 (fun c21 => ?_) (fun c21 => ?_)
      · skip
        have hsw := ok_s hv (s := sh) (by omega) (by omega)
        refine x_aload_n G 0 rfl rfl dX7_capped_26 ?_
        refine x_iload_n G 1 rfl rfl dX7_capped_27 ?_
        refine x_callVV G [] [xI sh] rfl (by decide) (ly_n hY 195 (by decide)) (ly_k hY 195 (by decide)) hy_X7_laysAlive hi_X7_laysAlive hs_X7_laysAlive ml_X7_128 rfl rfl (kX7_laysAlive _ _ V sh hY hN hv hs hR (by omega)) (by decide) (by decide) (Nat.le_of_ble_eq_true rfl) dX7_capped_28 (fun M28 h28 => ?_)
        have hn28 := h28.1.1
        have hl28 : (alN V sh).length ≤ 100 := alL_len hv _ _ _ _
        refine x_aload_n G 0 rfl rfl dX7_capped_31 ?_
        refine x_get G (xI (M28 195 8)) xf7_8 lk_X7_103 (ly_n hY 195 (by decide)) (ly_k hY 195 (by decide)) (Or.inl ⟨rfl, rfl⟩) dX7_capped_32 ?_
        rw [show M28 195 8 = ((alN V sh).length : Int) from h28.1.1]
        refine x_istore G [(4, xI ((alN V sh).length : Int)), (0, xR 195), (1, xI sh), (2, xI m), (3, xI k9)] (by decide) rfl dX7_capped_35 ?_
        refine x_aload_n G 1 rfl rfl dX7_capped_37 ?_
        refine x_iconst G (by decide) dX7_capped_38 ?_
        refine x_put G  xf7_8 lk_X7_103 (ly_n hY 195 (by decide)) (ly_k hY 195 (by decide)) rfl dX7_capped_39 ?_
        refine x_iconst G (by decide) dX7_capped_42 ?_
        refine x_istore G [(5, xI 0), (4, xI ((alN V sh).length : Int)), (0, xR 195), (1, xI sh), (2, xI m), (3, xI k9)] (by decide) rfl dX7_capped_43 ?_
        have loop45 : ∀ (d : Nat) (k : Int) (N1 : xM), ((alN V sh).length - k).toNat = d → (0 ≤ k ∧ k ≤ (alN V sh).length) → (mfr M N1) → (Rk N1 V) → (Rw N1 (fil V (fun _ => true) (V 11 sh.toNat) m ((alN V sh).take k.toNat))) → (∀ j : Nat, k ≤ j → j < (alN V sh).length → N1 202 j = (((alN V sh).getD j 0 : Nat) : Int)) → (∀ b, lb1 V (fil V (fun _ => true) (V 11 sh.toNat) m ((alN V sh).take k.toNat)) b ≤ m) → xX Γ 0 0 n T 45 [(0, xR 195), (1, xI sh), (2, xI m), (3, xI k9), (4, xI ((alN V sh).length : Int)), (5, xI k)] [] N1 := by
          intro d
          induction d using Nat.strongRecOn with
          | ind d ih45 =>
          intro k N1 hd45 hk hf1 hR1 hw1 hw2 hlb
          skip
          have hfl := (fil_le (V := V) (P := fun _ => true) (mo := V 11 sh.toNat) (c := m) ((alN V sh).take k.toNat)).1
          have hft := List.length_take_le k.toNat (alN V sh)
          refine x_iload G 5 rfl dX7_capped_45 ?_
          refine x_iload G 4 rfl dX7_capped_47 ?_
          refine x_icmp_ge G 121 (by decide) dX7_capped_49 (fun c49 => ?_) (fun c49 => ?_)
          · skip
            have hcpe := cp_al hv hs (sh := sh) (m := m) (by omega)
            have h9w : Rw N1 (cpL V sh m) := by (rw [hcpe]; first | (rw [fil_full k.toNat (by omega)]; exact hw1) | (have h8 := hw1; rw [List.take_of_length_le (by omega)] at h8; exact h8))
            have h9l : (cpL V sh m).length ≤ 100 := by (rw [hcpe]; have g1 := (fil_le (V := V) (P := fun _ => true) (mo := V 11 sh.toNat) (c := m) (alN V sh)).1; omega)
            skip
            refine x_aload_n G 0 rfl rfl dX7_capped_121 ?_
            refine x_iload_n G 3 rfl rfl dX7_capped_122 ?_
            refine x_callVp G [] [xI k9] rfl (by decide) (ly_n hY 195 (by decide)) (ly_k hY 195 (by decide)) hy_X7_toldOf hi_X7_toldOf hs_X7_toldOf ml_X7_146 rfl rfl (kX7_toldOf _ _ (cpL V sh m) k9 hY h9w h9l (by omega)) (by decide) (by decide) (Nat.le_of_ble_eq_true rfl) dX7_capped_123 ?_
            exact x_iret G Rt dX7_capped_126 ⟨rfl, rfl, _, rfl, ⟨(by unfold qCapped; (repeat (first | rw [if_pos (by omega)] | rw [if_neg (by omega)])) <;> try rfl), hf1, hR1⟩⟩
          · skip
            skip
            refine x_aload_n G 0 rfl rfl dX7_capped_52 ?_
            refine x_get G (xI (N1 195 8)) xf7_8 lk_X7_103 (ly_n hY 195 (by decide)) (ly_k hY 195 (by decide)) (Or.inl ⟨rfl, rfl⟩) dX7_capped_53 ?_
            rw [show N1 195 8 = ((fil V (fun _ => true) (V 11 sh.toNat) m ((alN V sh).take k.toNat)).length : Int) from hw1.1]
            refine x_aload_n G 0 rfl rfl dX7_capped_56 ?_
            refine x_get G (xR 196) xf7_0 lk_X7_7 (ly_n hY 195 (by decide)) (ly_k hY 195 (by decide)) (Or.inr ⟨rfl, _, (ly_r hY 195 0 (by decide) (by decide)), rfl⟩) dX7_capped_57 ?_
            refine x_iconst G (by decide) dX7_capped_60 ?_
            refine x_iload_n G 1 rfl rfl dX7_capped_61 ?_
            refine x_iadd G (by omega) dX7_capped_62 ?_
            refine x_iald G (ly_n hY 196 (by decide)) (ly_k hY 196 (by decide)) (show _ = 511 from ly_l hY 196 (by decide)) (by omega) (by omega) dX7_capped_63 ?_
            rw [show N1 196 (3 + sh).toNat = (V 11 sh.toNat) from (mr_sz (mr_cg hN (hf1.1 196 (by omega))) (by omega))]
            refine x_icmp_ge G 121 (by decide) dX7_capped_64 (fun c64 => ?_) (fun c64 => ?_)
            · skip
              have hcpe := cp_al hv hs (sh := sh) (m := m) (by omega)
              have h9w : Rw N1 (cpL V sh m) := by (rw [hcpe]; first | (rw [fil_full k.toNat (by omega)]; exact hw1) | (have h8 := hw1; rw [List.take_of_length_le (by omega)] at h8; exact h8))
              have h9l : (cpL V sh m).length ≤ 100 := by (rw [hcpe]; have g1 := (fil_le (V := V) (P := fun _ => true) (mo := V 11 sh.toNat) (c := m) (alN V sh)).1; omega)
              skip
              refine x_aload_n G 0 rfl rfl dX7_capped_121 ?_
              refine x_iload_n G 3 rfl rfl dX7_capped_122 ?_
              refine x_callVp G [] [xI k9] rfl (by decide) (ly_n hY 195 (by decide)) (ly_k hY 195 (by decide)) hy_X7_toldOf hi_X7_toldOf hs_X7_toldOf ml_X7_146 rfl rfl (kX7_toldOf _ _ (cpL V sh m) k9 hY h9w h9l (by omega)) (by decide) (by decide) (Nat.le_of_ble_eq_true rfl) dX7_capped_123 ?_
              exact x_iret G Rt dX7_capped_126 ⟨rfl, rfl, _, rfl, ⟨(by unfold qCapped; (repeat (first | rw [if_pos (by omega)] | rw [if_neg (by omega)])) <;> try rfl), hf1, hR1⟩⟩
            · skip
              skip
              refine x_aload_n G 0 rfl rfl dX7_capped_67 ?_
              refine x_get G (xR 202) xf7_7 lk_X7_29 (ly_n hY 195 (by decide)) (ly_k hY 195 (by decide)) (Or.inr ⟨rfl, _, (ly_r hY 195 7 (by decide) (by decide)), rfl⟩) dX7_capped_68 ?_
              refine x_iload G 5 rfl dX7_capped_71 ?_
              skip
              refine x_iald G (ly_n hY 202 (by decide)) (ly_k hY 202 (by decide)) (show _ = 100 from ly_l hY 202 (by decide)) (by omega) (by omega) dX7_capped_73 ?_
              skip
              rw [show (N1 202 k.toNat) = ((((alN V sh).getD k.toNat 0) : Nat) : Int) from hw2 k.toNat (by omega) (by omega)]
              skip
              have hin := getD_in (L := (alN V sh)) (j := k.toNat) (by omega)
              have hin2 := al_it hs hin
              have hit := hv.2.2.1 ((alN V sh).getD k.toNat 0) hin2
              refine x_istore G [(6, xI ((((alN V sh).getD k.toNat 0) : Nat) : Int)), (0, xR 195), (1, xI sh), (2, xI m), (3, xI k9), (4, xI ((alN V sh).length : Int)), (5, xI k)] (by decide) rfl dX7_capped_74 ?_
              refine x_aload_n G 1 rfl rfl dX7_capped_76 ?_
              refine x_aload_n G 1 rfl rfl dX7_capped_77 ?_
              refine x_iload G 0 rfl dX7_capped_78 ?_
              refine x_iconst G (by decide) dX7_capped_80 ?_
              refine x_callVp G [xR 195] [xI ((((alN V sh).getD k.toNat 0) : Nat) : Int), xI 1] rfl (by decide) (ly_n hY 195 (by decide)) (ly_k hY 195 (by decide)) hy_X7_item hi_X7_item hs_X7_item ml_X7_58 rfl rfl (kX7_item_1 _ _ V ((((alN V sh).getD k.toNat 0) : Nat) : Int) hY (mr_cg hN (hf1.1 196 (by omega))) hv (by omega)) (by decide) (by decide) (Nat.le_of_ble_eq_true rfl) dX7_capped_81 ?_
              show xX Γ 0 0 n T 84 [(6, xI ((((alN V sh).getD k.toNat 0) : Nat) : Int)), (0, xR 195), (1, xI sh), (2, xI m), (3, xI k9), (4, xI ((alN V sh).length : Int)), (5, xI k)] [xI (V 5 ((alN V sh).getD k.toNat 0)), xR 195] N1
              refine x_callVp G [] [xI (V 5 ((alN V sh).getD k.toNat 0))] rfl (by decide) (ly_n hY 195 (by decide)) (ly_k hY 195 (by decide)) hy_X7_labelled hi_X7_labelled hs_X7_labelled ml_X7_158 rfl rfl (kX7_labelled _ _ V (fil V (fun _ => true) (V 11 sh.toNat) m ((alN V sh).take k.toNat)) (V 5 ((alN V sh).getD k.toNat 0)) hY (mr_cg hN (hf1.1 196 (by omega))) hv hw1 (by omega) (fun i hi => al_it hs (List.mem_of_mem_take ((fil_le _).2 i hi)))) (by decide) (by decide) (Nat.le_of_ble_eq_true rfl) dX7_capped_84 ?_
              refine x_iload_n G 3 rfl rfl dX7_capped_87 ?_
              refine x_icmp_ne G 94 (by decide) dX7_capped_88 (fun c88 => ?_) (fun c88 => ?_)
              · skip
                refine x_aload_n G 1 rfl rfl dX7_capped_94 ?_
                refine x_get G (xR 202) xf7_7 lk_X7_29 (ly_n hY 195 (by decide)) (ly_k hY 195 (by decide)) (Or.inr ⟨rfl, _, (ly_r hY 195 7 (by decide) (by decide)), rfl⟩) dX7_capped_95 ?_
                refine x_aload_n G 1 rfl rfl dX7_capped_98 ?_
                refine x_get G (xI (N1 195 8)) xf7_8 lk_X7_103 (ly_n hY 195 (by decide)) (ly_k hY 195 (by decide)) (Or.inl ⟨rfl, rfl⟩) dX7_capped_99 ?_
                rw [show N1 195 8 = ((fil V (fun _ => true) (V 11 sh.toNat) m ((alN V sh).take k.toNat)).length : Int) from hw1.1]
                refine x_iload G 0 rfl dX7_capped_102 ?_
                refine x_iast G (ly_n hY 202 (by decide)) (ly_k hY 202 (by decide)) (show _ = 100 from ly_l hY 202 (by decide)) (by omega) (by omega) dX7_capped_104 ?_
                refine x_aload_n G 1 rfl rfl dX7_capped_105 ?_
                refine x_dup G rfl dX7_capped_106 ?_
                refine x_get G (xI ((xst N1 202 ((fil V (fun _ => true) (V 11 sh.toNat) m ((alN V sh).take k.toNat)).length : Int).toNat ((((alN V sh).getD k.toNat 0) : Nat) : Int)) 195 8)) xf7_8 lk_X7_103 (ly_n hY 195 (by decide)) (ly_k hY 195 (by decide)) (Or.inl ⟨rfl, rfl⟩) dX7_capped_107 ?_
                rw [show (xst N1 202 ((fil V (fun _ => true) (V 11 sh.toNat) m ((alN V sh).take k.toNat)).length : Int).toNat ((((alN V sh).getD k.toNat 0) : Nat) : Int)) 195 8 = ((fil V (fun _ => true) (V 11 sh.toNat) m ((alN V sh).take k.toNat)).length : Int) from ((xst_nq (by omega)).trans hw1.1)]
                refine x_iconst G (by decide) dX7_capped_110 ?_
                refine x_iadd G (by omega) dX7_capped_111 ?_
                refine x_put G  xf7_8 lk_X7_103 (ly_n hY 195 (by decide)) (ly_k hY 195 (by decide)) rfl dX7_capped_112 ?_
                refine x_iinc G [(5, xI (k + 1)), (6, xI ((((alN V sh).getD k.toNat 0) : Nat) : Int)), (0, xR 195), (1, xI sh), (2, xI m), (3, xI k9), (4, xI ((alN V sh).length : Int))] 6 rfl (by decide) (by omega) rfl dX7_capped_115 ?_
                refine x_goto G 45 (by decide) dX7_capped_118 ?_
                refine x_sub [(0, xR 195), (1, xI sh), (2, xI m), (3, xI k9), (4, xI ((alN V sh).length : Int)), (5, xI (k + 1))] [2, 3, 4, 5, 6, 0] rfl ?_
                exact ih45 _ (by omega) (k + 1) (xst (xst N1 202 ((fil V (fun _ => true) (V 11 sh.toNat) m ((alN V sh).take k.toNat)).length : Int).toNat ((((alN V sh).getD k.toNat 0) : Nat) : Int)) 195 8 (((fil V (fun _ => true) (V 11 sh.toNat) m ((alN V sh).take k.toNat)).length : Int) + 1)) rfl (by omega) ((mfr_st (mfr_st hf1 (by omega)) (by omega))) ((rk_cg (rk_cg hR1 (xst_nq (by omega)) (xst_row (by omega))) (xst_nq (by omega)) (xst_row (by omega)))) (by rw [show (k + 1).toNat = k.toNat + 1 by omega, fil_tk (by omega)]; rw [stp_y (by omega) (by have := hlb (V 5 ((alN V sh).getD k.toNat 0)); omega)]; exact rw_add (i := ((((alN V sh).getD k.toNat 0) : Nat) : Int)) hw1 (by omega) (xst_same ..) (fun j => by rw [xst_row (by decide), xst_eq]; by_cases e : j = (fil V (fun _ => true) (V 11 sh.toNat) m ((alN V sh).take k.toNat)).length; (rw [if_pos ⟨rfl, by omega⟩, if_pos e]); rw [if_neg (fun h => e (by omega)), if_neg e])) (fun j h1 h2 => by rw [xst_row (by decide), xst_nq (by omega)]; exact hw2 j (by omega) h2) (by rw [show (k + 1).toNat = k.toNat + 1 by omega, fil_tk (by omega)]; exact stp_lb hlb)
              · skip
                refine x_goto G 115 (by decide) dX7_capped_91 ?_
                refine x_iinc G [(5, xI (k + 1)), (6, xI ((((alN V sh).getD k.toNat 0) : Nat) : Int)), (0, xR 195), (1, xI sh), (2, xI m), (3, xI k9), (4, xI ((alN V sh).length : Int))] 6 rfl (by decide) (by omega) rfl dX7_capped_115 ?_
                refine x_goto G 45 (by decide) dX7_capped_118 ?_
                refine x_sub [(0, xR 195), (1, xI sh), (2, xI m), (3, xI k9), (4, xI ((alN V sh).length : Int)), (5, xI (k + 1))] [2, 3, 4, 5, 6, 0] rfl ?_
                exact ih45 _ (by omega) (k + 1) N1 rfl (by omega) (hf1) (hR1) (by rw [show (k + 1).toNat = k.toNat + 1 by omega, fil_tk (by omega)]; rw [stp_n (by omega)]; exact hw1) (fun j h1 h2 => hw2 j (by omega) h2) (by rw [show (k + 1).toNat = k.toNat + 1 by omega, fil_tk (by omega)]; exact stp_lb hlb)
        refine x_sub [(0, xR 195), (1, xI sh), (2, xI m), (3, xI k9), (4, xI ((alN V sh).length : Int)), (5, xI 0)] [2, 3, 4, 5, 1, 0] rfl ?_
        exact loop45 _ 0 (xst M28 195 8 0) rfl (by omega) ((mfr_st (mfr_tr (mfr_refl _) (mfx_w 207 h28.2.1 (by decide))) (by omega))) ((rk_cg h28.2.2 (xst_nq (by omega)) (xst_row (by omega)))) (rw_nil (xst_same ..)) (fun j _ hj => by rw [xst_row (by decide)]; exact h28.1.2 j hj) (fun b => by show (0 : Int) ≤ m; omega)
      · skip
        refine x_iconst G (by decide) dX7_capped_24 ?_
        exact x_iret G Rt dX7_capped_25 ⟨rfl, rfl, _, rfl, ⟨(by unfold qCapped; (repeat (first | rw [if_pos (by omega)] | rw [if_neg (by omega)])) <;> try rfl), (mfr_refl _), hR⟩⟩
theorem full_y {V : xM} {sh : Int} (h : ((smL V sh).length : Int) < V 11 sh.toNat) : qFull V sh = -2 := by unfold qFull; rw [if_pos h]
theorem full_n {V : xM} {sh : Int} (h : ¬ ((smL V sh).length : Int) < V 11 sh.toNat) (h1 : 1 ≤ V 11 sh.toNat) : qFull V sh = (((smL V sh).getD (((smL V sh).length : Int) - 1).toNat 0 : Nat) : Int) := by
  unfold qFull lst
  rw [if_neg h, if_pos (by omega), show (((smL V sh).length : Int) - 1).toNat = (smL V sh).length - 1 by omega]
set_option maxRecDepth 100000 in
set_option maxHeartbeats 4000000 in
theorem kX7_last (D : xD) (l : Launch) {n : Nat} {T : xT} {M : xM} (V : xM) (sh : Int) (hY : LayOK n T) (hN : mrel (M 196) V) (hv : VOK V) (hs : Srt V (V 10) (V 0 10).toNat) (hR : Rk M V) : xC D l uX7_last 9 212 0 0 [xR 195, xI sh] n T M (xPI n T (fun z M2 => z = qLast V sh ∧ mfr M M2 ∧ Rk M2 V)) := by
  refine x_met uX7_last (by decide) (Nat.le_of_ble_eq_true rfl) ?_
  intro Γ G Rt _
  have G : xG Γ RX7 cX7_last 2 9 212 0 0 := G
  have Rt : xRt Γ (xPI n T (fun z M2 => z = qLast V sh ∧ mfr M M2 ∧ Rk M2 V)) (some .int) 0 0 := Rt
  show xX Γ 0 0 n T 0 [(0, xR 195), (1, xI sh)] [] M
  have hc := ok_c hv
  refine x_iload_n G 1 rfl rfl dX7_last_0 ?_
  refine x_callSp G [] [xI sh] hy_X7_isShard ht_X7_isShard ml_X7_143 rfl rfl (kX7_isShard _ _ sh) (by decide) (by decide) (Nat.le_of_ble_eq_true rfl) dX7_last_1 ?_
  refine x_if_ne G 9 (by decide) dX7_last_4 (fun c4 => ?_) (fun c4 => ?_)
  · skip
    have c4 := b2i_ne0.mp c4
    have hsw := ok_s hv (s := sh) (by omega) (by omega)
    refine x_aload_n G 0 rfl rfl dX7_last_9 ?_
    refine x_iload_n G 1 rfl rfl dX7_last_10 ?_
    refine x_callVV G [] [xI sh] rfl (by decide) (ly_n hY 195 (by decide)) (ly_k hY 195 (by decide)) hy_X7_laysSample hi_X7_laysSample hs_X7_laysSample ml_X7_137 rfl rfl (kX7_laysSample _ _ V sh hY hN hv hs hR (by omega)) (by decide) (by decide) (Nat.le_of_ble_eq_true rfl) dX7_last_11 (fun M11 h11 => ?_)
    have hn11 := h11.1.1
    have hl11 : (smL V sh).length ≤ 100 := take_len (alL_len hv _ _ _ _)
    refine x_aload_n G 0 rfl rfl dX7_last_14 ?_
    refine x_get G (xI (M11 195 8)) xf7_8 lk_X7_103 (ly_n hY 195 (by decide)) (ly_k hY 195 (by decide)) (Or.inl ⟨rfl, rfl⟩) dX7_last_15 ?_
    rw [show M11 195 8 = ((smL V sh).length : Int) from h11.1.1]
    refine x_aload_n G 0 rfl rfl dX7_last_18 ?_
    refine x_get G (xR 196) xf7_0 lk_X7_7 (ly_n hY 195 (by decide)) (ly_k hY 195 (by decide)) (Or.inr ⟨rfl, _, (ly_r hY 195 0 (by decide) (by decide)), rfl⟩) dX7_last_19 ?_
    refine x_iconst G (by decide) dX7_last_22 ?_
    refine x_iload_n G 1 rfl rfl dX7_last_23 ?_
    refine x_iadd G (by omega) dX7_last_24 ?_
    refine x_iald G (ly_n hY 196 (by decide)) (ly_k hY 196 (by decide)) (show _ = 511 from ly_l hY 196 (by decide)) (by omega) (by omega) dX7_last_25 ?_
    rw [show M11 196 (3 + sh).toNat = (V 11 sh.toNat) from (mr_sz (mr_cg hN (h11.2.1.1 196 (by omega))) (by omega))]
    refine x_icmp_ge G 34 (by decide) dX7_last_26 (fun c26 => ?_) (fun c26 => ?_)
    · skip
      refine x_aload_n G 0 rfl rfl dX7_last_34 ?_
      refine x_get G (xR 202) xf7_7 lk_X7_29 (ly_n hY 195 (by decide)) (ly_k hY 195 (by decide)) (Or.inr ⟨rfl, _, (ly_r hY 195 7 (by decide) (by decide)), rfl⟩) dX7_last_35 ?_
      refine x_aload_n G 0 rfl rfl dX7_last_38 ?_
      refine x_get G (xI (M11 195 8)) xf7_8 lk_X7_103 (ly_n hY 195 (by decide)) (ly_k hY 195 (by decide)) (Or.inl ⟨rfl, rfl⟩) dX7_last_39 ?_
      rw [show M11 195 8 = ((smL V sh).length : Int) from h11.1.1]
      refine x_iconst G (by decide) dX7_last_42 ?_
      refine x_isub G (by omega) dX7_last_43 ?_
      refine x_iald G (ly_n hY 202 (by decide)) (ly_k hY 202 (by decide)) (show _ = 100 from ly_l hY 202 (by decide)) (by omega) (by omega) dX7_last_44 ?_
      rw [show M11 202 (((smL V sh).length : Int) - 1).toNat = (((smL V sh).getD (((smL V sh).length : Int) - 1).toNat 0 : Nat) : Int) from (h11.1.2 (((smL V sh).length : Int) - 1).toNat (by omega))]
      exact x_iret G Rt dX7_last_45 ⟨rfl, rfl, _, rfl, ⟨(by unfold qLast; rw [if_pos (by omega), full_n (by omega) hsw.1.1]), (mfr_tr (mfr_refl _) (mfx_w 207 h11.2.1 (by decide))), h11.2.2⟩⟩
    · skip
      refine x_bipush G (by decide) dX7_last_29 ?_
      refine x_goto G 45 (by decide) dX7_last_31 ?_
      exact x_iret G Rt dX7_last_45 ⟨rfl, rfl, _, rfl, ⟨(by unfold qLast; rw [if_pos (by omega), full_y (by omega)]), (mfr_tr (mfr_refl _) (mfx_w 207 h11.2.1 (by decide))), h11.2.2⟩⟩
  · skip
    have c4 := b2i_eq0.mp c4
    refine x_iconst G (by decide) dX7_last_7 ?_
    exact x_iret G Rt dX7_last_8 ⟨rfl, rfl, _, rfl, ⟨(by unfold qLast; (repeat (first | rw [if_pos (by omega)] | rw [if_neg (by omega)])) <;> try rfl), (mfr_refl _), hR⟩⟩
set_option maxRecDepth 100000 in
set_option maxHeartbeats 4000000 in
theorem kX7_wouldBeIn (D : xD) (l : Launch) {n : Nat} {T : xT} {M : xM} (V : xM) (sh lo w : Int) (hY : LayOK n T) (hN : mrel (M 196) V) (hv : VOK V) (hs : Srt V (V 10) (V 0 10).toNat) (hw : Rw M (smL V sh)) (hl : (smL V sh).length ≤ 100) (hsh : okS sh) (hlo : okL lo) (hwt : okW w) : xC D l uX7_wouldBeIn 4 100 0 0 [xR 195, xI sh, xI lo, xI w] n T M (xPI n T (fun z M2 => z = b2i (wbi V sh lo w) ∧ xof [200, 201] M M2)) := by
  refine x_met uX7_wouldBeIn (by decide) (Nat.le_of_ble_eq_true rfl) ?_
  intro Γ G Rt _
  have G : xG Γ RX7 cX7_wouldBeIn 4 4 100 0 0 := G
  have Rt : xRt Γ (xPI n T (fun z M2 => z = b2i (wbi V sh lo w) ∧ xof [200, 201] M M2)) (some .boolean) 0 0 := Rt
  show xX Γ 0 0 n T 0 [(0, xR 195), (1, xI sh), (2, xI lo), (3, xI w)] [] M
  have hc := ok_c hv
  have hsw := ok_s hv hsh.1 hsh.2
  refine x_aload_n G 0 rfl rfl dX7_wouldBeIn_0 ?_
  refine x_get G (xI (M 195 8)) xf7_8 lk_X7_103 (ly_n hY 195 (by decide)) (ly_k hY 195 (by decide)) (Or.inl ⟨rfl, rfl⟩) dX7_wouldBeIn_1 ?_
  rw [show M 195 8 = ((smL V sh).length : Int) from hw.1]
  refine x_aload_n G 0 rfl rfl dX7_wouldBeIn_4 ?_
  refine x_get G (xR 196) xf7_0 lk_X7_7 (ly_n hY 195 (by decide)) (ly_k hY 195 (by decide)) (Or.inr ⟨rfl, _, (ly_r hY 195 0 (by decide) (by decide)), rfl⟩) dX7_wouldBeIn_5 ?_
  refine x_iconst G (by decide) dX7_wouldBeIn_8 ?_
  refine x_iload_n G 1 rfl rfl dX7_wouldBeIn_9 ?_
  refine x_iadd G (by omega) dX7_wouldBeIn_10 ?_
  refine x_iald G (ly_n hY 196 (by decide)) (ly_k hY 196 (by decide)) (show _ = 511 from ly_l hY 196 (by decide)) (by omega) (by omega) dX7_wouldBeIn_11 ?_
  rw [show M 196 (3 + sh).toNat = (V 11 sh.toNat) from (mr_sz hN (by omega))]
  refine x_icmp_lt G 37 (by decide) dX7_wouldBeIn_12 (fun c12 => ?_) (fun c12 => ?_)
  · skip
    refine x_iconst G (by decide) dX7_wouldBeIn_37 ?_
    refine x_goto G 42 (by decide) dX7_wouldBeIn_38 ?_
    exact x_zret G (by omega) Rt dX7_wouldBeIn_42 ⟨rfl, rfl, _, rfl, ⟨(b2i_t (Or.inl (full_y (by omega)))).symm, (xof_refl _ _)⟩⟩
  · skip
    refine x_aload_n G 0 rfl rfl dX7_wouldBeIn_15 ?_
    refine x_bipush G (by decide) dX7_wouldBeIn_16 ?_
    refine x_iload_n G 2 rfl rfl dX7_wouldBeIn_18 ?_
    refine x_iload_n G 3 rfl rfl dX7_wouldBeIn_19 ?_
    refine x_aload_n G 0 rfl rfl dX7_wouldBeIn_20 ?_
    refine x_get G (xR 202) xf7_7 lk_X7_29 (ly_n hY 195 (by decide)) (ly_k hY 195 (by decide)) (Or.inr ⟨rfl, _, (ly_r hY 195 7 (by decide) (by decide)), rfl⟩) dX7_wouldBeIn_21 ?_
    refine x_aload_n G 0 rfl rfl dX7_wouldBeIn_24 ?_
    refine x_get G (xI (M 195 8)) xf7_8 lk_X7_103 (ly_n hY 195 (by decide)) (ly_k hY 195 (by decide)) (Or.inl ⟨rfl, rfl⟩) dX7_wouldBeIn_25 ?_
    rw [show M 195 8 = ((smL V sh).length : Int) from hw.1]
    refine x_iconst G (by decide) dX7_wouldBeIn_28 ?_
    refine x_isub G (by omega) dX7_wouldBeIn_29 ?_
    refine x_iald G (ly_n hY 202 (by decide)) (ly_k hY 202 (by decide)) (show _ = 100 from ly_l hY 202 (by decide)) (by omega) (by omega) dX7_wouldBeIn_30 ?_
    rw [show M 202 (((smL V sh).length : Int) - 1).toNat = (((smL V sh).getD (((smL V sh).length : Int) - 1).toNat 0 : Nat) : Int) from (hw.2 (((smL V sh).length : Int) - 1).toNat (by omega))]
    have hi9 := getD_in (L := smL V sh) (j := (((smL V sh).length : Int) - 1).toNat) (by omega)
    have hi8 := sm_it hs hi9
    have hfu := full_n (V := V) (sh := sh) (by omega) hsw.1.1
    have hit := hv.2.2.1 ((smL V sh).getD (((smL V sh).length : Int) - 1).toNat 0) hi8
    refine x_callVI G [] [xI 100, xI lo, xI w, xI (((smL V sh).getD (((smL V sh).length : Int) - 1).toNat 0 : Nat) : Int)] rfl (by decide) (ly_n hY 195 (by decide)) (ly_k hY 195 (by decide)) hy_X7_isAhead hi_X7_isAhead hs_X7_isAhead ml_X7_90 rfl rfl (kX7_isAhead _ _ V 100 lo w (((smL V sh).getD (((smL V sh).length : Int) - 1).toNat 0 : Nat) : Int) hY hN hv (by omega) (by omega) (by omega)) (by decide) (by decide) (Nat.le_of_ble_eq_true rfl) dX7_wouldBeIn_31 (fun z31 M31 h31 => ?_)
    rw [h31.1]
    show xX Γ 0 0 n T 34 [(0, xR 195), (1, xI sh), (2, xI lo), (3, xI w)] [xI (b2i (0 < kc lo w (V 7 (((smL V sh).getD (((smL V sh).length : Int) - 1).toNat 0 : Nat) : Int).toNat) (V 6 (((smL V sh).getD (((smL V sh).length : Int) - 1).toNat 0 : Nat) : Int).toNat) ∨ (kc lo w (V 7 (((smL V sh).getD (((smL V sh).length : Int) - 1).toNat 0 : Nat) : Int).toNat) (V 6 (((smL V sh).getD (((smL V sh).length : Int) - 1).toNat 0 : Nat) : Int).toNat) = 0 ∧ 100 < (((smL V sh).getD (((smL V sh).length : Int) - 1).toNat 0 : Nat) : Int))))] M31
    refine x_if_eq G 41 (by decide) dX7_wouldBeIn_34 (fun c34 => ?_) (fun c34 => ?_)
    · skip
      have c34 := b2i_eq0.mp c34
      refine x_iconst G (by decide) dX7_wouldBeIn_41 ?_
      exact x_zret G (by omega) Rt dX7_wouldBeIn_42 ⟨rfl, rfl, _, rfl, ⟨(by first | exact (b2i_t (Or.inr (by unfold rival; rw [hfu]; omega))).symm | exact (b2i_f (fun h => by rcases h with h | h; omega; unfold rival at h; rw [hfu] at h; omega)).symm), h31.2⟩⟩
    · skip
      have c34 := b2i_ne0.mp c34
      refine x_iconst G (by decide) dX7_wouldBeIn_37 ?_
      refine x_goto G 42 (by decide) dX7_wouldBeIn_38 ?_
      exact x_zret G (by omega) Rt dX7_wouldBeIn_42 ⟨rfl, rfl, _, rfl, ⟨(by first | exact (b2i_t (Or.inr (by unfold rival; rw [hfu]; omega))).symm | exact (b2i_f (fun h => by rcases h with h | h; omega; unfold rival at h; rw [hfu] at h; omega)).symm), h31.2⟩⟩
