theorem bnd_ok {R : Int × Int × Int} {V : xM} {f : Int → Int → pR} (h : R.1 = -1) : bnd R V f = f R.2.1 R.2.2 := if_pos h
theorem bnd_no {R : Int × Int × Int} {V : xM} {f : Int → Int → pR} (h : ¬ R.1 = -1) : bnd R V f = (R.1, 0, V) := if_neg h
abbrev PSt (M : xM) (bt : Int → Int) (len a f : Int) (V : xM) : Prop := TM M bt len ∧ M 146 3 = a ∧ M 146 4 = f ∧ (0 ≤ a ∧ a ≤ len) ∧ shw M 148 V
abbrev tfr (M M2 : xM) : Prop := ∀ q, q < 146 ∨ 161 ≤ q → M2 q = M q
abbrev PRes (M M2 : xM) (bt : Int → Int) (len : Int) (r : pR) : Prop := ∃ a2 V2, PSt M2 bt len a2 r.1 V2 ∧ (r.1 = -1 → a2 = r.2.1 ∧ V2 = r.2.2) ∧ VOK V2 ∧ tfr M M2
theorem tfr_refl (M : xM) : tfr M M := fun _ _ => rfl
theorem tfr_trans {M M1 M2 : xM} (h : tfr M M1) (h2 : tfr M1 M2) : tfr M M2 := fun q hq => (h2 q hq).trans (h q hq)
theorem tfr_st {M M1 : xM} {r j : Nat} {z : Int} (h : tfr M M1) (hr : 146 ≤ r ∧ r < 161) : tfr M (xst M1 r j z) := fun q hq => (xst_row (by omega)).trans (h q hq)
theorem ps_mk {M2 Mb V : xM} {bt : Int → Int} {len a f : Int} (h146 : M2 146 = tpM Mb a f 146) (h147 : M2 147 = Mb 147) (hM : TM Mb bt len) (ha : 0 ≤ a ∧ a ≤ len) (hV : shw M2 148 V) : PSt M2 bt len a f V := ⟨⟨by rw [h146, tp_2]; exact hM.1, fun k hk => by rw [h147]; exact hM.2 k hk⟩, by rw [h146, tp_3], by rw [h146, tp_4], ha, hV⟩
theorem pres_mk {M M2 V2 : xM} {bt : Int → Int} {len a2 f2 : Int} {r : pR} (e : r.1 = f2) (h : PSt M2 bt len a2 f2 V2) (h2 : f2 = -1 → a2 = r.2.1 ∧ V2 = r.2.2) (hv : VOK V2) (hf : tfr M M2) : PRes M M2 bt len r := ⟨a2, V2, by rw [e]; exact h, fun g => h2 (by rw [← e]; exact g), hv, hf⟩
set_option maxRecDepth 100000 in
set_option maxHeartbeats 4000000 in
theorem kX4_readSize (D : xD) (l : Launch) {n : Nat} {T : xT} {M : xM} (bt : Int → Int) (len : Int) (a : Int) (V : xM) (hY : LayOK n T) (hT : TB bt len) (hM : TM M bt len) (h3 : M 146 3 = a) (h4 : M 146 4 = -1) (ha : 0 ≤ a ∧ a ≤ len) (hV : shw M 148 V) (hv : VOK V) : xC D l uX4_readSize 2 64 0 0 [xR 146] n T M (xPV n T (fun M2 => PRes M M2 bt len (pSize bt a V))) := by
  refine x_met uX4_readSize (by decide) (Nat.le_of_ble_eq_true rfl) ?_
  intro Γ G Rt _
  have G : xG Γ RX4 cX4_readSize 3 2 64 0 0 := G
  have Rt : xRt Γ (xPV n T (fun M2 => PRes M M2 bt len (pSize bt a V))) none 0 0 := Rt
  show xX Γ 0 0 n T 0 [(0, xR 146)] [] M
  have hL := hT.1
  have hMl := hM.1
  have hsc := hv.1
  rw [← tp_id h3 h4]
  show xX Γ 0 0 n T 0 [(0, xR 146)] [] (xst (xst M 146 3 a) 146 4 (-1))
  refine x_aload_n G 0 rfl rfl dX4_readSize_0 ?_
  refine x_iconst G (by decide) dX4_readSize_1 ?_
  refine x_iconst G (by decide) dX4_readSize_2 ?_
  refine x_callVI G [] [xI 0, xI 3] rfl (by decide) (ly_n hY 146 (by decide)) (ly_k hY 146 (by decide)) hy_X4_number hi_X4_number hs_X4_number ml_X4_80 rfl rfl (kX4_number _ _ bt len a (-1) 0 3 hY hT (tm_tp hM) (tp_3 _ _ _) (tp_4 _ _ _) (by omega) (by omega)) (by decide) (by decide) (Nat.le_of_ble_eq_true rfl) dX4_readSize_3 (fun z3 M3 h3 => ?_)
  obtain ⟨a3, ha3, rfl, hz9, hw9⟩ := h3
  rw [tp_tp]
  obtain ⟨f3, hf9⟩ : ∃ p9 : Int, p9 = (if (-1) = -1 then (pnum bt a 0 3).1 else (-1)) := ⟨_, rfl⟩
  rw [← hf9]
  have hq3 : (f3 = -1 ∧ (-1) = -1 ∧ (pnum bt a 0 3).1 = -1 ∧ z3 = (pnum bt a 0 3).2.1 ∧ a3 = (pnum bt a 0 3).2.2 ∧ (0 ≤ z3 ∧ z3 ≤ 3)) ∨ (¬ f3 = -1 ∧ (((-1) = -1 ∧ f3 = (pnum bt a 0 3).1) ∨ (¬ (-1) = -1 ∧ f3 = (-1))) ∧ z3 = 0) := num_sum hf9 hz9 hw9 (pnum_b (bt := bt) (lo := 0) (hi := 3) hT (show 0 ≤ a by omega) (show a ≤ len by omega))
  clear hf9 hz9 hw9
  show xX Γ 0 0 n T 6 [(0, xR 146)] [xI z3] (xst (xst M 146 3 a3) 146 4 f3)
  refine x_istore_n G [(1, xI z3), (0, xR 146)] rfl (by decide) rfl dX4_readSize_6 ?_
  refine x_aload_n G 1 rfl rfl dX4_readSize_7 ?_
  refine x_iconst G (by decide) dX4_readSize_8 ?_
  refine x_bipush G (by decide) dX4_readSize_9 ?_
  refine x_callVI G [] [xI 1, xI 12] rfl (by decide) (ly_n hY 146 (by decide)) (ly_k hY 146 (by decide)) hy_X4_number hi_X4_number hs_X4_number ml_X4_80 rfl rfl (kX4_number _ _ bt len a3 f3 1 12 hY hT (tm_tp hM) (tp_3 _ _ _) (tp_4 _ _ _) (by omega) (by omega)) (by decide) (by decide) (Nat.le_of_ble_eq_true rfl) dX4_readSize_11 (fun z11 M11 h11 => ?_)
  obtain ⟨a11, ha11, rfl, hz9, hw9⟩ := h11
  rw [tp_tp]
  obtain ⟨f11, hf9⟩ : ∃ p9 : Int, p9 = (if f3 = -1 then (pnum bt a3 1 12).1 else f3) := ⟨_, rfl⟩
  rw [← hf9]
  have hq11 : (f11 = -1 ∧ f3 = -1 ∧ (pnum bt a3 1 12).1 = -1 ∧ z11 = (pnum bt a3 1 12).2.1 ∧ a11 = (pnum bt a3 1 12).2.2 ∧ (1 ≤ z11 ∧ z11 ≤ 12)) ∨ (¬ f11 = -1 ∧ ((f3 = -1 ∧ f11 = (pnum bt a3 1 12).1) ∨ (¬ f3 = -1 ∧ f11 = f3)) ∧ z11 = 1) := num_sum hf9 hz9 hw9 (pnum_b (bt := bt) (lo := 1) (hi := 12) hT (show 0 ≤ a3 by omega) (show a3 ≤ len by omega))
  clear hf9 hz9 hw9
  show xX Γ 0 0 n T 14 [(1, xI z3), (0, xR 146)] [xI z11] (xst (xst M 146 3 a11) 146 4 f11)
  refine x_istore_n G [(2, xI z11), (1, xI z3), (0, xR 146)] rfl (by decide) rfl dX4_readSize_14 ?_
  refine x_aload_n G 2 rfl rfl dX4_readSize_15 ?_
  refine x_get G (xI ((xst (xst M 146 3 a11) 146 4 f11) 146 4)) xf4_4 lk_X4_32 (ly_n hY 146 (by decide)) (ly_k hY 146 (by decide)) (Or.inl ⟨rfl, rfl⟩) dX4_readSize_16 ?_
  rw [show (xst (xst M 146 3 a11) 146 4 f11) 146 4 = f11 from (xst_same ..)]
  refine x_iconst G (by decide) dX4_readSize_19 ?_
  refine x_icmp_ne G 33 (by decide) dX4_readSize_20 (fun c20 => ?_) (fun c20 => ?_)
  · skip
    skip
    exact x_vret G Rt dX4_readSize_33 ⟨rfl, rfl, rfl, (by
          have e9 : (pSize bt a V).1 = f11 ∧ (f11 = -1 → a11 = (pSize bt a V).2.1 ∧ V = (pSize bt a V).2.2) := by
            unfold pSize
            rcases hq3 with ⟨k1, k2, k3, k4, k5, k6⟩ | ⟨k1, k2, k3⟩
            · rw [bnd_ok k3, ← k4, ← k5]
              rcases hq11 with ⟨k1, k2, k3, k4, k5, k6⟩ | ⟨k1, k2, k3⟩
              · rw [bnd_ok k3, ← k4, ← k5]
                exact ⟨by show -1 = _; omega, fun g => by omega⟩
              · rw [bnd_no (show ¬ (pnum bt a3 1 12).1 = -1 by omega)]
                exact ⟨by show (pnum bt a3 1 12).1 = _; omega, fun g => by omega⟩
            · rw [bnd_no (show ¬ (pnum bt a 0 3).1 = -1 by omega)]
              exact ⟨by show (pnum bt a 0 3).1 = _; omega, fun g => by omega⟩
          exact pres_mk e9.1 (ps_mk rfl (rfl.trans (tp_row (by decide))) hM (by omega) (shw_st (shw_st hV (by omega)) (by omega))) e9.2 hv (tfr_st (tfr_st (tfr_refl _) (by omega)) (by omega)))⟩
  · skip
    refine x_aload_n G 2 rfl rfl dX4_readSize_23 ?_
    refine x_get G (xR 148) xf4_1 lk_X4_18 (ly_n hY 146 (by decide)) (ly_k hY 146 (by decide)) (Or.inr ⟨rfl, _, (ly_r hY 146 1 (by decide) (by decide)), rfl⟩) dX4_readSize_24 ?_
    refine x_get G (xR (148 + 11)) xf3_8 lk_X4_84 (st_n (ly_st148 hY) 0 (by decide)) (st_k (ly_st148 hY) 0 (by decide)) (Or.inr ⟨rfl, _, (st_r (ly_st148 hY) 0 8 (by decide) (by decide)), rfl⟩) dX4_readSize_27 ?_
    refine x_iload_n G 1 rfl rfl dX4_readSize_30 ?_
    refine x_iload_n G 0 rfl rfl dX4_readSize_31 ?_
    refine x_iast G (st_n (ly_st148 hY) 11 (by decide)) (st_k (ly_st148 hY) 11 (by decide)) (show _ = 4 from st_l (ly_st148 hY) 11 (by decide)) (by omega) (by omega) dX4_readSize_32 ?_
    have hv2 : VOK (xst V 11 z3.toNat z11) := ok_size hv (by omega)
    exact x_vret G Rt dX4_readSize_33 ⟨rfl, rfl, rfl, (by
          have e9 : (pSize bt a V).1 = f11 ∧ (f11 = -1 → a11 = (pSize bt a V).2.1 ∧ (xst V 11 z3.toNat z11) = (pSize bt a V).2.2) := by
            unfold pSize
            rcases hq3 with ⟨k1, k2, k3, k4, k5, k6⟩ | ⟨k1, k2, k3⟩
            · rw [bnd_ok k3, ← k4, ← k5]
              rcases hq11 with ⟨k1, k2, k3, k4, k5, k6⟩ | ⟨k1, k2, k3⟩
              · rw [bnd_ok k3, ← k4, ← k5]
                exact ⟨by show -1 = _; omega, fun _ => ⟨rfl, rfl⟩⟩
              · rw [bnd_no (show ¬ (pnum bt a3 1 12).1 = -1 by omega)]
                exact ⟨by show (pnum bt a3 1 12).1 = _; omega, fun g => by omega⟩
            · rw [bnd_no (show ¬ (pnum bt a 0 3).1 = -1 by omega)]
              exact ⟨by show (pnum bt a 0 3).1 = _; omega, fun g => by omega⟩
          exact pres_mk e9.1 (ps_mk ((xst_row (by omega)).trans rfl) (((xst_row (by omega)).trans rfl).trans (tp_row (by decide))) hM (by omega) (shw_xst (shw_st (shw_st hV (by omega)) (by omega)) (k := 11) (by decide))) e9.2 hv2 (tfr_st (tfr_st (tfr_st (tfr_refl _) (by omega)) (by omega)) (by omega)))⟩
set_option maxRecDepth 100000 in
set_option maxHeartbeats 4000000 in
theorem kX4_readWindow (D : xD) (l : Launch) {n : Nat} {T : xT} {M : xM} (bt : Int → Int) (len : Int) (a : Int) (V : xM) (hY : LayOK n T) (hT : TB bt len) (hM : TM M bt len) (h3 : M 146 3 = a) (h4 : M 146 4 = -1) (ha : 0 ≤ a ∧ a ≤ len) (hV : shw M 148 V) (hv : VOK V) : xC D l uX4_readWindow 2 64 0 0 [xR 146] n T M (xPV n T (fun M2 => PRes M M2 bt len (pWind bt a V))) := by
  refine x_met uX4_readWindow (by decide) (Nat.le_of_ble_eq_true rfl) ?_
  intro Γ G Rt _
  have G : xG Γ RX4 cX4_readWindow 3 2 64 0 0 := G
  have Rt : xRt Γ (xPV n T (fun M2 => PRes M M2 bt len (pWind bt a V))) none 0 0 := Rt
  show xX Γ 0 0 n T 0 [(0, xR 146)] [] M
  have hL := hT.1
  have hMl := hM.1
  have hsc := hv.1
  rw [← tp_id h3 h4]
  show xX Γ 0 0 n T 0 [(0, xR 146)] [] (xst (xst M 146 3 a) 146 4 (-1))
  refine x_aload_n G 0 rfl rfl dX4_readWindow_0 ?_
  refine x_iconst G (by decide) dX4_readWindow_1 ?_
  refine x_iconst G (by decide) dX4_readWindow_2 ?_
  refine x_callVI G [] [xI 0, xI 3] rfl (by decide) (ly_n hY 146 (by decide)) (ly_k hY 146 (by decide)) hy_X4_number hi_X4_number hs_X4_number ml_X4_80 rfl rfl (kX4_number _ _ bt len a (-1) 0 3 hY hT (tm_tp hM) (tp_3 _ _ _) (tp_4 _ _ _) (by omega) (by omega)) (by decide) (by decide) (Nat.le_of_ble_eq_true rfl) dX4_readWindow_3 (fun z3 M3 h3 => ?_)
  obtain ⟨a3, ha3, rfl, hz9, hw9⟩ := h3
  rw [tp_tp]
  obtain ⟨f3, hf9⟩ : ∃ p9 : Int, p9 = (if (-1) = -1 then (pnum bt a 0 3).1 else (-1)) := ⟨_, rfl⟩
  rw [← hf9]
  have hq3 : (f3 = -1 ∧ (-1) = -1 ∧ (pnum bt a 0 3).1 = -1 ∧ z3 = (pnum bt a 0 3).2.1 ∧ a3 = (pnum bt a 0 3).2.2 ∧ (0 ≤ z3 ∧ z3 ≤ 3)) ∨ (¬ f3 = -1 ∧ (((-1) = -1 ∧ f3 = (pnum bt a 0 3).1) ∨ (¬ (-1) = -1 ∧ f3 = (-1))) ∧ z3 = 0) := num_sum hf9 hz9 hw9 (pnum_b (bt := bt) (lo := 0) (hi := 3) hT (show 0 ≤ a by omega) (show a ≤ len by omega))
  clear hf9 hz9 hw9
  show xX Γ 0 0 n T 6 [(0, xR 146)] [xI z3] (xst (xst M 146 3 a3) 146 4 f3)
  refine x_istore_n G [(1, xI z3), (0, xR 146)] rfl (by decide) rfl dX4_readWindow_6 ?_
  refine x_aload_n G 1 rfl rfl dX4_readWindow_7 ?_
  refine x_iconst G (by decide) dX4_readWindow_8 ?_
  refine x_sipush G (by decide) dX4_readWindow_9 ?_
  refine x_callVI G [] [xI 0, xI 9999] rfl (by decide) (ly_n hY 146 (by decide)) (ly_k hY 146 (by decide)) hy_X4_number hi_X4_number hs_X4_number ml_X4_80 rfl rfl (kX4_number _ _ bt len a3 f3 0 9999 hY hT (tm_tp hM) (tp_3 _ _ _) (tp_4 _ _ _) (by omega) (by omega)) (by decide) (by decide) (Nat.le_of_ble_eq_true rfl) dX4_readWindow_12 (fun z12 M12 h12 => ?_)
  obtain ⟨a12, ha12, rfl, hz9, hw9⟩ := h12
  rw [tp_tp]
  obtain ⟨f12, hf9⟩ : ∃ p9 : Int, p9 = (if f3 = -1 then (pnum bt a3 0 9999).1 else f3) := ⟨_, rfl⟩
  rw [← hf9]
  have hq12 : (f12 = -1 ∧ f3 = -1 ∧ (pnum bt a3 0 9999).1 = -1 ∧ z12 = (pnum bt a3 0 9999).2.1 ∧ a12 = (pnum bt a3 0 9999).2.2 ∧ (0 ≤ z12 ∧ z12 ≤ 9999)) ∨ (¬ f12 = -1 ∧ ((f3 = -1 ∧ f12 = (pnum bt a3 0 9999).1) ∨ (¬ f3 = -1 ∧ f12 = f3)) ∧ z12 = 0) := num_sum hf9 hz9 hw9 (pnum_b (bt := bt) (lo := 0) (hi := 9999) hT (show 0 ≤ a3 by omega) (show a3 ≤ len by omega))
  clear hf9 hz9 hw9
  show xX Γ 0 0 n T 15 [(1, xI z3), (0, xR 146)] [xI z12] (xst (xst M 146 3 a12) 146 4 f12)
  refine x_istore_n G [(2, xI z12), (1, xI z3), (0, xR 146)] rfl (by decide) rfl dX4_readWindow_15 ?_
  refine x_aload_n G 2 rfl rfl dX4_readWindow_16 ?_
  refine x_get G (xI ((xst (xst M 146 3 a12) 146 4 f12) 146 4)) xf4_4 lk_X4_32 (ly_n hY 146 (by decide)) (ly_k hY 146 (by decide)) (Or.inl ⟨rfl, rfl⟩) dX4_readWindow_17 ?_
  rw [show (xst (xst M 146 3 a12) 146 4 f12) 146 4 = f12 from (xst_same ..)]
  refine x_iconst G (by decide) dX4_readWindow_20 ?_
  refine x_icmp_ne G 34 (by decide) dX4_readWindow_21 (fun c21 => ?_) (fun c21 => ?_)
  · skip
    skip
    exact x_vret G Rt dX4_readWindow_34 ⟨rfl, rfl, rfl, (by
          have e9 : (pWind bt a V).1 = f12 ∧ (f12 = -1 → a12 = (pWind bt a V).2.1 ∧ V = (pWind bt a V).2.2) := by
            unfold pWind
            rcases hq3 with ⟨k1, k2, k3, k4, k5, k6⟩ | ⟨k1, k2, k3⟩
            · rw [bnd_ok k3, ← k4, ← k5]
              rcases hq12 with ⟨k1, k2, k3, k4, k5, k6⟩ | ⟨k1, k2, k3⟩
              · rw [bnd_ok k3, ← k4, ← k5]
                exact ⟨by show -1 = _; omega, fun g => by omega⟩
              · rw [bnd_no (show ¬ (pnum bt a3 0 9999).1 = -1 by omega)]
                exact ⟨by show (pnum bt a3 0 9999).1 = _; omega, fun g => by omega⟩
            · rw [bnd_no (show ¬ (pnum bt a 0 3).1 = -1 by omega)]
              exact ⟨by show (pnum bt a 0 3).1 = _; omega, fun g => by omega⟩
          exact pres_mk e9.1 (ps_mk rfl (rfl.trans (tp_row (by decide))) hM (by omega) (shw_st (shw_st hV (by omega)) (by omega))) e9.2 hv (tfr_st (tfr_st (tfr_refl _) (by omega)) (by omega)))⟩
  · skip
    refine x_aload_n G 2 rfl rfl dX4_readWindow_24 ?_
    refine x_get G (xR 148) xf4_1 lk_X4_18 (ly_n hY 146 (by decide)) (ly_k hY 146 (by decide)) (Or.inr ⟨rfl, _, (ly_r hY 146 1 (by decide) (by decide)), rfl⟩) dX4_readWindow_25 ?_
    refine x_get G (xR (148 + 12)) xf3_9 lk_X4_87 (st_n (ly_st148 hY) 0 (by decide)) (st_k (ly_st148 hY) 0 (by decide)) (Or.inr ⟨rfl, _, (st_r (ly_st148 hY) 0 9 (by decide) (by decide)), rfl⟩) dX4_readWindow_28 ?_
    refine x_iload_n G 1 rfl rfl dX4_readWindow_31 ?_
    refine x_iload_n G 0 rfl rfl dX4_readWindow_32 ?_
    refine x_iast G (st_n (ly_st148 hY) 12 (by decide)) (st_k (ly_st148 hY) 12 (by decide)) (show _ = 4 from st_l (ly_st148 hY) 12 (by decide)) (by omega) (by omega) dX4_readWindow_33 ?_
    have hv2 : VOK (xst V 12 z3.toNat z12) := ok_wind hv (by omega)
    exact x_vret G Rt dX4_readWindow_34 ⟨rfl, rfl, rfl, (by
          have e9 : (pWind bt a V).1 = f12 ∧ (f12 = -1 → a12 = (pWind bt a V).2.1 ∧ (xst V 12 z3.toNat z12) = (pWind bt a V).2.2) := by
            unfold pWind
            rcases hq3 with ⟨k1, k2, k3, k4, k5, k6⟩ | ⟨k1, k2, k3⟩
            · rw [bnd_ok k3, ← k4, ← k5]
              rcases hq12 with ⟨k1, k2, k3, k4, k5, k6⟩ | ⟨k1, k2, k3⟩
              · rw [bnd_ok k3, ← k4, ← k5]
                exact ⟨by show -1 = _; omega, fun _ => ⟨rfl, rfl⟩⟩
              · rw [bnd_no (show ¬ (pnum bt a3 0 9999).1 = -1 by omega)]
                exact ⟨by show (pnum bt a3 0 9999).1 = _; omega, fun g => by omega⟩
            · rw [bnd_no (show ¬ (pnum bt a 0 3).1 = -1 by omega)]
              exact ⟨by show (pnum bt a 0 3).1 = _; omega, fun g => by omega⟩
          exact pres_mk e9.1 (ps_mk ((xst_row (by omega)).trans rfl) (((xst_row (by omega)).trans rfl).trans (tp_row (by decide))) hM (by omega) (shw_xst (shw_st (shw_st hV (by omega)) (by omega)) (k := 12) (by decide))) e9.2 hv2 (tfr_st (tfr_st (tfr_st (tfr_refl _) (by omega)) (by omega)) (by omega)))⟩
set_option maxRecDepth 100000 in
set_option maxHeartbeats 4000000 in
theorem kX4_readSeed (D : xD) (l : Launch) {n : Nat} {T : xT} {M : xM} (bt : Int → Int) (len : Int) (a : Int) (V : xM) (hY : LayOK n T) (hT : TB bt len) (hM : TM M bt len) (h3 : M 146 3 = a) (h4 : M 146 4 = -1) (ha : 0 ≤ a ∧ a ≤ len) (hV : shw M 148 V) (hv : VOK V) : xC D l uX4_readSeed 2 64 0 0 [xR 146] n T M (xPV n T (fun M2 => PRes M M2 bt len (pSeed bt a V))) := by
  refine x_met uX4_readSeed (by decide) (Nat.le_of_ble_eq_true rfl) ?_
  intro Γ G Rt _
  have G : xG Γ RX4 cX4_readSeed 2 2 64 0 0 := G
  have Rt : xRt Γ (xPV n T (fun M2 => PRes M M2 bt len (pSeed bt a V))) none 0 0 := Rt
  show xX Γ 0 0 n T 0 [(0, xR 146)] [] M
  have hL := hT.1
  have hMl := hM.1
  have hsc := hv.1
  rw [← tp_id h3 h4]
  show xX Γ 0 0 n T 0 [(0, xR 146)] [] (xst (xst M 146 3 a) 146 4 (-1))
  refine x_aload_n G 0 rfl rfl dX4_readSeed_0 ?_
  refine x_iconst G (by decide) dX4_readSeed_1 ?_
  refine x_ldc G (z := 65535) (by decide) kc_X4_90 dX4_readSeed_2 ?_
  refine x_callVI G [] [xI 0, xI 65535] rfl (by decide) (ly_n hY 146 (by decide)) (ly_k hY 146 (by decide)) hy_X4_number hi_X4_number hs_X4_number ml_X4_80 rfl rfl (kX4_number _ _ bt len a (-1) 0 65535 hY hT (tm_tp hM) (tp_3 _ _ _) (tp_4 _ _ _) (by omega) (by omega)) (by decide) (by decide) (Nat.le_of_ble_eq_true rfl) dX4_readSeed_4 (fun z4 M4 h4 => ?_)
  obtain ⟨a4, ha4, rfl, hz9, hw9⟩ := h4
  rw [tp_tp]
  obtain ⟨f4, hf9⟩ : ∃ p9 : Int, p9 = (if (-1) = -1 then (pnum bt a 0 65535).1 else (-1)) := ⟨_, rfl⟩
  rw [← hf9]
  have hq4 : (f4 = -1 ∧ (-1) = -1 ∧ (pnum bt a 0 65535).1 = -1 ∧ z4 = (pnum bt a 0 65535).2.1 ∧ a4 = (pnum bt a 0 65535).2.2 ∧ (0 ≤ z4 ∧ z4 ≤ 65535)) ∨ (¬ f4 = -1 ∧ (((-1) = -1 ∧ f4 = (pnum bt a 0 65535).1) ∨ (¬ (-1) = -1 ∧ f4 = (-1))) ∧ z4 = 0) := num_sum hf9 hz9 hw9 (pnum_b (bt := bt) (lo := 0) (hi := 65535) hT (show 0 ≤ a by omega) (show a ≤ len by omega))
  clear hf9 hz9 hw9
  show xX Γ 0 0 n T 7 [(0, xR 146)] [xI z4] (xst (xst M 146 3 a4) 146 4 f4)
  refine x_istore_n G [(1, xI z4), (0, xR 146)] rfl (by decide) rfl dX4_readSeed_7 ?_
  refine x_aload_n G 1 rfl rfl dX4_readSeed_8 ?_
  refine x_get G (xI ((xst (xst M 146 3 a4) 146 4 f4) 146 4)) xf4_4 lk_X4_32 (ly_n hY 146 (by decide)) (ly_k hY 146 (by decide)) (Or.inl ⟨rfl, rfl⟩) dX4_readSeed_9 ?_
  rw [show (xst (xst M 146 3 a4) 146 4 f4) 146 4 = f4 from (xst_same ..)]
  refine x_iconst G (by decide) dX4_readSeed_12 ?_
  refine x_icmp_ne G 24 (by decide) dX4_readSeed_13 (fun c13 => ?_) (fun c13 => ?_)
  · skip
    skip
    exact x_vret G Rt dX4_readSeed_24 ⟨rfl, rfl, rfl, (by
          have e9 : (pSeed bt a V).1 = f4 ∧ (f4 = -1 → a4 = (pSeed bt a V).2.1 ∧ V = (pSeed bt a V).2.2) := by
            unfold pSeed
            rcases hq4 with ⟨k1, k2, k3, k4, k5, k6⟩ | ⟨k1, k2, k3⟩
            · rw [bnd_ok k3, ← k4, ← k5]
              exact ⟨by show -1 = _; omega, fun g => by omega⟩
            · rw [bnd_no (show ¬ (pnum bt a 0 65535).1 = -1 by omega)]
              exact ⟨by show (pnum bt a 0 65535).1 = _; omega, fun g => by omega⟩
          exact pres_mk e9.1 (ps_mk rfl (rfl.trans (tp_row (by decide))) hM (by omega) (shw_st (shw_st hV (by omega)) (by omega))) e9.2 hv (tfr_st (tfr_st (tfr_refl _) (by omega)) (by omega)))⟩
  · skip
    refine x_aload_n G 1 rfl rfl dX4_readSeed_16 ?_
    refine x_get G (xR 148) xf4_1 lk_X4_18 (ly_n hY 146 (by decide)) (ly_k hY 146 (by decide)) (Or.inr ⟨rfl, _, (ly_r hY 146 1 (by decide) (by decide)), rfl⟩) dX4_readSeed_17 ?_
    refine x_iload_n G 0 rfl rfl dX4_readSeed_20 ?_
    refine x_put G  xf3_12 lk_X4_91 (st_n (ly_st148 hY) 0 (by decide)) (st_k (ly_st148 hY) 0 (by decide)) rfl dX4_readSeed_21 ?_
    have hv2 : VOK (xst V 0 12 z4) := ok_seed hv (by omega)
    exact x_vret G Rt dX4_readSeed_24 ⟨rfl, rfl, rfl, (by
          have e9 : (pSeed bt a V).1 = f4 ∧ (f4 = -1 → a4 = (pSeed bt a V).2.1 ∧ (xst V 0 12 z4) = (pSeed bt a V).2.2) := by
            unfold pSeed
            rcases hq4 with ⟨k1, k2, k3, k4, k5, k6⟩ | ⟨k1, k2, k3⟩
            · rw [bnd_ok k3, ← k4, ← k5]
              exact ⟨by show -1 = _; omega, fun _ => ⟨rfl, rfl⟩⟩
            · rw [bnd_no (show ¬ (pnum bt a 0 65535).1 = -1 by omega)]
              exact ⟨by show (pnum bt a 0 65535).1 = _; omega, fun g => by omega⟩
          exact pres_mk e9.1 (ps_mk ((xst_row (by omega)).trans rfl) (((xst_row (by omega)).trans rfl).trans (tp_row (by decide))) hM (by omega) (shw_xst (shw_st (shw_st hV (by omega)) (by omega)) (k := 0) (by decide))) e9.2 hv2 (tfr_st (tfr_st (tfr_st (tfr_refl _) (by omega)) (by omega)) (by omega)))⟩
set_option maxRecDepth 100000 in
set_option maxHeartbeats 4000000 in
theorem kX4_readWait (D : xD) (l : Launch) {n : Nat} {T : xT} {M : xM} (bt : Int → Int) (len : Int) (a : Int) (V : xM) (st : Int) (hY : LayOK n T) (hT : TB bt len) (hM : TM M bt len) (h3 : M 146 3 = a) (h4 : M 146 4 = -1) (ha : 0 ≤ a ∧ a ≤ len) (hV : shw M 148 V) (hv : VOK V) (hst : 0 ≤ st ∧ st ≤ len) : xC D l uX4_readWait 2 64 0 0 [xR 146, xI st] n T M (xPV n T (fun M2 => PRes M M2 bt len (pWait bt st a V))) := by
  refine x_met uX4_readWait (by decide) (Nat.le_of_ble_eq_true rfl) ?_
  intro Γ G Rt _
  have G : xG Γ RX4 cX4_readWait 3 2 64 0 0 := G
  have Rt : xRt Γ (xPV n T (fun M2 => PRes M M2 bt len (pWait bt st a V))) none 0 0 := Rt
  show xX Γ 0 0 n T 0 [(0, xR 146), (1, xI st)] [] M
  have hL := hT.1
  have hMl := hM.1
  have hsc := hv.1
  rw [← tp_id h3 h4]
  show xX Γ 0 0 n T 0 [(0, xR 146), (1, xI st)] [] (xst (xst M 146 3 a) 146 4 (-1))
  refine x_aload_n G 0 rfl rfl dX4_readWait_0 ?_
  refine x_iconst G (by decide) dX4_readWait_1 ?_
  refine x_sipush G (by decide) dX4_readWait_2 ?_
  refine x_callVI G [] [xI 0, xI 9999] rfl (by decide) (ly_n hY 146 (by decide)) (ly_k hY 146 (by decide)) hy_X4_number hi_X4_number hs_X4_number ml_X4_80 rfl rfl (kX4_number _ _ bt len a (-1) 0 9999 hY hT (tm_tp hM) (tp_3 _ _ _) (tp_4 _ _ _) (by omega) (by omega)) (by decide) (by decide) (Nat.le_of_ble_eq_true rfl) dX4_readWait_5 (fun z5 M5 h5 => ?_)
  obtain ⟨a5, ha5, rfl, hz9, hw9⟩ := h5
  rw [tp_tp]
  obtain ⟨f5, hf9⟩ : ∃ p9 : Int, p9 = (if (-1) = -1 then (pnum bt a 0 9999).1 else (-1)) := ⟨_, rfl⟩
  rw [← hf9]
  have hq5 : (f5 = -1 ∧ (-1) = -1 ∧ (pnum bt a 0 9999).1 = -1 ∧ z5 = (pnum bt a 0 9999).2.1 ∧ a5 = (pnum bt a 0 9999).2.2 ∧ (0 ≤ z5 ∧ z5 ≤ 9999)) ∨ (¬ f5 = -1 ∧ (((-1) = -1 ∧ f5 = (pnum bt a 0 9999).1) ∨ (¬ (-1) = -1 ∧ f5 = (-1))) ∧ z5 = 0) := num_sum hf9 hz9 hw9 (pnum_b (bt := bt) (lo := 0) (hi := 9999) hT (show 0 ≤ a by omega) (show a ≤ len by omega))
  clear hf9 hz9 hw9
  show xX Γ 0 0 n T 8 [(0, xR 146), (1, xI st)] [xI z5] (xst (xst M 146 3 a5) 146 4 f5)
  refine x_istore_n G [(2, xI z5), (0, xR 146), (1, xI st)] rfl (by decide) rfl dX4_readWait_8 ?_
  refine x_aload_n G 1 rfl rfl dX4_readWait_9 ?_
  refine x_get G (xR 148) xf4_1 lk_X4_18 (ly_n hY 146 (by decide)) (ly_k hY 146 (by decide)) (Or.inr ⟨rfl, _, (ly_r hY 146 1 (by decide) (by decide)), rfl⟩) dX4_readWait_10 ?_
  refine x_get G (xI ((xst (xst M 146 3 a5) 146 4 f5) 148 11)) xf3_11 lk_X4_93 (st_n (ly_st148 hY) 0 (by decide)) (st_k (ly_st148 hY) 0 (by decide)) (Or.inl ⟨rfl, rfl⟩) dX4_readWait_13 ?_
  rw [show (xst (xst M 146 3 a5) 146 4 f5) 148 11 = (V 0 11) from ((xst_nq (by omega)).trans ((xst_nq (by omega)).trans (congrFun (hV 0 (by decide) (by decide) (by decide)) 11)))]
  refine x_iload_n G 0 rfl rfl dX4_readWait_16 ?_
  refine x_iadd G (by omega) dX4_readWait_17 ?_
  refine x_ldc G (z := 99999) (by decide) kc_X4_96 dX4_readWait_18 ?_
  refine x_icmp_le G 29 (by decide) dX4_readWait_20 (fun c20 => ?_) (fun c20 => ?_)
  · skip
    refine x_aload_n G 1 rfl rfl dX4_readWait_29 ?_
    refine x_get G (xI ((xst (xst M 146 3 a5) 146 4 f5) 146 4)) xf4_4 lk_X4_32 (ly_n hY 146 (by decide)) (ly_k hY 146 (by decide)) (Or.inl ⟨rfl, rfl⟩) dX4_readWait_30 ?_
    rw [show (xst (xst M 146 3 a5) 146 4 f5) 146 4 = f5 from (xst_same ..)]
    refine x_iconst G (by decide) dX4_readWait_33 ?_
    refine x_icmp_ne G 50 (by decide) dX4_readWait_34 (fun c34 => ?_) (fun c34 => ?_)
    · skip
      skip
      exact x_vret G Rt dX4_readWait_50 ⟨rfl, rfl, rfl, (by
          have e9 : (pWait bt st a V).1 = f5 ∧ (f5 = -1 → a5 = (pWait bt st a V).2.1 ∧ V = (pWait bt st a V).2.2) := by
            unfold pWait
            rcases hq5 with ⟨k1, k2, k3, k4, k5, k6⟩ | ⟨k1, k2, k3⟩
            · rw [bnd_ok k3, ← k4, ← k5]
              rw [if_neg (by omega)]
              exact ⟨by show -1 = _; omega, fun g => by omega⟩
            · rw [bnd_no (show ¬ (pnum bt a 0 9999).1 = -1 by omega)]
              exact ⟨by show (pnum bt a 0 9999).1 = _; omega, fun g => by omega⟩
          exact pres_mk e9.1 (ps_mk rfl (rfl.trans (tp_row (by decide))) hM (by omega) (shw_st (shw_st hV (by omega)) (by omega))) e9.2 hv (tfr_st (tfr_st (tfr_refl _) (by omega)) (by omega)))⟩
    · skip
      refine x_aload_n G 1 rfl rfl dX4_readWait_37 ?_
      refine x_get G (xR 148) xf4_1 lk_X4_18 (ly_n hY 146 (by decide)) (ly_k hY 146 (by decide)) (Or.inr ⟨rfl, _, (ly_r hY 146 1 (by decide) (by decide)), rfl⟩) dX4_readWait_38 ?_
      refine x_dup G rfl dX4_readWait_41 ?_
      refine x_get G (xI ((xst (xst M 146 3 a5) 146 4 f5) 148 11)) xf3_11 lk_X4_93 (st_n (ly_st148 hY) 0 (by decide)) (st_k (ly_st148 hY) 0 (by decide)) (Or.inl ⟨rfl, rfl⟩) dX4_readWait_42 ?_
      rw [show (xst (xst M 146 3 a5) 146 4 f5) 148 11 = (V 0 11) from ((xst_nq (by omega)).trans ((xst_nq (by omega)).trans (congrFun (hV 0 (by decide) (by decide) (by decide)) 11)))]
      refine x_iload_n G 0 rfl rfl dX4_readWait_45 ?_
      refine x_iadd G (by omega) dX4_readWait_46 ?_
      refine x_put G  xf3_11 lk_X4_93 (st_n (ly_st148 hY) 0 (by decide)) (st_k (ly_st148 hY) 0 (by decide)) rfl dX4_readWait_47 ?_
      have hv2 : VOK (xst V 0 11 ((V 0 11) + z5)) := ok_tick hv (by omega)
      exact x_vret G Rt dX4_readWait_50 ⟨rfl, rfl, rfl, (by
          have e9 : (pWait bt st a V).1 = f5 ∧ (f5 = -1 → a5 = (pWait bt st a V).2.1 ∧ (xst V 0 11 ((V 0 11) + z5)) = (pWait bt st a V).2.2) := by
            unfold pWait
            rcases hq5 with ⟨k1, k2, k3, k4, k5, k6⟩ | ⟨k1, k2, k3⟩
            · rw [bnd_ok k3, ← k4, ← k5]
              rw [if_neg (by omega)]
              exact ⟨by show -1 = _; omega, fun _ => ⟨rfl, rfl⟩⟩
            · rw [bnd_no (show ¬ (pnum bt a 0 9999).1 = -1 by omega)]
              exact ⟨by show (pnum bt a 0 9999).1 = _; omega, fun g => by omega⟩
          exact pres_mk e9.1 (ps_mk ((xst_row (by omega)).trans rfl) (((xst_row (by omega)).trans rfl).trans (tp_row (by decide))) hM (by omega) (shw_xst (shw_st (shw_st hV (by omega)) (by omega)) (k := 0) (by decide))) e9.2 hv2 (tfr_st (tfr_st (tfr_st (tfr_refl _) (by omega)) (by omega)) (by omega)))⟩
  · skip
    refine x_aload_n G 1 rfl rfl dX4_readWait_23 ?_
    refine x_iload_n G 2 rfl rfl dX4_readWait_24 ?_
    refine x_iconst G (by decide) dX4_readWait_25 ?_
    refine x_callVV G [] [xI st, xI 3] rfl (by decide) (ly_n hY 146 (by decide)) (ly_k hY 146 (by decide)) hy_X4_meet hi_X4_meet hs_X4_meet ml_X4_41 rfl rfl (kX4_meet _ _ bt len a5 f5 st 3 hY hT (tm_tp hM) (tp_3 _ _ _) (tp_4 _ _ _) (by omega) (by omega) (by omega)) (by decide) (by decide) (Nat.le_of_ble_eq_true rfl) dX4_readWait_26 (fun M26 h26 => ?_)
    subst h26
    rw [tp_tp]
    obtain ⟨f26, hf26⟩ : ∃ p9 : Int, p9 = (if f5 = -1 then 8 * st + 3 else f5) := ⟨_, rfl⟩
    rw [← hf26]
    have hg26 : (f5 = -1 ∧ f26 = 8 * st + 3) ∨ (¬ f5 = -1 ∧ f26 = f5) := by (split at hf26 <;> omega)
    show xX Γ 0 0 n T 29 [(2, xI z5), (0, xR 146), (1, xI st)] [] (xst (xst M 146 3 a5) 146 4 f26)
    refine x_aload_n G 1 rfl rfl dX4_readWait_29 ?_
    refine x_get G (xI ((xst (xst M 146 3 a5) 146 4 f26) 146 4)) xf4_4 lk_X4_32 (ly_n hY 146 (by decide)) (ly_k hY 146 (by decide)) (Or.inl ⟨rfl, rfl⟩) dX4_readWait_30 ?_
    rw [show (xst (xst M 146 3 a5) 146 4 f26) 146 4 = f26 from (xst_same ..)]
    refine x_iconst G (by decide) dX4_readWait_33 ?_
    refine x_icmp_ne G 50 (by decide) dX4_readWait_34 (fun c34 => ?_) (fun c34 => ?_)
    · skip
      skip
      exact x_vret G Rt dX4_readWait_50 ⟨rfl, rfl, rfl, (by
          have e9 : (pWait bt st a V).1 = f26 ∧ (f26 = -1 → a5 = (pWait bt st a V).2.1 ∧ V = (pWait bt st a V).2.2) := by
            unfold pWait
            rcases hq5 with ⟨k1, k2, k3, k4, k5, k6⟩ | ⟨k1, k2, k3⟩
            · rw [bnd_ok k3, ← k4, ← k5]
              rw [if_pos (by omega)]
              exact ⟨by show 8 * st + 3 = _; omega, fun g => by omega⟩
            · rw [bnd_no (show ¬ (pnum bt a 0 9999).1 = -1 by omega)]
              exact ⟨by show (pnum bt a 0 9999).1 = _; omega, fun g => by omega⟩
          exact pres_mk e9.1 (ps_mk rfl (rfl.trans (tp_row (by decide))) hM (by omega) (shw_st (shw_st hV (by omega)) (by omega))) e9.2 hv (tfr_st (tfr_st (tfr_refl _) (by omega)) (by omega)))⟩
    · skip
      refine x_aload_n G 1 rfl rfl dX4_readWait_37 ?_
      refine x_get G (xR 148) xf4_1 lk_X4_18 (ly_n hY 146 (by decide)) (ly_k hY 146 (by decide)) (Or.inr ⟨rfl, _, (ly_r hY 146 1 (by decide) (by decide)), rfl⟩) dX4_readWait_38 ?_
      refine x_dup G rfl dX4_readWait_41 ?_
      refine x_get G (xI ((xst (xst M 146 3 a5) 146 4 f26) 148 11)) xf3_11 lk_X4_93 (st_n (ly_st148 hY) 0 (by decide)) (st_k (ly_st148 hY) 0 (by decide)) (Or.inl ⟨rfl, rfl⟩) dX4_readWait_42 ?_
      rw [show (xst (xst M 146 3 a5) 146 4 f26) 148 11 = (V 0 11) from ((xst_nq (by omega)).trans ((xst_nq (by omega)).trans (congrFun (hV 0 (by decide) (by decide) (by decide)) 11)))]
      refine x_iload_n G 0 rfl rfl dX4_readWait_45 ?_
      refine x_iadd G (by omega) dX4_readWait_46 ?_
      refine x_put G  xf3_11 lk_X4_93 (st_n (ly_st148 hY) 0 (by decide)) (st_k (ly_st148 hY) 0 (by decide)) rfl dX4_readWait_47 ?_
      have hv2 : VOK (xst V 0 11 ((V 0 11) + z5)) := ok_tick hv (by omega)
      exact x_vret G Rt dX4_readWait_50 ⟨rfl, rfl, rfl, (by
          have e9 : (pWait bt st a V).1 = f26 ∧ (f26 = -1 → a5 = (pWait bt st a V).2.1 ∧ (xst V 0 11 ((V 0 11) + z5)) = (pWait bt st a V).2.2) := by
            unfold pWait
            rcases hq5 with ⟨k1, k2, k3, k4, k5, k6⟩ | ⟨k1, k2, k3⟩
            · rw [bnd_ok k3, ← k4, ← k5]
              exfalso; omega
            · rw [bnd_no (show ¬ (pnum bt a 0 9999).1 = -1 by omega)]
              exact ⟨by show (pnum bt a 0 9999).1 = _; omega, fun g => by omega⟩
          exact pres_mk e9.1 (ps_mk ((xst_row (by omega)).trans rfl) (((xst_row (by omega)).trans rfl).trans (tp_row (by decide))) hM (by omega) (shw_xst (shw_st (shw_st hV (by omega)) (by omega)) (k := 0) (by decide))) e9.2 hv2 (tfr_st (tfr_st (tfr_st (tfr_refl _) (by omega)) (by omega)) (by omega)))⟩
set_option maxRecDepth 100000 in
set_option maxHeartbeats 4000000 in
theorem kX4_readKey (D : xD) (l : Launch) {n : Nat} {T : xT} {M : xM} (bt : Int → Int) (len : Int) (a : Int) (V : xM) (st : Int) (hY : LayOK n T) (hT : TB bt len) (hM : TM M bt len) (h3 : M 146 3 = a) (h4 : M 146 4 = -1) (ha : 0 ≤ a ∧ a ≤ len) (hV : shw M 148 V) (hv : VOK V) (hst : 0 ≤ st ∧ st ≤ len) : xC D l uX4_readKey 3 64 0 0 [xR 146, xI st] n T M (xPV n T (fun M2 => PRes M M2 bt len (pKey bt st a V))) := by
  refine x_met uX4_readKey (by decide) (Nat.le_of_ble_eq_true rfl) ?_
  intro Γ G Rt _
  have G : xG Γ RX4 cX4_readKey 6 3 64 0 0 := G
  have Rt : xRt Γ (xPV n T (fun M2 => PRes M M2 bt len (pKey bt st a V))) none 0 0 := Rt
  show xX Γ 0 0 n T 0 [(0, xR 146), (1, xI st)] [] M
  have hL := hT.1
  have hMl := hM.1
  have hsc := hv.1
  rw [← tp_id h3 h4]
  show xX Γ 0 0 n T 0 [(0, xR 146), (1, xI st)] [] (xst (xst M 146 3 a) 146 4 (-1))
  refine x_aload_n G 0 rfl rfl dX4_readKey_0 ?_
  refine x_iconst G (by decide) dX4_readKey_1 ?_
  refine x_iconst G (by decide) dX4_readKey_2 ?_
  refine x_callVI G [] [xI 0, xI 3] rfl (by decide) (ly_n hY 146 (by decide)) (ly_k hY 146 (by decide)) hy_X4_number hi_X4_number hs_X4_number ml_X4_80 rfl rfl (kX4_number _ _ bt len a (-1) 0 3 hY hT (tm_tp hM) (tp_3 _ _ _) (tp_4 _ _ _) (by omega) (by omega)) (by decide) (by decide) (Nat.le_of_ble_eq_true rfl) dX4_readKey_3 (fun z3 M3 h3 => ?_)
  obtain ⟨a3, ha3, rfl, hz9, hw9⟩ := h3
  rw [tp_tp]
  obtain ⟨f3, hf9⟩ : ∃ p9 : Int, p9 = (if (-1) = -1 then (pnum bt a 0 3).1 else (-1)) := ⟨_, rfl⟩
  rw [← hf9]
  have hq3 : (f3 = -1 ∧ (-1) = -1 ∧ (pnum bt a 0 3).1 = -1 ∧ z3 = (pnum bt a 0 3).2.1 ∧ a3 = (pnum bt a 0 3).2.2 ∧ (0 ≤ z3 ∧ z3 ≤ 3)) ∨ (¬ f3 = -1 ∧ (((-1) = -1 ∧ f3 = (pnum bt a 0 3).1) ∨ (¬ (-1) = -1 ∧ f3 = (-1))) ∧ z3 = 0) := num_sum hf9 hz9 hw9 (pnum_b (bt := bt) (lo := 0) (hi := 3) hT (show 0 ≤ a by omega) (show a ≤ len by omega))
  clear hf9 hz9 hw9
  show xX Γ 0 0 n T 6 [(0, xR 146), (1, xI st)] [xI z3] (xst (xst M 146 3 a3) 146 4 f3)
  refine x_istore_n G [(2, xI z3), (0, xR 146), (1, xI st)] rfl (by decide) rfl dX4_readKey_6 ?_
  refine x_aload_n G 1 rfl rfl dX4_readKey_7 ?_
  refine x_callVI G [] [] rfl (by decide) (ly_n hY 146 (by decide)) (ly_k hY 146 (by decide)) hy_X4_label hi_X4_label hs_X4_label ml_X4_97 rfl rfl (kX4_label _ _ bt len a3 f3 hY hT (tm_tp hM) (tp_3 _ _ _) (tp_4 _ _ _) (by omega)) (by decide) (by decide) (Nat.le_of_ble_eq_true rfl) dX4_readKey_8 (fun z8 M8 h8 => ?_)
  obtain ⟨a8, ha8, rfl, hz9, hw9⟩ := h8
  rw [tp_tp]
  obtain ⟨f8, hf9⟩ : ∃ p9 : Int, p9 = (if f3 = -1 then (plab bt a3).1 else f3) := ⟨_, rfl⟩
  rw [← hf9]
  have hq8 : (f8 = -1 ∧ f3 = -1 ∧ (plab bt a3).1 = -1 ∧ z8 = (plab bt a3).2.1 ∧ a8 = (plab bt a3).2.2 ∧ (0 ≤ z8 ∧ z8 ≤ 25)) ∨ (¬ f8 = -1 ∧ ((f3 = -1 ∧ f8 = (plab bt a3).1) ∨ (¬ f3 = -1 ∧ f8 = f3)) ∧ (0 ≤ z8 ∧ z8 ≤ 25)) := lab_sum hf9 hz9 hw9 (plab_b (bt := bt) hT (show 0 ≤ a3 by omega) (show a3 ≤ len by omega))
  clear hf9 hz9 hw9
  show xX Γ 0 0 n T 11 [(2, xI z3), (0, xR 146), (1, xI st)] [xI z8] (xst (xst M 146 3 a8) 146 4 f8)
  refine x_istore_n G [(3, xI z8), (2, xI z3), (0, xR 146), (1, xI st)] rfl (by decide) rfl dX4_readKey_11 ?_
  refine x_aload_n G 2 rfl rfl dX4_readKey_12 ?_
  refine x_iconst G (by decide) dX4_readKey_13 ?_
  refine x_bipush G (by decide) dX4_readKey_14 ?_
  refine x_callVI G [] [xI 1, xI 20] rfl (by decide) (ly_n hY 146 (by decide)) (ly_k hY 146 (by decide)) hy_X4_number hi_X4_number hs_X4_number ml_X4_80 rfl rfl (kX4_number _ _ bt len a8 f8 1 20 hY hT (tm_tp hM) (tp_3 _ _ _) (tp_4 _ _ _) (by omega) (by omega)) (by decide) (by decide) (Nat.le_of_ble_eq_true rfl) dX4_readKey_16 (fun z16 M16 h16 => ?_)
  obtain ⟨a16, ha16, rfl, hz9, hw9⟩ := h16
  rw [tp_tp]
  obtain ⟨f16, hf9⟩ : ∃ p9 : Int, p9 = (if f8 = -1 then (pnum bt a8 1 20).1 else f8) := ⟨_, rfl⟩
  rw [← hf9]
  have hq16 : (f16 = -1 ∧ f8 = -1 ∧ (pnum bt a8 1 20).1 = -1 ∧ z16 = (pnum bt a8 1 20).2.1 ∧ a16 = (pnum bt a8 1 20).2.2 ∧ (1 ≤ z16 ∧ z16 ≤ 20)) ∨ (¬ f16 = -1 ∧ ((f8 = -1 ∧ f16 = (pnum bt a8 1 20).1) ∨ (¬ f8 = -1 ∧ f16 = f8)) ∧ z16 = 1) := num_sum hf9 hz9 hw9 (pnum_b (bt := bt) (lo := 1) (hi := 20) hT (show 0 ≤ a8 by omega) (show a8 ≤ len by omega))
  clear hf9 hz9 hw9
  show xX Γ 0 0 n T 19 [(3, xI z8), (2, xI z3), (0, xR 146), (1, xI st)] [xI z16] (xst (xst M 146 3 a16) 146 4 f16)
  refine x_istore G [(4, xI z16), (3, xI z8), (2, xI z3), (0, xR 146), (1, xI st)] (by decide) rfl dX4_readKey_19 ?_
  refine x_aload_n G 3 rfl rfl dX4_readKey_21 ?_
  refine x_iconst G (by decide) dX4_readKey_22 ?_
  refine x_sipush G (by decide) dX4_readKey_23 ?_
  refine x_callVI G [] [xI 1, xI 1023] rfl (by decide) (ly_n hY 146 (by decide)) (ly_k hY 146 (by decide)) hy_X4_number hi_X4_number hs_X4_number ml_X4_80 rfl rfl (kX4_number _ _ bt len a16 f16 1 1023 hY hT (tm_tp hM) (tp_3 _ _ _) (tp_4 _ _ _) (by omega) (by omega)) (by decide) (by decide) (Nat.le_of_ble_eq_true rfl) dX4_readKey_26 (fun z26 M26 h26 => ?_)
  obtain ⟨a26, ha26, rfl, hz9, hw9⟩ := h26
  rw [tp_tp]
  obtain ⟨f26, hf9⟩ : ∃ p9 : Int, p9 = (if f16 = -1 then (pnum bt a16 1 1023).1 else f16) := ⟨_, rfl⟩
  rw [← hf9]
  have hq26 : (f26 = -1 ∧ f16 = -1 ∧ (pnum bt a16 1 1023).1 = -1 ∧ z26 = (pnum bt a16 1 1023).2.1 ∧ a26 = (pnum bt a16 1 1023).2.2 ∧ (1 ≤ z26 ∧ z26 ≤ 1023)) ∨ (¬ f26 = -1 ∧ ((f16 = -1 ∧ f26 = (pnum bt a16 1 1023).1) ∨ (¬ f16 = -1 ∧ f26 = f16)) ∧ z26 = 1) := num_sum hf9 hz9 hw9 (pnum_b (bt := bt) (lo := 1) (hi := 1023) hT (show 0 ≤ a16 by omega) (show a16 ≤ len by omega))
  clear hf9 hz9 hw9
  show xX Γ 0 0 n T 29 [(4, xI z16), (3, xI z8), (2, xI z3), (0, xR 146), (1, xI st)] [xI z26] (xst (xst M 146 3 a26) 146 4 f26)
  refine x_istore G [(5, xI z26), (4, xI z16), (3, xI z8), (2, xI z3), (0, xR 146), (1, xI st)] (by decide) rfl dX4_readKey_29 ?_
  refine x_aload_n G 4 rfl rfl dX4_readKey_31 ?_
  refine x_get G (xR 148) xf4_1 lk_X4_18 (ly_n hY 146 (by decide)) (ly_k hY 146 (by decide)) (Or.inr ⟨rfl, _, (ly_r hY 146 1 (by decide) (by decide)), rfl⟩) dX4_readKey_32 ?_
  refine x_get G (xI ((xst (xst M 146 3 a26) 146 4 f26) 148 10)) xf3_10 lk_X4_103 (st_n (ly_st148 hY) 0 (by decide)) (st_k (ly_st148 hY) 0 (by decide)) (Or.inl ⟨rfl, rfl⟩) dX4_readKey_35 ?_
  rw [show (xst (xst M 146 3 a26) 146 4 f26) 148 10 = (V 0 10) from ((xst_nq (by omega)).trans ((xst_nq (by omega)).trans (congrFun (hV 0 (by decide) (by decide) (by decide)) 10)))]
  refine x_bipush G (by decide) dX4_readKey_38 ?_
  refine x_icmp_lt G 49 (by decide) dX4_readKey_40 (fun c40 => ?_) (fun c40 => ?_)
  · skip
    refine x_aload_n G 4 rfl rfl dX4_readKey_49 ?_
    refine x_get G (xI ((xst (xst M 146 3 a26) 146 4 f26) 146 4)) xf4_4 lk_X4_32 (ly_n hY 146 (by decide)) (ly_k hY 146 (by decide)) (Or.inl ⟨rfl, rfl⟩) dX4_readKey_50 ?_
    rw [show (xst (xst M 146 3 a26) 146 4 f26) 146 4 = f26 from (xst_same ..)]
    refine x_iconst G (by decide) dX4_readKey_53 ?_
    refine x_icmp_ne G 71 (by decide) dX4_readKey_54 (fun c54 => ?_) (fun c54 => ?_)
    · skip
      skip
      exact x_vret G Rt dX4_readKey_71 ⟨rfl, rfl, rfl, (by
          have e9 : (pKey bt st a V).1 = f26 ∧ (f26 = -1 → a26 = (pKey bt st a V).2.1 ∧ V = (pKey bt st a V).2.2) := by
            unfold pKey
            rcases hq3 with ⟨k1, k2, k3, k4, k5, k6⟩ | ⟨k1, k2, k3⟩
            · rw [bnd_ok k3, ← k4, ← k5]
              rcases hq8 with ⟨k1, k2, k3, k4, k5, k6⟩ | ⟨k1, k2, k3⟩
              · rw [bnd_ok k3, ← k4, ← k5]
                rcases hq16 with ⟨k1, k2, k3, k4, k5, k6⟩ | ⟨k1, k2, k3⟩
                · rw [bnd_ok k3, ← k4, ← k5]
                  rcases hq26 with ⟨k1, k2, k3, k4, k5, k6⟩ | ⟨k1, k2, k3⟩
                  · rw [bnd_ok k3, ← k4, ← k5]
                    rw [if_neg (by omega)]
                    exact ⟨by show -1 = _; omega, fun g => by omega⟩
                  · rw [bnd_no (show ¬ (pnum bt a16 1 1023).1 = -1 by omega)]
                    exact ⟨by show (pnum bt a16 1 1023).1 = _; omega, fun g => by omega⟩
                · rw [bnd_no (show ¬ (pnum bt a8 1 20).1 = -1 by omega)]
                  exact ⟨by show (pnum bt a8 1 20).1 = _; omega, fun g => by omega⟩
              · rw [bnd_no (show ¬ (plab bt a3).1 = -1 by omega)]
                exact ⟨by show (plab bt a3).1 = _; omega, fun g => by omega⟩
            · rw [bnd_no (show ¬ (pnum bt a 0 3).1 = -1 by omega)]
              exact ⟨by show (pnum bt a 0 3).1 = _; omega, fun g => by omega⟩
          exact pres_mk e9.1 (ps_mk rfl (rfl.trans (tp_row (by decide))) hM (by omega) (shw_st (shw_st hV (by omega)) (by omega))) e9.2 hv (tfr_st (tfr_st (tfr_refl _) (by omega)) (by omega)))⟩
    · skip
      refine x_aload_n G 4 rfl rfl dX4_readKey_57 ?_
      refine x_get G (xR 148) xf4_1 lk_X4_18 (ly_n hY 146 (by decide)) (ly_k hY 146 (by decide)) (Or.inr ⟨rfl, _, (ly_r hY 146 1 (by decide) (by decide)), rfl⟩) dX4_readKey_58 ?_
      refine x_iload_n G 3 rfl rfl dX4_readKey_61 ?_
      refine x_iload_n G 2 rfl rfl dX4_readKey_62 ?_
      refine x_iload G 1 rfl dX4_readKey_63 ?_
      refine x_iload G 0 rfl dX4_readKey_65 ?_
      refine x_callVI G [] [xI z3, xI z8, xI z16, xI z26] rfl (by decide) (st_n (ly_st148 hY) 0 (by decide)) (st_k (ly_st148 hY) 0 (by decide)) hy_X3_add hi_X3_add hs_X3_add ml_X4_109 rfl rfl (kX3_add _ _ 148 V z3 z8 z16 z26 (ly_st148 hY) (shw_st (shw_st hV (by omega)) (by omega)) hv (by omega)) (by decide) (by decide) (Nat.le_of_ble_eq_true rfl) dX4_readKey_67 (fun z67 M67 h67 => ?_)
      rw [h67.1]
      refine x_pop G rfl dX4_readKey_70 ?_
      have hv2 : VOK (addV V z3 z8 z16 z26) := addV_ok hv (by omega) (by omega) (by omega) (by omega) (by omega)
      exact x_vret G Rt dX4_readKey_71 ⟨rfl, rfl, rfl, (by
          have e9 : (pKey bt st a V).1 = f26 ∧ (f26 = -1 → a26 = (pKey bt st a V).2.1 ∧ (addV V z3 z8 z16 z26) = (pKey bt st a V).2.2) := by
            unfold pKey
            rcases hq3 with ⟨k1, k2, k3, k4, k5, k6⟩ | ⟨k1, k2, k3⟩
            · rw [bnd_ok k3, ← k4, ← k5]
              rcases hq8 with ⟨k1, k2, k3, k4, k5, k6⟩ | ⟨k1, k2, k3⟩
              · rw [bnd_ok k3, ← k4, ← k5]
                rcases hq16 with ⟨k1, k2, k3, k4, k5, k6⟩ | ⟨k1, k2, k3⟩
                · rw [bnd_ok k3, ← k4, ← k5]
                  rcases hq26 with ⟨k1, k2, k3, k4, k5, k6⟩ | ⟨k1, k2, k3⟩
                  · rw [bnd_ok k3, ← k4, ← k5]
                    rw [if_neg (by omega)]
                    exact ⟨by show -1 = _; omega, fun _ => ⟨rfl, rfl⟩⟩
                  · rw [bnd_no (show ¬ (pnum bt a16 1 1023).1 = -1 by omega)]
                    exact ⟨by show (pnum bt a16 1 1023).1 = _; omega, fun g => by omega⟩
                · rw [bnd_no (show ¬ (pnum bt a8 1 20).1 = -1 by omega)]
                  exact ⟨by show (pnum bt a8 1 20).1 = _; omega, fun g => by omega⟩
              · rw [bnd_no (show ¬ (plab bt a3).1 = -1 by omega)]
                exact ⟨by show (plab bt a3).1 = _; omega, fun g => by omega⟩
            · rw [bnd_no (show ¬ (pnum bt a 0 3).1 = -1 by omega)]
              exact ⟨by show (pnum bt a 0 3).1 = _; omega, fun g => by omega⟩
          exact pres_mk e9.1 (ps_mk ((h67.2.2 146 (by omega)).trans rfl) (((h67.2.2 147 (by omega)).trans rfl).trans (tp_row (by decide))) hM (by omega) h67.2.1) e9.2 hv2 (tfr_trans (tfr_st (tfr_st (tfr_refl _) (by omega)) (by omega)) (fun q9 g9 => h67.2.2 q9 (by omega))))⟩
  · skip
    refine x_aload_n G 4 rfl rfl dX4_readKey_43 ?_
    refine x_iload_n G 5 rfl rfl dX4_readKey_44 ?_
    refine x_iconst G (by decide) dX4_readKey_45 ?_
    refine x_callVV G [] [xI st, xI 3] rfl (by decide) (ly_n hY 146 (by decide)) (ly_k hY 146 (by decide)) hy_X4_meet hi_X4_meet hs_X4_meet ml_X4_41 rfl rfl (kX4_meet _ _ bt len a26 f26 st 3 hY hT (tm_tp hM) (tp_3 _ _ _) (tp_4 _ _ _) (by omega) (by omega) (by omega)) (by decide) (by decide) (Nat.le_of_ble_eq_true rfl) dX4_readKey_46 (fun M46 h46 => ?_)
    subst h46
    rw [tp_tp]
    obtain ⟨f46, hf46⟩ : ∃ p9 : Int, p9 = (if f26 = -1 then 8 * st + 3 else f26) := ⟨_, rfl⟩
    rw [← hf46]
    have hg46 : (f26 = -1 ∧ f46 = 8 * st + 3) ∨ (¬ f26 = -1 ∧ f46 = f26) := by (split at hf46 <;> omega)
    show xX Γ 0 0 n T 49 [(5, xI z26), (4, xI z16), (3, xI z8), (2, xI z3), (0, xR 146), (1, xI st)] [] (xst (xst M 146 3 a26) 146 4 f46)
    refine x_aload_n G 4 rfl rfl dX4_readKey_49 ?_
    refine x_get G (xI ((xst (xst M 146 3 a26) 146 4 f46) 146 4)) xf4_4 lk_X4_32 (ly_n hY 146 (by decide)) (ly_k hY 146 (by decide)) (Or.inl ⟨rfl, rfl⟩) dX4_readKey_50 ?_
    rw [show (xst (xst M 146 3 a26) 146 4 f46) 146 4 = f46 from (xst_same ..)]
    refine x_iconst G (by decide) dX4_readKey_53 ?_
    refine x_icmp_ne G 71 (by decide) dX4_readKey_54 (fun c54 => ?_) (fun c54 => ?_)
    · skip
      skip
      exact x_vret G Rt dX4_readKey_71 ⟨rfl, rfl, rfl, (by
          have e9 : (pKey bt st a V).1 = f46 ∧ (f46 = -1 → a26 = (pKey bt st a V).2.1 ∧ V = (pKey bt st a V).2.2) := by
            unfold pKey
            rcases hq3 with ⟨k1, k2, k3, k4, k5, k6⟩ | ⟨k1, k2, k3⟩
            · rw [bnd_ok k3, ← k4, ← k5]
              rcases hq8 with ⟨k1, k2, k3, k4, k5, k6⟩ | ⟨k1, k2, k3⟩
              · rw [bnd_ok k3, ← k4, ← k5]
                rcases hq16 with ⟨k1, k2, k3, k4, k5, k6⟩ | ⟨k1, k2, k3⟩
                · rw [bnd_ok k3, ← k4, ← k5]
                  rcases hq26 with ⟨k1, k2, k3, k4, k5, k6⟩ | ⟨k1, k2, k3⟩
                  · rw [bnd_ok k3, ← k4, ← k5]
                    rw [if_pos (by omega)]
                    exact ⟨by show 8 * st + 3 = _; omega, fun g => by omega⟩
                  · rw [bnd_no (show ¬ (pnum bt a16 1 1023).1 = -1 by omega)]
                    exact ⟨by show (pnum bt a16 1 1023).1 = _; omega, fun g => by omega⟩
                · rw [bnd_no (show ¬ (pnum bt a8 1 20).1 = -1 by omega)]
                  exact ⟨by show (pnum bt a8 1 20).1 = _; omega, fun g => by omega⟩
              · rw [bnd_no (show ¬ (plab bt a3).1 = -1 by omega)]
                exact ⟨by show (plab bt a3).1 = _; omega, fun g => by omega⟩
            · rw [bnd_no (show ¬ (pnum bt a 0 3).1 = -1 by omega)]
              exact ⟨by show (pnum bt a 0 3).1 = _; omega, fun g => by omega⟩
          exact pres_mk e9.1 (ps_mk rfl (rfl.trans (tp_row (by decide))) hM (by omega) (shw_st (shw_st hV (by omega)) (by omega))) e9.2 hv (tfr_st (tfr_st (tfr_refl _) (by omega)) (by omega)))⟩
    · skip
      refine x_aload_n G 4 rfl rfl dX4_readKey_57 ?_
      refine x_get G (xR 148) xf4_1 lk_X4_18 (ly_n hY 146 (by decide)) (ly_k hY 146 (by decide)) (Or.inr ⟨rfl, _, (ly_r hY 146 1 (by decide) (by decide)), rfl⟩) dX4_readKey_58 ?_
      refine x_iload_n G 3 rfl rfl dX4_readKey_61 ?_
      refine x_iload_n G 2 rfl rfl dX4_readKey_62 ?_
      refine x_iload G 1 rfl dX4_readKey_63 ?_
      refine x_iload G 0 rfl dX4_readKey_65 ?_
      refine x_callVI G [] [xI z3, xI z8, xI z16, xI z26] rfl (by decide) (st_n (ly_st148 hY) 0 (by decide)) (st_k (ly_st148 hY) 0 (by decide)) hy_X3_add hi_X3_add hs_X3_add ml_X4_109 rfl rfl (kX3_add _ _ 148 V z3 z8 z16 z26 (ly_st148 hY) (shw_st (shw_st hV (by omega)) (by omega)) hv (by omega)) (by decide) (by decide) (Nat.le_of_ble_eq_true rfl) dX4_readKey_67 (fun z67 M67 h67 => ?_)
      rw [h67.1]
      refine x_pop G rfl dX4_readKey_70 ?_
      have hv2 : VOK (addV V z3 z8 z16 z26) := addV_ok hv (by omega) (by omega) (by omega) (by omega) (by omega)
      exact x_vret G Rt dX4_readKey_71 ⟨rfl, rfl, rfl, (by
          have e9 : (pKey bt st a V).1 = f46 ∧ (f46 = -1 → a26 = (pKey bt st a V).2.1 ∧ (addV V z3 z8 z16 z26) = (pKey bt st a V).2.2) := by
            unfold pKey
            rcases hq3 with ⟨k1, k2, k3, k4, k5, k6⟩ | ⟨k1, k2, k3⟩
            · rw [bnd_ok k3, ← k4, ← k5]
              rcases hq8 with ⟨k1, k2, k3, k4, k5, k6⟩ | ⟨k1, k2, k3⟩
              · rw [bnd_ok k3, ← k4, ← k5]
                rcases hq16 with ⟨k1, k2, k3, k4, k5, k6⟩ | ⟨k1, k2, k3⟩
                · rw [bnd_ok k3, ← k4, ← k5]
                  rcases hq26 with ⟨k1, k2, k3, k4, k5, k6⟩ | ⟨k1, k2, k3⟩
                  · rw [bnd_ok k3, ← k4, ← k5]
                    exfalso; omega
                  · rw [bnd_no (show ¬ (pnum bt a16 1 1023).1 = -1 by omega)]
                    exact ⟨by show (pnum bt a16 1 1023).1 = _; omega, fun g => by omega⟩
                · rw [bnd_no (show ¬ (pnum bt a8 1 20).1 = -1 by omega)]
                  exact ⟨by show (pnum bt a8 1 20).1 = _; omega, fun g => by omega⟩
              · rw [bnd_no (show ¬ (plab bt a3).1 = -1 by omega)]
                exact ⟨by show (plab bt a3).1 = _; omega, fun g => by omega⟩
            · rw [bnd_no (show ¬ (pnum bt a 0 3).1 = -1 by omega)]
              exact ⟨by show (pnum bt a 0 3).1 = _; omega, fun g => by omega⟩
          exact pres_mk e9.1 (ps_mk ((h67.2.2 146 (by omega)).trans rfl) (((h67.2.2 147 (by omega)).trans rfl).trans (tp_row (by decide))) hM (by omega) h67.2.1) e9.2 hv2 (tfr_trans (tfr_st (tfr_st (tfr_refl _) (by omega)) (by omega)) (fun q9 g9 => h67.2.2 q9 (by omega))))⟩
