theorem pres_tr {M M1 M2 : xM} {bt : Int → Int} {len : Int} {r : pR} (h : tfr M M1) (h2 : PRes M1 M2 bt len r) : PRes M M2 bt len r := by
  obtain ⟨a2, V2, h3, h4, h5, h6⟩ := h2
  exact ⟨a2, V2, h3, h4, h5, tfr_trans h h6⟩
set_option maxRecDepth 100000 in
set_option maxHeartbeats 4000000 in
theorem kX4_readStatement (D : xD) (l : Launch) {n : Nat} {T : xT} {M : xM} (bt : Int → Int) (len : Int) (a : Int) (V : xM) (hY : LayOK n T) (hT : TB bt len) (hM : TM M bt len) (h3 : M 146 3 = a) (h4 : M 146 4 = -1) (ha : 0 ≤ a ∧ a ≤ len) (hV : shw M 148 V) (hv : VOK V) : xC D l uX4_readStatement 6 134 0 0 [xR 146] n T M (xPV n T (fun M2 => PRes M M2 bt len (pStm bt a V))) := by
  refine x_met uX4_readStatement (by decide) (Nat.le_of_ble_eq_true rfl) ?_
  intro Γ G Rt _
  have G : xG Γ RX4 cX4_readStatement 2 6 134 0 0 := G
  have Rt : xRt Γ (xPV n T (fun M2 => PRes M M2 bt len (pStm bt a V))) none 0 0 := Rt
  show xX Γ 0 0 n T 0 [(0, xR 146)] [] M
  have hL := hT.1
  have hMl := hM.1
  have hsc := hv.1
  rw [← tp_id h3 h4]
  show xX Γ 0 0 n T 0 [(0, xR 146)] [] (xst (xst M 146 3 a) 146 4 (-1))
  refine x_aload_n G 0 rfl rfl dX4_readStatement_0 ?_
  refine x_callVV G [] [] rfl (by decide) (ly_n hY 146 (by decide)) (ly_k hY 146 (by decide)) hy_X4_skipBlanks hi_X4_skipBlanks hs_X4_skipBlanks ml_X4_38 rfl rfl (kX4_skipBlanks _ _ bt len a (-1) hY hT (tm_tp hM) (tp_3 _ _ _) (tp_4 _ _ _) (by omega)) (by decide) (by decide) (Nat.le_of_ble_eq_true rfl) dX4_readStatement_1 (fun M1 h1 => ?_)
  subst h1
  rw [tp_tp]
  have hsk1 := skp_b hT (show a ≤ len by omega)
  show xX Γ 0 0 n T 4 [(0, xR 146)] [] (xst (xst M 146 3 (skp bt a)) 146 4 (-1))
  refine x_aload_n G 0 rfl rfl dX4_readStatement_4 ?_
  refine x_get G (xI ((xst (xst M 146 3 (skp bt a)) 146 4 (-1)) 146 3)) xf4_3 lk_X4_29 (ly_n hY 146 (by decide)) (ly_k hY 146 (by decide)) (Or.inl ⟨rfl, rfl⟩) dX4_readStatement_5 ?_
  rw [show (xst (xst M 146 3 (skp bt a)) 146 4 (-1)) 146 3 = (skp bt a) from ((xst_nq (by omega)).trans (xst_same ..))]
  refine x_istore_n G [(1, xI (skp bt a)), (0, xR 146)] rfl (by decide) rfl dX4_readStatement_8 ?_
  have hss : skp bt (skp bt a) = skp bt a := skp_id hsk1.2.2
  refine x_aload_n G 1 rfl rfl dX4_readStatement_9 ?_
  refine x_ldcS G (i := 0) rfl dX4_readStatement_10 ?_
  refine x_callVI G [] [xR (1000000 + 0)] rfl (by decide) (ly_n hY 146 (by decide)) (ly_k hY 146 (by decide)) hy_X4_takes hi_X4_takes hs_X4_takes ml_X4_47 rfl rfl (kX4_takes _ _ bt len (skp bt a) (-1) 0 wSize hY hT (tm_tp hM) (tp_3 _ _ _) (tp_4 _ _ _) (by omega) ⟨_, _, _, rfl⟩) (by decide) (by decide) (Nat.le_of_ble_eq_true rfl) dX4_readStatement_12 (fun z12 M12 h12 => ?_)
  obtain ⟨a12, ha12, rfl⟩ : ∃ p9, ((z12 = 1 ∧ (-1) = -1 ∧ tkw bt (skp bt (skp bt a)) wSize ∧ p9 ≤ len ∧ p9 = skp bt (skp bt a) + 4) ∨ (z12 = 0 ∧ ((-1) = -1 → ¬ tkw bt (skp bt (skp bt a)) wSize) ∧ p9 = skp bt (skp bt a))) ∧ M12 = tpM (xst (xst M 146 3 (skp bt a)) 146 4 (-1)) p9 (-1) := by
    rcases h12 with ⟨g1, g2, g3, g4, g5⟩ | ⟨g1, g2, g3⟩
    · exact ⟨_, Or.inl ⟨g1, g2, g3, g4, rfl⟩, g5⟩
    · exact ⟨_, Or.inr ⟨g1, g2, rfl⟩, g3⟩
  rw [tp_tp]
  have hsk12 := skp_b hT (show (skp bt a) ≤ len by omega)
  show xX Γ 0 0 n T 15 [(1, xI (skp bt a)), (0, xR 146)] [xI z12] (xst (xst M 146 3 a12) 146 4 (-1))
  refine x_if_eq G 25 (by decide) dX4_readStatement_15 (fun c15 => ?_) (fun c15 => ?_)
  · skip
    rw [hss] at ha12
    have n12 : ¬ tkw bt (skp bt a) wSize := by (rcases ha12 with g | g; exfalso; omega; exact g.2.1 rfl)
    obtain rfl : a12 = skp bt a := by omega
    refine x_aload_n G 1 rfl rfl dX4_readStatement_25 ?_
    refine x_ldcS G (i := 1) rfl dX4_readStatement_26 ?_
    refine x_callVI G [] [xR (1000000 + 1)] rfl (by decide) (ly_n hY 146 (by decide)) (ly_k hY 146 (by decide)) hy_X4_takes hi_X4_takes hs_X4_takes ml_X4_47 rfl rfl (kX4_takes _ _ bt len (skp bt a) (-1) 1 wWindow hY hT (tm_tp hM) (tp_3 _ _ _) (tp_4 _ _ _) (by omega) ⟨_, _, _, rfl⟩) (by decide) (by decide) (Nat.le_of_ble_eq_true rfl) dX4_readStatement_28 (fun z28 M28 h28 => ?_)
    obtain ⟨a28, ha28, rfl⟩ : ∃ p9, ((z28 = 1 ∧ (-1) = -1 ∧ tkw bt (skp bt (skp bt a)) wWindow ∧ p9 ≤ len ∧ p9 = skp bt (skp bt a) + 6) ∨ (z28 = 0 ∧ ((-1) = -1 → ¬ tkw bt (skp bt (skp bt a)) wWindow) ∧ p9 = skp bt (skp bt a))) ∧ M28 = tpM (xst (xst M 146 3 (skp bt a)) 146 4 (-1)) p9 (-1) := by
      rcases h28 with ⟨g1, g2, g3, g4, g5⟩ | ⟨g1, g2, g3⟩
      · exact ⟨_, Or.inl ⟨g1, g2, g3, g4, rfl⟩, g5⟩
      · exact ⟨_, Or.inr ⟨g1, g2, rfl⟩, g3⟩
    rw [tp_tp]
    have hsk28 := skp_b hT (show (skp bt a) ≤ len by omega)
    show xX Γ 0 0 n T 31 [(1, xI (skp bt a)), (0, xR 146)] [xI z28] (xst (xst M 146 3 a28) 146 4 (-1))
    refine x_if_eq G 41 (by decide) dX4_readStatement_31 (fun c31 => ?_) (fun c31 => ?_)
    · skip
      rw [hss] at ha28
      have n28 : ¬ tkw bt (skp bt a) wWindow := by (rcases ha28 with g | g; exfalso; omega; exact g.2.1 rfl)
      obtain rfl : a28 = skp bt a := by omega
      refine x_aload_n G 1 rfl rfl dX4_readStatement_41 ?_
      refine x_ldcS G (i := 2) rfl dX4_readStatement_42 ?_
      refine x_callVI G [] [xR (1000000 + 2)] rfl (by decide) (ly_n hY 146 (by decide)) (ly_k hY 146 (by decide)) hy_X4_takes hi_X4_takes hs_X4_takes ml_X4_47 rfl rfl (kX4_takes _ _ bt len (skp bt a) (-1) 2 wSeed hY hT (tm_tp hM) (tp_3 _ _ _) (tp_4 _ _ _) (by omega) ⟨_, _, _, rfl⟩) (by decide) (by decide) (Nat.le_of_ble_eq_true rfl) dX4_readStatement_44 (fun z44 M44 h44 => ?_)
      obtain ⟨a44, ha44, rfl⟩ : ∃ p9, ((z44 = 1 ∧ (-1) = -1 ∧ tkw bt (skp bt (skp bt a)) wSeed ∧ p9 ≤ len ∧ p9 = skp bt (skp bt a) + 4) ∨ (z44 = 0 ∧ ((-1) = -1 → ¬ tkw bt (skp bt (skp bt a)) wSeed) ∧ p9 = skp bt (skp bt a))) ∧ M44 = tpM (xst (xst M 146 3 (skp bt a)) 146 4 (-1)) p9 (-1) := by
        rcases h44 with ⟨g1, g2, g3, g4, g5⟩ | ⟨g1, g2, g3⟩
        · exact ⟨_, Or.inl ⟨g1, g2, g3, g4, rfl⟩, g5⟩
        · exact ⟨_, Or.inr ⟨g1, g2, rfl⟩, g3⟩
      rw [tp_tp]
      have hsk44 := skp_b hT (show (skp bt a) ≤ len by omega)
      show xX Γ 0 0 n T 47 [(1, xI (skp bt a)), (0, xR 146)] [xI z44] (xst (xst M 146 3 a44) 146 4 (-1))
      refine x_if_eq G 57 (by decide) dX4_readStatement_47 (fun c47 => ?_) (fun c47 => ?_)
      · skip
        rw [hss] at ha44
        have n44 : ¬ tkw bt (skp bt a) wSeed := by (rcases ha44 with g | g; exfalso; omega; exact g.2.1 rfl)
        obtain rfl : a44 = skp bt a := by omega
        refine x_aload_n G 1 rfl rfl dX4_readStatement_57 ?_
        refine x_ldcS G (i := 3) rfl dX4_readStatement_58 ?_
        refine x_callVI G [] [xR (1000000 + 3)] rfl (by decide) (ly_n hY 146 (by decide)) (ly_k hY 146 (by decide)) hy_X4_takes hi_X4_takes hs_X4_takes ml_X4_47 rfl rfl (kX4_takes _ _ bt len (skp bt a) (-1) 3 wWait hY hT (tm_tp hM) (tp_3 _ _ _) (tp_4 _ _ _) (by omega) ⟨_, _, _, rfl⟩) (by decide) (by decide) (Nat.le_of_ble_eq_true rfl) dX4_readStatement_60 (fun z60 M60 h60 => ?_)
        obtain ⟨a60, ha60, rfl⟩ : ∃ p9, ((z60 = 1 ∧ (-1) = -1 ∧ tkw bt (skp bt (skp bt a)) wWait ∧ p9 ≤ len ∧ p9 = skp bt (skp bt a) + 4) ∨ (z60 = 0 ∧ ((-1) = -1 → ¬ tkw bt (skp bt (skp bt a)) wWait) ∧ p9 = skp bt (skp bt a))) ∧ M60 = tpM (xst (xst M 146 3 (skp bt a)) 146 4 (-1)) p9 (-1) := by
          rcases h60 with ⟨g1, g2, g3, g4, g5⟩ | ⟨g1, g2, g3⟩
          · exact ⟨_, Or.inl ⟨g1, g2, g3, g4, rfl⟩, g5⟩
          · exact ⟨_, Or.inr ⟨g1, g2, rfl⟩, g3⟩
        rw [tp_tp]
        have hsk60 := skp_b hT (show (skp bt a) ≤ len by omega)
        show xX Γ 0 0 n T 63 [(1, xI (skp bt a)), (0, xR 146)] [xI z60] (xst (xst M 146 3 a60) 146 4 (-1))
        refine x_if_eq G 74 (by decide) dX4_readStatement_63 (fun c63 => ?_) (fun c63 => ?_)
        · skip
          rw [hss] at ha60
          have n60 : ¬ tkw bt (skp bt a) wWait := by (rcases ha60 with g | g; exfalso; omega; exact g.2.1 rfl)
          obtain rfl : a60 = skp bt a := by omega
          refine x_aload_n G 1 rfl rfl dX4_readStatement_74 ?_
          refine x_ldcS G (i := 4) rfl dX4_readStatement_75 ?_
          refine x_callVI G [] [xR (1000000 + 4)] rfl (by decide) (ly_n hY 146 (by decide)) (ly_k hY 146 (by decide)) hy_X4_takes hi_X4_takes hs_X4_takes ml_X4_47 rfl rfl (kX4_takes _ _ bt len (skp bt a) (-1) 4 wItem hY hT (tm_tp hM) (tp_3 _ _ _) (tp_4 _ _ _) (by omega) ⟨_, _, _, rfl⟩) (by decide) (by decide) (Nat.le_of_ble_eq_true rfl) dX4_readStatement_77 (fun z77 M77 h77 => ?_)
          obtain ⟨a77, ha77, rfl⟩ : ∃ p9, ((z77 = 1 ∧ (-1) = -1 ∧ tkw bt (skp bt (skp bt a)) wItem ∧ p9 ≤ len ∧ p9 = skp bt (skp bt a) + 4) ∨ (z77 = 0 ∧ ((-1) = -1 → ¬ tkw bt (skp bt (skp bt a)) wItem) ∧ p9 = skp bt (skp bt a))) ∧ M77 = tpM (xst (xst M 146 3 (skp bt a)) 146 4 (-1)) p9 (-1) := by
            rcases h77 with ⟨g1, g2, g3, g4, g5⟩ | ⟨g1, g2, g3⟩
            · exact ⟨_, Or.inl ⟨g1, g2, g3, g4, rfl⟩, g5⟩
            · exact ⟨_, Or.inr ⟨g1, g2, rfl⟩, g3⟩
          rw [tp_tp]
          have hsk77 := skp_b hT (show (skp bt a) ≤ len by omega)
          show xX Γ 0 0 n T 80 [(1, xI (skp bt a)), (0, xR 146)] [xI z77] (xst (xst M 146 3 a77) 146 4 (-1))
          refine x_if_eq G 91 (by decide) dX4_readStatement_80 (fun c80 => ?_) (fun c80 => ?_)
          · skip
            rw [hss] at ha77
            have n77 : ¬ tkw bt (skp bt a) wItem := by (rcases ha77 with g | g; exfalso; omega; exact g.2.1 rfl)
            obtain rfl : a77 = skp bt a := by omega
            refine x_aload_n G 1 rfl rfl dX4_readStatement_91 ?_
            refine x_ldcS G (i := 6) rfl dX4_readStatement_92 ?_
            refine x_callVI G [] [xR (1000000 + 6)] rfl (by decide) (ly_n hY 146 (by decide)) (ly_k hY 146 (by decide)) hy_X4_takes hi_X4_takes hs_X4_takes ml_X4_47 rfl rfl (kX4_takes _ _ bt len (skp bt a) (-1) 6 wKey hY hT (tm_tp hM) (tp_3 _ _ _) (tp_4 _ _ _) (by omega) ⟨_, _, _, rfl⟩) (by decide) (by decide) (Nat.le_of_ble_eq_true rfl) dX4_readStatement_94 (fun z94 M94 h94 => ?_)
            obtain ⟨a94, ha94, rfl⟩ : ∃ p9, ((z94 = 1 ∧ (-1) = -1 ∧ tkw bt (skp bt (skp bt a)) wKey ∧ p9 ≤ len ∧ p9 = skp bt (skp bt a) + 3) ∨ (z94 = 0 ∧ ((-1) = -1 → ¬ tkw bt (skp bt (skp bt a)) wKey) ∧ p9 = skp bt (skp bt a))) ∧ M94 = tpM (xst (xst M 146 3 (skp bt a)) 146 4 (-1)) p9 (-1) := by
              rcases h94 with ⟨g1, g2, g3, g4, g5⟩ | ⟨g1, g2, g3⟩
              · exact ⟨_, Or.inl ⟨g1, g2, g3, g4, rfl⟩, g5⟩
              · exact ⟨_, Or.inr ⟨g1, g2, rfl⟩, g3⟩
            rw [tp_tp]
            have hsk94 := skp_b hT (show (skp bt a) ≤ len by omega)
            show xX Γ 0 0 n T 97 [(1, xI (skp bt a)), (0, xR 146)] [xI z94] (xst (xst M 146 3 a94) 146 4 (-1))
            refine x_if_eq G 108 (by decide) dX4_readStatement_97 (fun c97 => ?_) (fun c97 => ?_)
            · skip
              rw [hss] at ha94
              have n94 : ¬ tkw bt (skp bt a) wKey := by (rcases ha94 with g | g; exfalso; omega; exact g.2.1 rfl)
              obtain rfl : a94 = skp bt a := by omega
              refine x_aload_n G 1 rfl rfl dX4_readStatement_108 ?_
              refine x_iload_n G 0 rfl rfl dX4_readStatement_109 ?_
              refine x_iconst G (by decide) dX4_readStatement_110 ?_
              refine x_callVV G [] [xI (skp bt a), xI 1] rfl (by decide) (ly_n hY 146 (by decide)) (ly_k hY 146 (by decide)) hy_X4_meet hi_X4_meet hs_X4_meet ml_X4_41 rfl rfl (kX4_meet _ _ bt len (skp bt a) (-1) (skp bt a) 1 hY hT (tm_tp hM) (tp_3 _ _ _) (tp_4 _ _ _) (by omega) (by omega) (by omega)) (by decide) (by decide) (Nat.le_of_ble_eq_true rfl) dX4_readStatement_111 (fun M111 h111 => ?_)
              subst h111
              rw [tp_tp]
              obtain ⟨f111, hf111⟩ : ∃ p9 : Int, p9 = (if (-1) = -1 then 8 * (skp bt a) + 1 else (-1)) := ⟨_, rfl⟩
              rw [← hf111]
              have hg111 : ((-1) = -1 ∧ f111 = 8 * (skp bt a) + 1) ∨ (¬ (-1) = -1 ∧ f111 = (-1)) := by (split at hf111 <;> omega)
              show xX Γ 0 0 n T 114 [(1, xI (skp bt a)), (0, xR 146)] [] (xst (xst M 146 3 (skp bt a)) 146 4 f111)
              exact x_vret G Rt dX4_readStatement_114 ⟨rfl, rfl, rfl, (by
          have e9 : pStm bt a V = (8 * skp bt a + 1, 0, V) := by unfold pStm; rw [if_neg n12, if_neg n28, if_neg n44, if_neg n60, if_neg n77, if_neg n94]
          rw [e9]
          exact pres_mk (by show 8 * skp bt a + 1 = _; omega) (ps_mk rfl (rfl.trans (tp_row (by decide))) hM (by omega) (shw_st (shw_st hV (by omega)) (by omega))) (fun g => by omega) hv (tfr_st (tfr_st (tfr_refl _) (by omega)) (by omega)))⟩
            · skip
              rw [hss] at ha94
              have y94 : tkw bt (skp bt a) wKey := by (rcases ha94 with g | g; exact g.2.2.1; exfalso; omega)
              have e94 : a94 = skp bt a + 3 := by omega
              refine x_aload_n G 1 rfl rfl dX4_readStatement_100 ?_
              refine x_iload_n G 0 rfl rfl dX4_readStatement_101 ?_
              refine x_callVV G [] [xI (skp bt a)] rfl (by decide) (ly_n hY 146 (by decide)) (ly_k hY 146 (by decide)) hy_X4_readKey hi_X4_readKey hs_X4_readKey ml_X4_77 rfl rfl (kX4_readKey _ _ bt len a94 V (skp bt a) hY hT (tm_tp hM) (tp_3 _ _ _) ((tp_4 _ _ _).trans (by omega)) (by omega) (shw_st (shw_st hV (by omega)) (by omega)) hv (by omega)) (by decide) (by decide) (Nat.le_of_ble_eq_true rfl) dX4_readStatement_102 (fun M102 h102 => ?_)
              refine x_goto G 114 (by decide) dX4_readStatement_105 ?_
              exact x_vret G Rt dX4_readStatement_114 ⟨rfl, rfl, rfl, (by
          have e9 : pStm bt a V = pKey bt (skp bt a) (skp bt a + 3) V := by unfold pStm; rw [if_neg n12, if_neg n28, if_neg n44, if_neg n60, if_neg n77, if_pos y94]
          rw [e9, ← e94]
          exact pres_tr (tfr_st (tfr_st (tfr_refl _) (by omega)) (by omega)) h102)⟩
          · skip
            rw [hss] at ha77
            have y77 : tkw bt (skp bt a) wItem := by (rcases ha77 with g | g; exact g.2.2.1; exfalso; omega)
            have e77 : a77 = skp bt a + 4 := by omega
            refine x_aload_n G 1 rfl rfl dX4_readStatement_83 ?_
            refine x_iload_n G 0 rfl rfl dX4_readStatement_84 ?_
            refine x_callVV G [] [xI (skp bt a)] rfl (by decide) (ly_n hY 146 (by decide)) (ly_k hY 146 (by decide)) hy_X4_readItems hi_X4_readItems hs_X4_readItems ml_X4_72 rfl rfl (kX4_readItems _ _ bt len a77 V (skp bt a) hY hT (tm_tp hM) (tp_3 _ _ _) ((tp_4 _ _ _).trans (by omega)) (by omega) (shw_st (shw_st hV (by omega)) (by omega)) hv (by omega)) (by decide) (by decide) (Nat.le_of_ble_eq_true rfl) dX4_readStatement_85 (fun M85 h85 => ?_)
            refine x_goto G 114 (by decide) dX4_readStatement_88 ?_
            exact x_vret G Rt dX4_readStatement_114 ⟨rfl, rfl, rfl, (by
          have e9 : pStm bt a V = pItm bt (skp bt a) (skp bt a + 4) V := by unfold pStm; rw [if_neg n12, if_neg n28, if_neg n44, if_neg n60, if_pos y77]
          rw [e9, ← e77]
          exact pres_tr (tfr_st (tfr_st (tfr_refl _) (by omega)) (by omega)) h85)⟩
        · skip
          rw [hss] at ha60
          have y60 : tkw bt (skp bt a) wWait := by (rcases ha60 with g | g; exact g.2.2.1; exfalso; omega)
          have e60 : a60 = skp bt a + 4 := by omega
          refine x_aload_n G 1 rfl rfl dX4_readStatement_66 ?_
          refine x_iload_n G 0 rfl rfl dX4_readStatement_67 ?_
          refine x_callVV G [] [xI (skp bt a)] rfl (by decide) (ly_n hY 146 (by decide)) (ly_k hY 146 (by decide)) hy_X4_readWait hi_X4_readWait hs_X4_readWait ml_X4_66 rfl rfl (kX4_readWait _ _ bt len a60 V (skp bt a) hY hT (tm_tp hM) (tp_3 _ _ _) ((tp_4 _ _ _).trans (by omega)) (by omega) (shw_st (shw_st hV (by omega)) (by omega)) hv (by omega)) (by decide) (by decide) (Nat.le_of_ble_eq_true rfl) dX4_readStatement_68 (fun M68 h68 => ?_)
          refine x_goto G 114 (by decide) dX4_readStatement_71 ?_
          exact x_vret G Rt dX4_readStatement_114 ⟨rfl, rfl, rfl, (by
          have e9 : pStm bt a V = pWait bt (skp bt a) (skp bt a + 4) V := by unfold pStm; rw [if_neg n12, if_neg n28, if_neg n44, if_pos y60]
          rw [e9, ← e60]
          exact pres_tr (tfr_st (tfr_st (tfr_refl _) (by omega)) (by omega)) h68)⟩
      · skip
        rw [hss] at ha44
        have y44 : tkw bt (skp bt a) wSeed := by (rcases ha44 with g | g; exact g.2.2.1; exfalso; omega)
        have e44 : a44 = skp bt a + 4 := by omega
        refine x_aload_n G 1 rfl rfl dX4_readStatement_50 ?_
        refine x_callVV G [] [] rfl (by decide) (ly_n hY 146 (by decide)) (ly_k hY 146 (by decide)) hy_X4_readSeed hi_X4_readSeed hs_X4_readSeed ml_X4_61 rfl rfl (kX4_readSeed _ _ bt len a44 V hY hT (tm_tp hM) (tp_3 _ _ _) ((tp_4 _ _ _).trans (by omega)) (by omega) (shw_st (shw_st hV (by omega)) (by omega)) hv) (by decide) (by decide) (Nat.le_of_ble_eq_true rfl) dX4_readStatement_51 (fun M51 h51 => ?_)
        refine x_goto G 114 (by decide) dX4_readStatement_54 ?_
        exact x_vret G Rt dX4_readStatement_114 ⟨rfl, rfl, rfl, (by
          have e9 : pStm bt a V = pSeed bt (skp bt a + 4) V := by unfold pStm; rw [if_neg n12, if_neg n28, if_pos y44]
          rw [e9, ← e44]
          exact pres_tr (tfr_st (tfr_st (tfr_refl _) (by omega)) (by omega)) h51)⟩
    · skip
      rw [hss] at ha28
      have y28 : tkw bt (skp bt a) wWindow := by (rcases ha28 with g | g; exact g.2.2.1; exfalso; omega)
      have e28 : a28 = skp bt a + 6 := by omega
      refine x_aload_n G 1 rfl rfl dX4_readStatement_34 ?_
      refine x_callVV G [] [] rfl (by decide) (ly_n hY 146 (by decide)) (ly_k hY 146 (by decide)) hy_X4_readWindow hi_X4_readWindow hs_X4_readWindow ml_X4_56 rfl rfl (kX4_readWindow _ _ bt len a28 V hY hT (tm_tp hM) (tp_3 _ _ _) ((tp_4 _ _ _).trans (by omega)) (by omega) (shw_st (shw_st hV (by omega)) (by omega)) hv) (by decide) (by decide) (Nat.le_of_ble_eq_true rfl) dX4_readStatement_35 (fun M35 h35 => ?_)
      refine x_goto G 114 (by decide) dX4_readStatement_38 ?_
      exact x_vret G Rt dX4_readStatement_114 ⟨rfl, rfl, rfl, (by
          have e9 : pStm bt a V = pWind bt (skp bt a + 6) V := by unfold pStm; rw [if_neg n12, if_pos y28]
          rw [e9, ← e28]
          exact pres_tr (tfr_st (tfr_st (tfr_refl _) (by omega)) (by omega)) h35)⟩
  · skip
    rw [hss] at ha12
    have y12 : tkw bt (skp bt a) wSize := by (rcases ha12 with g | g; exact g.2.2.1; exfalso; omega)
    have e12 : a12 = skp bt a + 4 := by omega
    refine x_aload_n G 1 rfl rfl dX4_readStatement_18 ?_
    refine x_callVV G [] [] rfl (by decide) (ly_n hY 146 (by decide)) (ly_k hY 146 (by decide)) hy_X4_readSize hi_X4_readSize hs_X4_readSize ml_X4_51 rfl rfl (kX4_readSize _ _ bt len a12 V hY hT (tm_tp hM) (tp_3 _ _ _) ((tp_4 _ _ _).trans (by omega)) (by omega) (shw_st (shw_st hV (by omega)) (by omega)) hv) (by decide) (by decide) (Nat.le_of_ble_eq_true rfl) dX4_readStatement_19 (fun M19 h19 => ?_)
    refine x_goto G 114 (by decide) dX4_readStatement_22 ?_
    exact x_vret G Rt dX4_readStatement_114 ⟨rfl, rfl, rfl, (by
          have e9 : pStm bt a V = pSize bt (skp bt a + 4) V := by unfold pStm; rw [if_pos y12]
          rw [e9, ← e12]
          exact pres_tr (tfr_st (tfr_st (tfr_refl _) (by omega)) (by omega)) h19)⟩
theorem pnum_ge {bt : Int → Int} {len a lo hi : Int} (h : TB bt len) (ha : a ≤ len) (g : (pnum bt a lo hi).1 = -1) (h0 : 0 ≤ a) : a ≤ (pnum bt a lo hi).2.2 ∧ (pnum bt a lo hi).2.2 ≤ len := by
  have h1 := skp_b h ha
  have h2 := dge_run h h1.2.1
  have h3 := h2.1.1
  unfold pnum at g ⊢
  split
  · next c =>
    rw [if_pos c] at g
    split
    · exact ⟨by show a ≤ dge bt (skp bt a); omega, h2.2⟩
    · next c2 => rw [if_neg c2] at g; exfalso; have g : 8 * skp bt a + 2 = -1 := g; omega
  · next c => rw [if_neg c] at g; exfalso; have g : 8 * skp bt a + 1 = -1 := g; omega
theorem plab_ge {bt : Int → Int} {len a : Int} (h : TB bt len) (ha : a ≤ len) (g : (plab bt a).1 = -1) (h0 : 0 ≤ a) : a ≤ (plab bt a).2.2 ∧ (plab bt a).2.2 ≤ len := by
  have h1 := skp_b h ha
  have hb := plab_b h h0 ha
  unfold plab at g hb ⊢
  split
  · next c =>
    rw [if_pos c] at hb
    rcases hb with hb | hb
    · exact ⟨by show a ≤ skp bt a + 1; omega, hb.2.2.2⟩
    · exfalso; have hb1 : 1 ≤ (-1 : Int) := hb.1; omega
  · next c => rw [if_neg c] at g; exfalso; have g : 8 * skp bt a + 1 = -1 := g; omega
abbrev okb (x : Int) : Prop := x = -1 ∨ (1 ≤ x ∧ x ≤ 4000)
abbrev okq (len a : Int) (r : pR) : Prop := okb r.1 ∧ (r.1 = -1 → a ≤ r.2.1 ∧ r.2.1 ≤ len)
theorem bnd_q {len a : Int} {R : Int × Int × Int} {V : xM} {f : Int → Int → pR} (h : okb R.1) (hf : R.1 = -1 → okq len a (f R.2.1 R.2.2)) : okq len a (bnd R V f) := by
  by_cases g : R.1 = -1
  · rw [bnd_ok g]; exact hf g
  · rw [bnd_no g]; exact ⟨h, fun g2 => absurd g2 g⟩
theorem ite_q {len a : Int} {c : Prop} [Decidable c] {A B : pR} (h1 : c → okq len a A) (h2 : ¬ c → okq len a B) : okq len a (if c then A else B) := by
  split
  · next h => exact h1 h
  · next h => exact h2 h
theorem err_q {len a e : Int} {V : xM} (h : 1 ≤ e ∧ e ≤ 4000) : okq len a (e, 0, V) := ⟨Or.inr h, fun g => by have g : e = -1 := g; omega⟩
theorem ok_q {len a x : Int} {V : xM} (h : a ≤ x ∧ x ≤ len) : okq len a (-1, x, V) := ⟨Or.inl rfl, fun _ => h⟩
theorem pnum_k {bt : Int → Int} {len a lo hi : Int} (h : TB bt len) (h0 : 0 ≤ a) (ha : a ≤ len) : okb (pnum bt a lo hi).1 := by
  rcases pnum_b (lo := lo) (hi := hi) h h0 ha with g | g
  · exact Or.inl g.1
  · exact Or.inr g
theorem plab_k {bt : Int → Int} {len a : Int} (h : TB bt len) (h0 : 0 ≤ a) (ha : a ≤ len) : okb (plab bt a).1 := by
  rcases plab_b h h0 ha with g | g
  · exact Or.inl g.1
  · exact Or.inr g
theorem pStm_q {bt : Int → Int} {len a : Int} {V : xM} (hT : TB bt len) (ha : a ≤ len) (h0 : 0 ≤ a) : okq len a (pStm bt a V) := by
  have h1 := skp_b hT ha
  have hL := hT.1
  have hw : ∀ w : List Int, (∀ j, j < w.length → 97 ≤ w.getD j 0) → tkw bt (skp bt a) w → skp bt a + w.length ≤ len := fun w q g => tkw_b hT q h1.2.1 g
  have q1 : ∀ j, j < wSize.length → 97 ≤ wSize.getD j 0 := by decide
  have q2 : ∀ j, j < wWindow.length → 97 ≤ wWindow.getD j 0 := by decide
  have q3 : ∀ j, j < wSeed.length → 97 ≤ wSeed.getD j 0 := by decide
  have q4 : ∀ j, j < wWait.length → 97 ≤ wWait.getD j 0 := by decide
  have q5 : ∀ j, j < wItem.length → 97 ≤ wItem.getD j 0 := by decide
  have q6 : ∀ j, j < wKey.length → 97 ≤ wKey.getD j 0 := by decide
  have l1 : (wSize.length : Int) = 4 := rfl
  have l2 : (wWindow.length : Int) = 6 := rfl
  have l3 : (wSeed.length : Int) = 4 := rfl
  have l4 : (wWait.length : Int) = 4 := rfl
  have l5 : (wItem.length : Int) = 4 := rfl
  have l6 : (wKey.length : Int) = 3 := rfl
  unfold pStm
  refine ite_q (fun c => ?_) (fun _ => ?_)
  · have b := hw _ q1 c
    refine bnd_q (pnum_k hT (by omega) (by omega)) fun a1 => ?_
    have g1 := pnum_ge hT (by omega) a1 (by omega)
    refine bnd_q (pnum_k hT (by omega) g1.2) fun a2 => ?_
    have g2 := pnum_ge hT g1.2 a2 (by omega)
    exact ok_q (by omega)
  · refine ite_q (fun c => ?_) (fun _ => ?_)
    · have b := hw _ q2 c
      refine bnd_q (pnum_k hT (by omega) (by omega)) fun a1 => ?_
      have g1 := pnum_ge hT (by omega) a1 (by omega)
      refine bnd_q (pnum_k hT (by omega) g1.2) fun a2 => ?_
      have g2 := pnum_ge hT g1.2 a2 (by omega)
      exact ok_q (by omega)
    · refine ite_q (fun c => ?_) (fun _ => ?_)
      · have b := hw _ q3 c
        refine bnd_q (pnum_k hT (by omega) (by omega)) fun a1 => ?_
        have g1 := pnum_ge hT (by omega) a1 (by omega)
        exact ok_q (by omega)
      · refine ite_q (fun c => ?_) (fun _ => ?_)
        · have b := hw _ q4 c
          refine bnd_q (pnum_k hT (by omega) (by omega)) fun a1 => ?_
          have g1 := pnum_ge hT (by omega) a1 (by omega)
          exact ite_q (fun _ => err_q (by omega)) (fun _ => ok_q (by omega))
        · refine ite_q (fun c => ?_) (fun _ => ?_)
          · have b := hw _ q5 c
            refine bnd_q (pnum_k hT (by omega) (by omega)) fun a1 => ?_
            have g1 := pnum_ge hT (by omega) a1 (by omega)
            refine bnd_q (plab_k hT (by omega) g1.2) fun a2 => ?_
            have g2 := plab_ge hT g1.2 a2 (by omega)
            refine bnd_q (pnum_k hT (by omega) g2.2) fun a3 => ?_
            have g3 := pnum_ge hT g2.2 a3 (by omega)
            have s3 := skp_b hT g3.2
            generalize (pnum bt (plab bt (pnum bt (skp bt a + 4) 0 3).2.2).2.2 1 20).2.2 = y at *
            by_cases t1 : tkw bt (skp bt y) wTimes
            · rw [if_pos t1]
              have b5 := tkw_b hT (by decide) s3.2.1 t1
              have l7 : (wTimes.length : Int) = 5 := rfl
              refine bnd_q (pnum_k hT (by omega) (by omega)) fun a4 => ?_
              have g4 := pnum_ge hT (by omega) a4 (by omega)
              exact ite_q (fun _ => err_q (by omega)) (fun _ => ok_q (by omega))
            · rw [if_neg t1]
              exact bnd_q (Or.inl rfl) fun _ => ite_q (fun _ => err_q (by omega)) (fun _ => ok_q (by dsimp only; omega))
          · refine ite_q (fun c => ?_) (fun _ => ?_)
            · have b := hw _ q6 c
              refine bnd_q (pnum_k hT (by omega) (by omega)) fun a1 => ?_
              have g1 := pnum_ge hT (by omega) a1 (by omega)
              refine bnd_q (plab_k hT (by omega) g1.2) fun a2 => ?_
              have g2 := plab_ge hT g1.2 a2 (by omega)
              refine bnd_q (pnum_k hT (by omega) g2.2) fun a3 => ?_
              have g3 := pnum_ge hT g2.2 a3 (by omega)
              refine bnd_q (pnum_k hT (by omega) g3.2) fun a4 => ?_
              have g4 := pnum_ge hT g3.2 a4 (by omega)
              exact ite_q (fun _ => err_q (by omega)) (fun _ => ok_q (by omega))
            · exact err_q (by omega)
theorem pStm_ge {bt : Int → Int} {len a : Int} {V : xM} (hT : TB bt len) (ha : a ≤ len) (h0 : 0 ≤ a) (h : (pStm bt a V).1 = -1) : a ≤ (pStm bt a V).2.1 := ((pStm_q hT ha h0).2 h).1
theorem pall_b {bt : Int → Int} {len : Int} (hT : TB bt len) : ∀ (k : Nat) (a : Int) (V : xM), 0 ≤ a → a ≤ len → okb (pAll bt len k a V).1 := fun k => by
  induction k with
  | zero => intro a V _ _; exact Or.inl rfl
  | succ k ih =>
    intro a V h0 ha
    have hL := hT.1
    have hb := pStm_q (V := V) hT ha h0
    show okb (if (pStm bt a V).1 = -1 then _ else _ : Int × xM).1
    by_cases g : (pStm bt a V).1 = -1
    · rw [if_pos g]
      have h1 := hb.2 g
      have h3 := skp_b hT h1.2
      by_cases g2 : bt (skp bt (pStm bt a V).2.1) = 59
      · rw [if_pos g2]
        refine ih _ _ (by omega) ?_
        rcases Int.lt_or_le (skp bt (pStm bt a V).2.1) len with c | c
        · omega
        · have := hT.2.2 _ c; omega
      · rw [if_neg g2]
        by_cases g4 : len ≤ skp bt (pStm bt a V).2.1
        · rw [if_pos g4]; exact Or.inl rfl
        · rw [if_neg g4]; exact Or.inr (by dsimp only; omega)
    · rw [if_neg g]; exact hb.1
theorem zer_ok {V : xM} (h : zer V) : VOK V := by
  obtain ⟨⟨h1, h2, h3⟩, h4⟩ := h
  refine ⟨by unfold scl; omega, fun s hs => by have := h4 s hs; unfold swd; omega, fun i hi => by omega, fun i j hij hj => by omega⟩
set_option maxRecDepth 100000 in
set_option maxHeartbeats 4000000 in
theorem kX4_read (D : xD) (l : Launch) {n : Nat} {T : xT} {M : xM} (bt : Int → Int) (len : Int) (hY : LayOK n T) (hT : TB bt len) (hM : TM M bt len) : xC D l uX4_read 7 155 0 0 [xR 146] n T M (xPI n T (fun z M2 => ∃ V0, zer V0 ∧ z = (pAll bt len 401 0 V0).1 ∧ (z = -1 → shw M2 148 (pAll bt len 401 0 V0).2 ∧ VOK (pAll bt len 401 0 V0).2) ∧ TM M2 bt len ∧ tfr M M2)) := by
  refine x_met uX4_read (by decide) (Nat.le_of_ble_eq_true rfl) ?_
  intro Γ G Rt _
  have G : xG Γ RX4 cX4_read 2 7 155 0 0 := G
  have Rt : xRt Γ (xPI n T (fun z M2 => ∃ V0, zer V0 ∧ z = (pAll bt len 401 0 V0).1 ∧ (z = -1 → shw M2 148 (pAll bt len 401 0 V0).2 ∧ VOK (pAll bt len 401 0 V0).2) ∧ TM M2 bt len ∧ tfr M M2)) (some .int) 0 0 := Rt
  show xX Γ 0 0 n T 0 [(0, xR 146)] [] M
  have hL := hT.1
  have hMl := hM.1
  refine x_aload_n G 0 rfl rfl dX4_read_0 ?_
  refine x_get G (xR 148) xf4_1 lk_X4_18 (ly_n hY 146 (by decide)) (ly_k hY 146 (by decide)) (Or.inr ⟨rfl, _, (ly_r hY 146 1 (by decide) (by decide)), rfl⟩) dX4_read_1 ?_
  refine x_callVV G [] [] rfl (by decide) (st_n (ly_st148 hY) 0 (by decide)) (st_k (ly_st148 hY) 0 (by decide)) hy_X3_reset hi_X3_reset hs_X3_reset ml_X4_26 rfl rfl (kX3_reset _ _ 148 (ly_st148 hY)) (by decide) (by decide) (Nat.le_of_ble_eq_true rfl) dX4_read_4 (fun M4 h4 => ?_)
  obtain ⟨V0, hV0⟩ : ∃ p9 : xM, p9 = vw M4 148 := ⟨_, rfl⟩
  have hz0 : zer V0 := by rw [hV0]; exact h4.1
  have hv0 := zer_ok hz0
  refine x_aload_n G 0 rfl rfl dX4_read_7 ?_
  refine x_iconst G (by decide) dX4_read_8 ?_
  refine x_put G  xf4_3 lk_X4_29 (ly_n hY 146 (by decide)) (ly_k hY 146 (by decide)) rfl dX4_read_9 ?_
  refine x_aload_n G 0 rfl rfl dX4_read_12 ?_
  refine x_iconst G (by decide) dX4_read_13 ?_
  refine x_put G  xf4_4 lk_X4_32 (ly_n hY 146 (by decide)) (ly_k hY 146 (by decide)) rfl dX4_read_14 ?_
  refine x_iconst G (by decide) dX4_read_17 ?_
  refine x_istore_n G [(1, xI 0), (0, xR 146)] rfl (by decide) rfl dX4_read_18 ?_
  have loop19 : ∀ (d : Nat) (k : Int) (a0 : Int) (Vk : xM) (M1 : xM), (401 - k).toNat = d → (0 ≤ k ∧ k ≤ a0 ∧ k ≤ 401) → (PSt M1 bt len a0 (-1) Vk) → (VOK Vk) → (tfr M M1) → (pAll bt len 401 0 V0 = pAll bt len (401 - k).toNat a0 Vk) → xX Γ 0 0 n T 19 [(0, xR 146), (1, xI k)] [] M1 := by
    intro d
    induction d using Nat.strongRecOn with
    | ind d ih19 =>
    intro k a0 Vk M1 hd19 hk hps hvk htf hpa
    skip
    have hp3 := hps.2.1
    have hp4 := hps.2.2.1
    have hpb := hps.2.2.2.1
    refine x_iload_n G 1 rfl rfl dX4_read_19 ?_
    refine x_sipush G (by decide) dX4_read_20 ?_
    refine x_icmp_gt G 98 (by decide) dX4_read_23 (fun c23 => ?_) (fun c23 => ?_)
    · skip
      exfalso; omega
    · skip
      refine x_aload_n G 0 rfl rfl dX4_read_26 ?_
      refine x_callVV G [] [] rfl (by decide) (ly_n hY 146 (by decide)) (ly_k hY 146 (by decide)) hy_X4_readStatement hi_X4_readStatement hs_X4_readStatement ml_X4_35 rfl rfl (kX4_readStatement _ _ bt len a0 Vk hY hT hps.1 hps.2.1 hps.2.2.1 (by omega) hps.2.2.2.2 hvk) (by decide) (by decide) (Nat.le_of_ble_eq_true rfl) dX4_read_27 (fun M27 h27 => ?_)
      obtain ⟨a27, V27, hps27, hr27, hv27, ht27⟩ := h27
      obtain ⟨f27, hf27⟩ : ∃ p9 : Int, p9 = (pStm bt a0 Vk).1 := ⟨_, rfl⟩
      rw [← hf27] at hps27 hr27
      rw [← tp_id hps27.2.1 hps27.2.2.1]
      have hab27 := hps27.2.2.2.1
      have hl27 := hps27.1.1
      have hge27 : f27 = -1 → a0 ≤ a27 := fun g => by rw [(hr27 g).1]; exact pStm_ge hT (by omega) (by omega) (by rw [← hf27]; exact g)
      show xX Γ 0 0 n T 30 [(0, xR 146), (1, xI k)] [] (xst (xst M27 146 3 a27) 146 4 f27)
      refine x_aload_n G 0 rfl rfl dX4_read_30 ?_
      refine x_callVV G [] [] rfl (by decide) (ly_n hY 146 (by decide)) (ly_k hY 146 (by decide)) hy_X4_skipBlanks hi_X4_skipBlanks hs_X4_skipBlanks ml_X4_38 rfl rfl (kX4_skipBlanks _ _ bt len a27 f27 hY hT (tm_tp hps27.1) (tp_3 _ _ _) (tp_4 _ _ _) (by omega)) (by decide) (by decide) (Nat.le_of_ble_eq_true rfl) dX4_read_31 (fun M31 h31 => ?_)
      subst h31
      rw [tp_tp]
      have hsk31 := skp_b hT (show a27 ≤ len by omega)
      show xX Γ 0 0 n T 34 [(0, xR 146), (1, xI k)] [] (xst (xst M27 146 3 (skp bt a27)) 146 4 f27)
      refine x_aload_n G 0 rfl rfl dX4_read_34 ?_
      refine x_get G (xI ((xst (xst M27 146 3 (skp bt a27)) 146 4 f27) 146 4)) xf4_4 lk_X4_32 (ly_n hY 146 (by decide)) (ly_k hY 146 (by decide)) (Or.inl ⟨rfl, rfl⟩) dX4_read_35 ?_
      rw [show (xst (xst M27 146 3 (skp bt a27)) 146 4 f27) 146 4 = f27 from (xst_same ..)]
      refine x_iconst G (by decide) dX4_read_38 ?_
      refine x_icmp_ne G 98 (by decide) dX4_read_39 (fun c39 => ?_) (fun c39 => ?_)
      · skip
        refine x_aload_n G 0 rfl rfl dX4_read_98 ?_
        refine x_get G (xI ((xst (xst M27 146 3 (skp bt a27)) 146 4 f27) 146 4)) xf4_4 lk_X4_32 (ly_n hY 146 (by decide)) (ly_k hY 146 (by decide)) (Or.inl ⟨rfl, rfl⟩) dX4_read_99 ?_
        rw [show (xst (xst M27 146 3 (skp bt a27)) 146 4 f27) 146 4 = f27 from (xst_same ..)]
        exact x_iret G Rt dX4_read_102 ⟨rfl, rfl, _, rfl, ⟨V0, hz0, (by
          have e9 : f27 = (pAll bt len 401 0 V0).1 ∧ (f27 = -1 → shw (xst (xst M27 146 3 (skp bt a27)) 146 4 f27) 148 (pAll bt len 401 0 V0).2 ∧ VOK (pAll bt len 401 0 V0).2) := by
            rw [hpa, show (401 - k).toNat = (401 - (k + 1)).toNat + 1 by omega]
            show f27 = (if (pStm bt a0 Vk).1 = -1 then _ else _ : Int × xM).1 ∧ _
            rw [if_neg (by omega)]
            exact ⟨hf27, fun g => by omega⟩
          exact ⟨e9.1, e9.2, (show PSt (xst (xst M27 146 3 (skp bt a27)) 146 4 f27) bt len (skp bt a27) f27 V27 from (ps_mk rfl (rfl.trans (tp_row (by decide))) hps27.1 (by omega) (shw_st (shw_st hps27.2.2.2.2 (by omega)) (by omega)))).1, (tfr_st (tfr_st (tfr_trans htf ht27) (by omega)) (by omega))⟩)⟩⟩
      · skip
        refine x_aload_n G 0 rfl rfl dX4_read_42 ?_
        refine x_get G (xI ((xst (xst M27 146 3 (skp bt a27)) 146 4 f27) 146 3)) xf4_3 lk_X4_29 (ly_n hY 146 (by decide)) (ly_k hY 146 (by decide)) (Or.inl ⟨rfl, rfl⟩) dX4_read_43 ?_
        rw [show (xst (xst M27 146 3 (skp bt a27)) 146 4 f27) 146 3 = (skp bt a27) from ((xst_nq (by omega)).trans (xst_same ..))]
        refine x_aload_n G 0 rfl rfl dX4_read_46 ?_
        refine x_get G (xI ((xst (xst M27 146 3 (skp bt a27)) 146 4 f27) 146 2)) xf4_2 lk_X4_22 (ly_n hY 146 (by decide)) (ly_k hY 146 (by decide)) (Or.inl ⟨rfl, rfl⟩) dX4_read_47 ?_
        rw [show (xst (xst M27 146 3 (skp bt a27)) 146 4 f27) 146 2 = (M27 146 2) from ((xst_nq (by omega)).trans (xst_nq (by omega)))]
        refine x_icmp_lt G 56 (by decide) dX4_read_50 (fun c50 => ?_) (fun c50 => ?_)
        · skip
          refine x_aload_n G 0 rfl rfl dX4_read_56 ?_
          refine x_get G (xR 147) xf4_0 lk_X4_9 (ly_n hY 146 (by decide)) (ly_k hY 146 (by decide)) (Or.inr ⟨rfl, _, (ly_r hY 146 0 (by decide) (by decide)), rfl⟩) dX4_read_57 ?_
          refine x_aload_n G 0 rfl rfl dX4_read_60 ?_
          refine x_get G (xI ((xst (xst M27 146 3 (skp bt a27)) 146 4 f27) 146 3)) xf4_3 lk_X4_29 (ly_n hY 146 (by decide)) (ly_k hY 146 (by decide)) (Or.inl ⟨rfl, rfl⟩) dX4_read_61 ?_
          rw [show (xst (xst M27 146 3 (skp bt a27)) 146 4 f27) 146 3 = (skp bt a27) from ((xst_nq (by omega)).trans (xst_same ..))]
          refine x_iald G (ly_n hY 147 (by decide)) (ly_k hY 147 (by decide)) (show _ = 400 from ly_l hY 147 (by decide)) (by omega) (by omega) dX4_read_64 ?_
          rw [show (xst (xst M27 146 3 (skp bt a27)) 146 4 f27) 147 (skp bt a27).toNat = (M27 147 (skp bt a27).toNat) from ((xst_nq (by omega)).trans (xst_nq (by omega)))]
          have hbp := hps27.1.2 (skp bt a27).toNat (by omega)
          have hpp : ((((skp bt a27).toNat) : Nat) : Int) = skp bt a27 := by omega
          rw [hpp] at hbp
          rw [hbp]
          skip
          refine x_bipush G (by decide) dX4_read_65 ?_
          refine x_icmp_eq G 82 (by decide) dX4_read_67 (fun c67 => ?_) (fun c67 => ?_)
          · skip
            refine x_aload_n G 0 rfl rfl dX4_read_82 ?_
            refine x_dup G rfl dX4_read_83 ?_
            refine x_get G (xI ((xst (xst M27 146 3 (skp bt a27)) 146 4 f27) 146 3)) xf4_3 lk_X4_29 (ly_n hY 146 (by decide)) (ly_k hY 146 (by decide)) (Or.inl ⟨rfl, rfl⟩) dX4_read_84 ?_
            rw [show (xst (xst M27 146 3 (skp bt a27)) 146 4 f27) 146 3 = (skp bt a27) from ((xst_nq (by omega)).trans (xst_same ..))]
            refine x_iconst G (by decide) dX4_read_87 ?_
            refine x_iadd G (by omega) dX4_read_88 ?_
            refine x_put G  xf4_3 lk_X4_29 (ly_n hY 146 (by decide)) (ly_k hY 146 (by decide)) rfl dX4_read_89 ?_
            rw [tp_a]
            show xX Γ 0 0 n T 92 [(0, xR 146), (1, xI k)] [] (xst (xst M27 146 3 ((skp bt a27) + 1)) 146 4 f27)
            refine x_iinc G [(1, xI (k + 1)), (0, xR 146)] 1 rfl (by decide) (by omega) rfl dX4_read_92 ?_
            refine x_goto G 19 (by decide) dX4_read_95 ?_
            refine x_sub [(0, xR 146), (1, xI (k + 1))] [1, 0] rfl ?_
            exact ih19 _ (by omega) (k + 1) ((skp bt a27) + 1) V27 (xst (xst M27 146 3 ((skp bt a27) + 1)) 146 4 f27) rfl (by omega) ((by have ef : f27 = -1 := (by omega); rw [← ef]; exact (ps_mk rfl (rfl.trans (tp_row (by decide))) hps27.1 (by omega) (shw_st (shw_st hps27.2.2.2.2 (by omega)) (by omega))))) (hv27) ((tfr_st (tfr_st (tfr_trans htf ht27) (by omega)) (by omega))) (by
            rw [hpa, show (401 - k).toNat = (401 - (k + 1)).toNat + 1 by omega]
            have e := hr27 (by omega)
            have c67b : bt (skp bt a27) = 59 := by omega
            show (if (pStm bt a0 Vk).1 = -1 then _ else _) = _
            rw [if_pos (by omega), ← e.1, ← e.2, if_pos c67b])
          · skip
            refine x_aload_n G 0 rfl rfl dX4_read_70 ?_
            refine x_aload_n G 0 rfl rfl dX4_read_71 ?_
            refine x_get G (xI ((xst (xst M27 146 3 (skp bt a27)) 146 4 f27) 146 3)) xf4_3 lk_X4_29 (ly_n hY 146 (by decide)) (ly_k hY 146 (by decide)) (Or.inl ⟨rfl, rfl⟩) dX4_read_72 ?_
            rw [show (xst (xst M27 146 3 (skp bt a27)) 146 4 f27) 146 3 = (skp bt a27) from ((xst_nq (by omega)).trans (xst_same ..))]
            refine x_iconst G (by decide) dX4_read_75 ?_
            refine x_callVV G [] [xI (skp bt a27), xI 1] rfl (by decide) (ly_n hY 146 (by decide)) (ly_k hY 146 (by decide)) hy_X4_meet hi_X4_meet hs_X4_meet ml_X4_41 rfl rfl (kX4_meet _ _ bt len (skp bt a27) f27 (skp bt a27) 1 hY hT (tm_tp hps27.1) (tp_3 _ _ _) (tp_4 _ _ _) (by omega) (by omega) (by omega)) (by decide) (by decide) (Nat.le_of_ble_eq_true rfl) dX4_read_76 (fun M76 h76 => ?_)
            subst h76
            rw [tp_tp]
            obtain ⟨f76, hf76⟩ : ∃ p9 : Int, p9 = (if f27 = -1 then 8 * (skp bt a27) + 1 else f27) := ⟨_, rfl⟩
            rw [← hf76]
            have hg76 : (f27 = -1 ∧ f76 = 8 * (skp bt a27) + 1) ∨ (¬ f27 = -1 ∧ f76 = f27) := by (split at hf76 <;> omega)
            show xX Γ 0 0 n T 79 [(0, xR 146), (1, xI k)] [] (xst (xst M27 146 3 (skp bt a27)) 146 4 f76)
            refine x_goto G 98 (by decide) dX4_read_79 ?_
            refine x_aload_n G 0 rfl rfl dX4_read_98 ?_
            refine x_get G (xI ((xst (xst M27 146 3 (skp bt a27)) 146 4 f76) 146 4)) xf4_4 lk_X4_32 (ly_n hY 146 (by decide)) (ly_k hY 146 (by decide)) (Or.inl ⟨rfl, rfl⟩) dX4_read_99 ?_
            rw [show (xst (xst M27 146 3 (skp bt a27)) 146 4 f76) 146 4 = f76 from (xst_same ..)]
            exact x_iret G Rt dX4_read_102 ⟨rfl, rfl, _, rfl, ⟨V0, hz0, (by
          have e9 : f76 = (pAll bt len 401 0 V0).1 ∧ (f76 = -1 → shw (xst (xst M27 146 3 (skp bt a27)) 146 4 f76) 148 (pAll bt len 401 0 V0).2 ∧ VOK (pAll bt len 401 0 V0).2) := by
            rw [hpa, show (401 - k).toNat = (401 - (k + 1)).toNat + 1 by omega]
            have e := hr27 (by omega)
            show f76 = (if (pStm bt a0 Vk).1 = -1 then _ else _ : Int × xM).1 ∧ _
            rw [if_pos (by omega), ← e.1, if_neg (by omega), if_neg (by omega)]
            exact ⟨by show f76 = 8 * skp bt a27 + 1; omega, fun g => by omega⟩
          exact ⟨e9.1, e9.2, (show PSt (xst (xst M27 146 3 (skp bt a27)) 146 4 f76) bt len (skp bt a27) f76 V27 from (ps_mk rfl (rfl.trans (tp_row (by decide))) hps27.1 (by omega) (shw_st (shw_st hps27.2.2.2.2 (by omega)) (by omega)))).1, (tfr_st (tfr_st (tfr_trans htf ht27) (by omega)) (by omega))⟩)⟩⟩
        · skip
          refine x_goto G 98 (by decide) dX4_read_53 ?_
          refine x_aload_n G 0 rfl rfl dX4_read_98 ?_
          refine x_get G (xI ((xst (xst M27 146 3 (skp bt a27)) 146 4 f27) 146 4)) xf4_4 lk_X4_32 (ly_n hY 146 (by decide)) (ly_k hY 146 (by decide)) (Or.inl ⟨rfl, rfl⟩) dX4_read_99 ?_
          rw [show (xst (xst M27 146 3 (skp bt a27)) 146 4 f27) 146 4 = f27 from (xst_same ..)]
          exact x_iret G Rt dX4_read_102 ⟨rfl, rfl, _, rfl, ⟨V0, hz0, (by
          have e9 : f27 = (pAll bt len 401 0 V0).1 ∧ (f27 = -1 → shw (xst (xst M27 146 3 (skp bt a27)) 146 4 f27) 148 (pAll bt len 401 0 V0).2 ∧ VOK (pAll bt len 401 0 V0).2) := by
            rw [hpa, show (401 - k).toNat = (401 - (k + 1)).toNat + 1 by omega]
            have e := hr27 (by omega)
            show f27 = (if (pStm bt a0 Vk).1 = -1 then _ else _ : Int × xM).1 ∧ (_ → shw _ 148 (if (pStm bt a0 Vk).1 = -1 then _ else _ : Int × xM).2 ∧ VOK (if (pStm bt a0 Vk).1 = -1 then _ else _ : Int × xM).2)
            rw [if_pos (by omega), ← e.1, ← e.2, if_neg (by have := hT.2.2 (skp bt a27) (by omega); omega), if_pos (by omega)]
            exact ⟨by omega, fun _ => ⟨(shw_st (shw_st hps27.2.2.2.2 (by omega)) (by omega)), hv27⟩⟩
          exact ⟨e9.1, e9.2, (show PSt (xst (xst M27 146 3 (skp bt a27)) 146 4 f27) bt len (skp bt a27) f27 V27 from (ps_mk rfl (rfl.trans (tp_row (by decide))) hps27.1 (by omega) (shw_st (shw_st hps27.2.2.2.2 (by omega)) (by omega)))).1, (tfr_st (tfr_st (tfr_trans htf ht27) (by omega)) (by omega))⟩)⟩⟩
  refine x_sub [(0, xR 146), (1, xI 0)] [1, 0] rfl ?_
  exact loop19 _ 0 0 V0 (xst (xst M4 146 3 0) 146 4 (-1)) rfl (by omega) ((ps_mk (Mb := M4) rfl (tp_row (by decide)) ⟨by rw [h4.2 146 (by omega)]; exact hM.1, fun k hk => by rw [h4.2 147 (by omega)]; exact hM.2 k hk⟩ (by omega) (shw_st (shw_st (by rw [hV0]; exact shw_self _ _) (by omega)) (by omega)))) (hv0) ((tfr_st (tfr_st (fun q9 g9 => h4.2 q9 (by omega)) (by omega)) (by omega))) (rfl)
