theorem row_tp {M : xM} {a f : Int} (h1 : M 146 3 = a) (h2 : M 146 4 = f) : M 146 = tpM M a f 146 := by rw [tp_id h1 h2]
set_option maxRecDepth 100000 in
set_option maxHeartbeats 4000000 in
theorem kX4_readItems (D : xD) (l : Launch) {n : Nat} {T : xT} {M : xM} (bt : Int → Int) (len : Int) (a : Int) (V : xM) (st : Int) (hY : LayOK n T) (hT : TB bt len) (hM : TM M bt len) (h3 : M 146 3 = a) (h4 : M 146 4 = -1) (ha : 0 ≤ a ∧ a ≤ len) (hV : shw M 148 V) (hv : VOK V) (hst : 0 ≤ st ∧ st ≤ len) : xC D l uX4_readItems 5 108 0 0 [xR 146, xI st] n T M (xPV n T (fun M2 => PRes M M2 bt len (pItm bt st a V))) := by
  refine x_met uX4_readItems (by decide) (Nat.le_of_ble_eq_true rfl) ?_
  intro Γ G Rt _
  have G : xG Γ RX4 cX4_readItems 7 5 108 0 0 := G
  have Rt : xRt Γ (xPV n T (fun M2 => PRes M M2 bt len (pItm bt st a V))) none 0 0 := Rt
  show xX Γ 0 0 n T 0 [(0, xR 146), (1, xI st)] [] M
  have hL := hT.1
  have hMl := hM.1
  have hsc := hv.1
  rw [← tp_id h3 h4]
  show xX Γ 0 0 n T 0 [(0, xR 146), (1, xI st)] [] (xst (xst M 146 3 a) 146 4 (-1))
  refine x_aload_n G 0 rfl rfl dX4_readItems_0 ?_
  refine x_iconst G (by decide) dX4_readItems_1 ?_
  refine x_iconst G (by decide) dX4_readItems_2 ?_
  refine x_callVI G [] [xI 0, xI 3] rfl (by decide) (ly_n hY 146 (by decide)) (ly_k hY 146 (by decide)) hy_X4_number hi_X4_number hs_X4_number ml_X4_80 rfl rfl (kX4_number _ _ bt len a (-1) 0 3 hY hT (tm_tp hM) (tp_3 _ _ _) (tp_4 _ _ _) (by omega) (by omega)) (by decide) (by decide) (Nat.le_of_ble_eq_true rfl) dX4_readItems_3 (fun z3 M3 h3 => ?_)
  obtain ⟨a3, ha3, rfl, hz9, hw9⟩ := h3
  rw [tp_tp]
  obtain ⟨f3, hf9⟩ : ∃ p9 : Int, p9 = (if (-1) = -1 then (pnum bt a 0 3).1 else (-1)) := ⟨_, rfl⟩
  rw [← hf9]
  have hq3 : (f3 = -1 ∧ (-1) = -1 ∧ (pnum bt a 0 3).1 = -1 ∧ z3 = (pnum bt a 0 3).2.1 ∧ a3 = (pnum bt a 0 3).2.2 ∧ (0 ≤ z3 ∧ z3 ≤ 3)) ∨ (¬ f3 = -1 ∧ (((-1) = -1 ∧ f3 = (pnum bt a 0 3).1) ∨ (¬ (-1) = -1 ∧ f3 = (-1))) ∧ z3 = 0) := num_sum hf9 hz9 hw9 (pnum_b (bt := bt) (lo := 0) (hi := 3) hT (show 0 ≤ a by omega) (show a ≤ len by omega))
  clear hf9 hz9 hw9
  show xX Γ 0 0 n T 6 [(0, xR 146), (1, xI st)] [xI z3] (xst (xst M 146 3 a3) 146 4 f3)
  refine x_istore_n G [(2, xI z3), (0, xR 146), (1, xI st)] rfl (by decide) rfl dX4_readItems_6 ?_
  refine x_aload_n G 1 rfl rfl dX4_readItems_7 ?_
  refine x_callVI G [] [] rfl (by decide) (ly_n hY 146 (by decide)) (ly_k hY 146 (by decide)) hy_X4_label hi_X4_label hs_X4_label ml_X4_97 rfl rfl (kX4_label _ _ bt len a3 f3 hY hT (tm_tp hM) (tp_3 _ _ _) (tp_4 _ _ _) (by omega)) (by decide) (by decide) (Nat.le_of_ble_eq_true rfl) dX4_readItems_8 (fun z8 M8 h8 => ?_)
  obtain ⟨a8, ha8, rfl, hz9, hw9⟩ := h8
  rw [tp_tp]
  obtain ⟨f8, hf9⟩ : ∃ p9 : Int, p9 = (if f3 = -1 then (plab bt a3).1 else f3) := ⟨_, rfl⟩
  rw [← hf9]
  have hq8 : (f8 = -1 ∧ f3 = -1 ∧ (plab bt a3).1 = -1 ∧ z8 = (plab bt a3).2.1 ∧ a8 = (plab bt a3).2.2 ∧ (0 ≤ z8 ∧ z8 ≤ 25)) ∨ (¬ f8 = -1 ∧ ((f3 = -1 ∧ f8 = (plab bt a3).1) ∨ (¬ f3 = -1 ∧ f8 = f3)) ∧ (0 ≤ z8 ∧ z8 ≤ 25)) := lab_sum hf9 hz9 hw9 (plab_b (bt := bt) hT (show 0 ≤ a3 by omega) (show a3 ≤ len by omega))
  clear hf9 hz9 hw9
  show xX Γ 0 0 n T 11 [(2, xI z3), (0, xR 146), (1, xI st)] [xI z8] (xst (xst M 146 3 a8) 146 4 f8)
  refine x_istore_n G [(3, xI z8), (2, xI z3), (0, xR 146), (1, xI st)] rfl (by decide) rfl dX4_readItems_11 ?_
  refine x_aload_n G 2 rfl rfl dX4_readItems_12 ?_
  refine x_iconst G (by decide) dX4_readItems_13 ?_
  refine x_bipush G (by decide) dX4_readItems_14 ?_
  refine x_callVI G [] [xI 1, xI 20] rfl (by decide) (ly_n hY 146 (by decide)) (ly_k hY 146 (by decide)) hy_X4_number hi_X4_number hs_X4_number ml_X4_80 rfl rfl (kX4_number _ _ bt len a8 f8 1 20 hY hT (tm_tp hM) (tp_3 _ _ _) (tp_4 _ _ _) (by omega) (by omega)) (by decide) (by decide) (Nat.le_of_ble_eq_true rfl) dX4_readItems_16 (fun z16 M16 h16 => ?_)
  obtain ⟨a16, ha16, rfl, hz9, hw9⟩ := h16
  rw [tp_tp]
  obtain ⟨f16, hf9⟩ : ∃ p9 : Int, p9 = (if f8 = -1 then (pnum bt a8 1 20).1 else f8) := ⟨_, rfl⟩
  rw [← hf9]
  have hq16 : (f16 = -1 ∧ f8 = -1 ∧ (pnum bt a8 1 20).1 = -1 ∧ z16 = (pnum bt a8 1 20).2.1 ∧ a16 = (pnum bt a8 1 20).2.2 ∧ (1 ≤ z16 ∧ z16 ≤ 20)) ∨ (¬ f16 = -1 ∧ ((f8 = -1 ∧ f16 = (pnum bt a8 1 20).1) ∨ (¬ f8 = -1 ∧ f16 = f8)) ∧ z16 = 1) := num_sum hf9 hz9 hw9 (pnum_b (bt := bt) (lo := 1) (hi := 20) hT (show 0 ≤ a8 by omega) (show a8 ≤ len by omega))
  clear hf9 hz9 hw9
  show xX Γ 0 0 n T 19 [(3, xI z8), (2, xI z3), (0, xR 146), (1, xI st)] [xI z16] (xst (xst M 146 3 a16) 146 4 f16)
  refine x_istore G [(4, xI z16), (3, xI z8), (2, xI z3), (0, xR 146), (1, xI st)] (by decide) rfl dX4_readItems_19 ?_
  refine x_iconst G (by decide) dX4_readItems_21 ?_
  refine x_istore G [(5, xI 1), (4, xI z16), (3, xI z8), (2, xI z3), (0, xR 146), (1, xI st)] (by decide) rfl dX4_readItems_22 ?_
  refine x_aload_n G 4 rfl rfl dX4_readItems_24 ?_
  refine x_ldcS G (i := 5) rfl dX4_readItems_25 ?_
  refine x_callVI G [] [xR (1000000 + 5)] rfl (by decide) (ly_n hY 146 (by decide)) (ly_k hY 146 (by decide)) hy_X4_takes hi_X4_takes hs_X4_takes ml_X4_47 rfl rfl (kX4_takes _ _ bt len a16 f16 5 wTimes hY hT (tm_tp hM) (tp_3 _ _ _) (tp_4 _ _ _) (by omega) ⟨_, _, _, rfl⟩) (by decide) (by decide) (Nat.le_of_ble_eq_true rfl) dX4_readItems_27 (fun z27 M27 h27 => ?_)
  obtain ⟨a27, ha27, rfl⟩ : ∃ p9, ((z27 = 1 ∧ f16 = -1 ∧ tkw bt (skp bt a16) wTimes ∧ p9 ≤ len ∧ p9 = skp bt a16 + 5) ∨ (z27 = 0 ∧ (f16 = -1 → ¬ tkw bt (skp bt a16) wTimes) ∧ p9 = skp bt a16)) ∧ M27 = tpM (xst (xst M 146 3 a16) 146 4 f16) p9 f16 := by
    rcases h27 with ⟨g1, g2, g3, g4, g5⟩ | ⟨g1, g2, g3⟩
    · exact ⟨_, Or.inl ⟨g1, g2, g3, g4, rfl⟩, g5⟩
    · exact ⟨_, Or.inr ⟨g1, g2, rfl⟩, g3⟩
  rw [tp_tp]
  have hsk27 := skp_b hT (show a16 ≤ len by omega)
  show xX Γ 0 0 n T 30 [(5, xI 1), (4, xI z16), (3, xI z8), (2, xI z3), (0, xR 146), (1, xI st)] [xI z27] (xst (xst M 146 3 a27) 146 4 f16)
  refine x_if_eq G 42 (by decide) dX4_readItems_30 (fun c30 => ?_) (fun c30 => ?_)
  · skip
    skip
    refine x_aload_n G 4 rfl rfl dX4_readItems_42 ?_
    refine x_get G (xR 148) xf4_1 lk_X4_18 (ly_n hY 146 (by decide)) (ly_k hY 146 (by decide)) (Or.inr ⟨rfl, _, (ly_r hY 146 1 (by decide) (by decide)), rfl⟩) dX4_readItems_43 ?_
    refine x_get G (xI ((xst (xst M 146 3 a27) 146 4 f16) 148 10)) xf3_10 lk_X4_103 (st_n (ly_st148 hY) 0 (by decide)) (st_k (ly_st148 hY) 0 (by decide)) (Or.inl ⟨rfl, rfl⟩) dX4_readItems_46 ?_
    rw [show (xst (xst M 146 3 a27) 146 4 f16) 148 10 = (V 0 10) from ((xst_nq (by omega)).trans ((xst_nq (by omega)).trans (congrFun (hV 0 (by decide) (by decide) (by decide)) 10)))]
    refine x_iload G 0 rfl dX4_readItems_49 ?_
    refine x_iadd G (by omega) dX4_readItems_51 ?_
    refine x_bipush G (by decide) dX4_readItems_52 ?_
    refine x_icmp_le G 63 (by decide) dX4_readItems_54 (fun c54 => ?_) (fun c54 => ?_)
    · skip
      skip
      refine x_iconst G (by decide) dX4_readItems_63 ?_
      refine x_istore G [(6, xI 0), (5, xI 1), (4, xI z16), (3, xI z8), (2, xI z3), (0, xR 146), (1, xI st)] (by decide) rfl dX4_readItems_64 ?_
      have loop66 : ∀ (d : Nat) (k : Int) (M1 : xM), (1 - k).toNat = d → (0 ≤ k ∧ k ≤ 1) → (PSt M1 bt len a27 f16 (its z3 z8 z16 k.toNat V)) → (¬ f16 = -1 → k = 0) → (tfr M M1) → xX Γ 0 0 n T 66 [(0, xR 146), (1, xI st), (2, xI z3), (3, xI z8), (4, xI z16), (5, xI 1), (6, xI k)] [] M1 := by
        intro d
        induction d using Nat.strongRecOn with
        | ind d ih66 =>
        intro k M1 hd66 hk hps hfk htf
        have hdb := drw_b ((its z3 z8 z16 k.toNat V) 0 12)
        have hic := its_c z3 z8 z16 V k.toNat
        have hp4 := hps.2.2.1
        have hp3 := hps.2.1
        have hvk : VOK (its z3 z8 z16 k.toNat V) := (by rcases Decidable.em (k = 0) with g | g; (rw [g]; exact hv); exact its_ok hv (by omega) (by omega) (by omega) _ (by omega))
        refine x_iload G 6 rfl dX4_readItems_66 ?_
        refine x_iload G 5 rfl dX4_readItems_68 ?_
        refine x_icmp_ge G 106 (by decide) dX4_readItems_70 (fun c70 => ?_) (fun c70 => ?_)
        · skip
          exact x_vret G Rt dX4_readItems_106 ⟨rfl, rfl, rfl, (by
          have e9 : (pItm bt st a V).1 = f16 ∧ (f16 = -1 → a27 = (pItm bt st a V).2.1 ∧ (its z3 z8 z16 k.toNat V) = (pItm bt st a V).2.2) := by
            unfold pItm
            rcases hq3 with ⟨k1, k2, k3, k4, k5, k6⟩ | ⟨k1, k2, k3⟩
            · rw [bnd_ok k3, ← k4, ← k5]
              rcases hq8 with ⟨k1, k2, k3, k4, k5, k6⟩ | ⟨k1, k2, k3⟩
              · rw [bnd_ok k3, ← k4, ← k5]
                rcases hq16 with ⟨k1, k2, k3, k4, k5, k6⟩ | ⟨k1, k2, k3⟩
                · rw [bnd_ok k3, ← k4, ← k5]
                  rw [if_neg (show ¬ tkw bt (skp bt a16) wTimes by rcases ha27 with g | g; exfalso; omega; exact g.2.1 (by omega))]
                  rw [bnd_ok (R := (-1, 1, skp bt a16)) rfl]
                  show (if 100 < V 0 10 + 1 then _ else _ : pR).1 = _ ∧ (_ → _ = (if 100 < V 0 10 + 1 then _ else _ : pR).2.1 ∧ _ = (if 100 < V 0 10 + 1 then _ else _ : pR).2.2)
                  rw [if_neg (by omega)]
                  exact ⟨by show -1 = _; omega, fun g => ⟨by show a27 = skp bt a16; omega, by rw [show k = 1 by omega]⟩⟩
                · rw [bnd_no (show ¬ (pnum bt a8 1 20).1 = -1 by omega)]
                  exact ⟨by show (pnum bt a8 1 20).1 = _; omega, fun g => by omega⟩
              · rw [bnd_no (show ¬ (plab bt a3).1 = -1 by omega)]
                exact ⟨by show (plab bt a3).1 = _; omega, fun g => by omega⟩
            · rw [bnd_no (show ¬ (pnum bt a 0 3).1 = -1 by omega)]
              exact ⟨by show (pnum bt a 0 3).1 = _; omega, fun g => by omega⟩
          exact pres_mk e9.1 hps e9.2 hvk htf)⟩
        · skip
          refine x_aload_n G 0 rfl rfl dX4_readItems_73 ?_
          refine x_get G (xI (M1 146 4)) xf4_4 lk_X4_32 (ly_n hY 146 (by decide)) (ly_k hY 146 (by decide)) (Or.inl ⟨rfl, rfl⟩) dX4_readItems_74 ?_
          refine x_iconst G (by decide) dX4_readItems_77 ?_
          refine x_icmp_ne G 106 (by decide) dX4_readItems_78 (fun c78 => ?_) (fun c78 => ?_)
          · skip
            exact x_vret G Rt dX4_readItems_106 ⟨rfl, rfl, rfl, (by
          have e9 : (pItm bt st a V).1 = f16 ∧ (f16 = -1 → a27 = (pItm bt st a V).2.1 ∧ (its z3 z8 z16 k.toNat V) = (pItm bt st a V).2.2) := by
            unfold pItm
            rcases hq3 with ⟨k1, k2, k3, k4, k5, k6⟩ | ⟨k1, k2, k3⟩
            · rw [bnd_ok k3, ← k4, ← k5]
              rcases hq8 with ⟨k1, k2, k3, k4, k5, k6⟩ | ⟨k1, k2, k3⟩
              · rw [bnd_ok k3, ← k4, ← k5]
                rcases hq16 with ⟨k1, k2, k3, k4, k5, k6⟩ | ⟨k1, k2, k3⟩
                · rw [bnd_ok k3, ← k4, ← k5]
                  rw [if_neg (show ¬ tkw bt (skp bt a16) wTimes by rcases ha27 with g | g; exfalso; omega; exact g.2.1 (by omega))]
                  rw [bnd_ok (R := (-1, 1, skp bt a16)) rfl]
                  show (if 100 < V 0 10 + 1 then _ else _ : pR).1 = _ ∧ (_ → _ = (if 100 < V 0 10 + 1 then _ else _ : pR).2.1 ∧ _ = (if 100 < V 0 10 + 1 then _ else _ : pR).2.2)
                  rw [if_neg (by omega)]
                  exact ⟨by show -1 = _; omega, fun g => ⟨by show a27 = skp bt a16; omega, by rw [show k = 1 by omega]⟩⟩
                · rw [bnd_no (show ¬ (pnum bt a8 1 20).1 = -1 by omega)]
                  exact ⟨by show (pnum bt a8 1 20).1 = _; omega, fun g => by omega⟩
              · rw [bnd_no (show ¬ (plab bt a3).1 = -1 by omega)]
                exact ⟨by show (plab bt a3).1 = _; omega, fun g => by omega⟩
            · rw [bnd_no (show ¬ (pnum bt a 0 3).1 = -1 by omega)]
              exact ⟨by show (pnum bt a 0 3).1 = _; omega, fun g => by omega⟩
          exact pres_mk e9.1 hps e9.2 hvk htf)⟩
          · skip
            refine x_aload_n G 0 rfl rfl dX4_readItems_81 ?_
            refine x_get G (xR 148) xf4_1 lk_X4_18 (ly_n hY 146 (by decide)) (ly_k hY 146 (by decide)) (Or.inr ⟨rfl, _, (ly_r hY 146 1 (by decide) (by decide)), rfl⟩) dX4_readItems_82 ?_
            refine x_iload_n G 2 rfl rfl dX4_readItems_85 ?_
            refine x_iload_n G 3 rfl rfl dX4_readItems_86 ?_
            refine x_iload G 4 rfl dX4_readItems_87 ?_
            refine x_aload_n G 0 rfl rfl dX4_readItems_89 ?_
            refine x_get G (xR 148) xf4_1 lk_X4_18 (ly_n hY 146 (by decide)) (ly_k hY 146 (by decide)) (Or.inr ⟨rfl, _, (ly_r hY 146 1 (by decide) (by decide)), rfl⟩) dX4_readItems_90 ?_
            refine x_callVI G [xI z16, xI z8, xI z3, xR 148] [] rfl (by decide) (st_n (ly_st148 hY) 0 (by decide)) (st_k (ly_st148 hY) 0 (by decide)) hy_X3_drawLot hi_X3_drawLot hs_X3_drawLot ml_X4_106 rfl rfl (kX3_drawLot _ _ 148 (its z3 z8 z16 k.toNat V) (ly_st148 hY) hps.2.2.2.2 hvk) (by decide) (by decide) (Nat.le_of_ble_eq_true rfl) dX4_readItems_93 (fun z93 M93 h93 => ?_)
            rw [h93.1]
            obtain ⟨hz93, rfl⟩ := h93
            have hvs : VOK (xst (its z3 z8 z16 k.toNat V) 0 12 (drw ((its z3 z8 z16 k.toNat V) 0 12))) := ok_seed hvk (by omega)
            have hsd0 : (xst (its z3 z8 z16 k.toNat V) 0 12 (drw ((its z3 z8 z16 k.toNat V) 0 12))) 0 10 = (its z3 z8 z16 k.toNat V) 0 10 := rfl
            refine x_callVI G [] [xI z3, xI z8, xI z16, xI (drw ((its z3 z8 z16 k.toNat V) 0 12) / 64)] rfl (by decide) (st_n (ly_st148 hY) 0 (by decide)) (st_k (ly_st148 hY) 0 (by decide)) hy_X3_add hi_X3_add hs_X3_add ml_X4_109 rfl rfl (kX3_add _ _ 148 (xst (its z3 z8 z16 k.toNat V) 0 12 (drw ((its z3 z8 z16 k.toNat V) 0 12))) z3 z8 z16 (drw ((its z3 z8 z16 k.toNat V) 0 12) / 64) (ly_st148 hY) (shw_xst hps.2.2.2.2 (k := 0) (by decide)) hvs (by omega)) (by decide) (by decide) (Nat.le_of_ble_eq_true rfl) dX4_readItems_96 (fun z96 M96 h96 => ?_)
            rw [h96.1]
            refine x_pop G rfl dX4_readItems_99 ?_
            refine x_iinc G [(6, xI (k + 1)), (0, xR 146), (1, xI st), (2, xI z3), (3, xI z8), (4, xI z16), (5, xI 1)] 6 rfl (by decide) (by omega) rfl dX4_readItems_100 ?_
            refine x_goto G 66 (by decide) dX4_readItems_103 ?_
            refine x_sub [(0, xR 146), (1, xI st), (2, xI z3), (3, xI z8), (4, xI z16), (5, xI 1), (6, xI (k + 1))] [1, 2, 3, 4, 5, 6, 0] rfl ?_
            exact ih66 _ (by omega) (k + 1) M96 rfl (by omega) ((by rw [show (k + 1).toNat = k.toNat + 1 by omega]; exact (ps_mk ((h96.2.2 146 (by omega)).trans ((xst_row (by omega)).trans (row_tp hps.2.1 hps.2.2.1))) (((h96.2.2 147 (by omega)).trans ((xst_row (by omega)).trans rfl))) hps.1 (by omega) h96.2.1))) (by omega) ((tfr_trans (tfr_st htf (by omega)) (fun q9 g9 => h96.2.2 q9 (by omega))))
      refine x_sub [(0, xR 146), (1, xI st), (2, xI z3), (3, xI z8), (4, xI z16), (5, xI 1), (6, xI 0)] [5, 6, 4, 3, 2, 1, 0] rfl ?_
      exact loop66 _ 0 (xst (xst M 146 3 a27) 146 4 f16) rfl (by omega) ((ps_mk rfl (rfl.trans (tp_row (by decide))) hM (by omega) (shw_st (shw_st hV (by omega)) (by omega)))) (by omega) ((tfr_st (tfr_st (tfr_refl _) (by omega)) (by omega)))
    · skip
      refine x_aload_n G 4 rfl rfl dX4_readItems_57 ?_
      refine x_iload_n G 5 rfl rfl dX4_readItems_58 ?_
      refine x_iconst G (by decide) dX4_readItems_59 ?_
      refine x_callVV G [] [xI st, xI 3] rfl (by decide) (ly_n hY 146 (by decide)) (ly_k hY 146 (by decide)) hy_X4_meet hi_X4_meet hs_X4_meet ml_X4_41 rfl rfl (kX4_meet _ _ bt len a27 f16 st 3 hY hT (tm_tp hM) (tp_3 _ _ _) (tp_4 _ _ _) (by omega) (by omega) (by omega)) (by decide) (by decide) (Nat.le_of_ble_eq_true rfl) dX4_readItems_60 (fun M60 h60 => ?_)
      subst h60
      rw [tp_tp]
      obtain ⟨f60, hf60⟩ : ∃ p9 : Int, p9 = (if f16 = -1 then 8 * st + 3 else f16) := ⟨_, rfl⟩
      rw [← hf60]
      have hg60 : (f16 = -1 ∧ f60 = 8 * st + 3) ∨ (¬ f16 = -1 ∧ f60 = f16) := by (split at hf60 <;> omega)
      show xX Γ 0 0 n T 63 [(5, xI 1), (4, xI z16), (3, xI z8), (2, xI z3), (0, xR 146), (1, xI st)] [] (xst (xst M 146 3 a27) 146 4 f60)
      skip
      refine x_iconst G (by decide) dX4_readItems_63 ?_
      refine x_istore G [(6, xI 0), (5, xI 1), (4, xI z16), (3, xI z8), (2, xI z3), (0, xR 146), (1, xI st)] (by decide) rfl dX4_readItems_64 ?_
      have loop66 : ∀ (d : Nat) (k : Int) (M1 : xM), (1 - k).toNat = d → (0 ≤ k ∧ k ≤ 1) → (PSt M1 bt len a27 f60 (its z3 z8 z16 k.toNat V)) → (¬ f60 = -1 → k = 0) → (tfr M M1) → xX Γ 0 0 n T 66 [(0, xR 146), (1, xI st), (2, xI z3), (3, xI z8), (4, xI z16), (5, xI 1), (6, xI k)] [] M1 := by
        intro d
        induction d using Nat.strongRecOn with
        | ind d ih66 =>
        intro k M1 hd66 hk hps hfk htf
        have hdb := drw_b ((its z3 z8 z16 k.toNat V) 0 12)
        have hic := its_c z3 z8 z16 V k.toNat
        have hp4 := hps.2.2.1
        have hp3 := hps.2.1
        have hvk : VOK (its z3 z8 z16 k.toNat V) := (by rcases Decidable.em (k = 0) with g | g; (rw [g]; exact hv); exact its_ok hv (by omega) (by omega) (by omega) _ (by omega))
        refine x_iload G 6 rfl dX4_readItems_66 ?_
        refine x_iload G 5 rfl dX4_readItems_68 ?_
        refine x_icmp_ge G 106 (by decide) dX4_readItems_70 (fun c70 => ?_) (fun c70 => ?_)
        · skip
          exact x_vret G Rt dX4_readItems_106 ⟨rfl, rfl, rfl, (by
          have e9 : (pItm bt st a V).1 = f60 ∧ (f60 = -1 → a27 = (pItm bt st a V).2.1 ∧ (its z3 z8 z16 k.toNat V) = (pItm bt st a V).2.2) := by
            unfold pItm
            rcases hq3 with ⟨k1, k2, k3, k4, k5, k6⟩ | ⟨k1, k2, k3⟩
            · rw [bnd_ok k3, ← k4, ← k5]
              rcases hq8 with ⟨k1, k2, k3, k4, k5, k6⟩ | ⟨k1, k2, k3⟩
              · rw [bnd_ok k3, ← k4, ← k5]
                rcases hq16 with ⟨k1, k2, k3, k4, k5, k6⟩ | ⟨k1, k2, k3⟩
                · rw [bnd_ok k3, ← k4, ← k5]
                  rw [if_neg (show ¬ tkw bt (skp bt a16) wTimes by rcases ha27 with g | g; exfalso; omega; exact g.2.1 (by omega))]
                  rw [bnd_ok (R := (-1, 1, skp bt a16)) rfl]
                  show (if 100 < V 0 10 + 1 then _ else _ : pR).1 = _ ∧ (_ → _ = (if 100 < V 0 10 + 1 then _ else _ : pR).2.1 ∧ _ = (if 100 < V 0 10 + 1 then _ else _ : pR).2.2)
                  rw [if_pos (by omega)]
                  exact ⟨by show 8 * st + 3 = _; omega, fun g => by omega⟩
                · rw [bnd_no (show ¬ (pnum bt a8 1 20).1 = -1 by omega)]
                  exact ⟨by show (pnum bt a8 1 20).1 = _; omega, fun g => by omega⟩
              · rw [bnd_no (show ¬ (plab bt a3).1 = -1 by omega)]
                exact ⟨by show (plab bt a3).1 = _; omega, fun g => by omega⟩
            · rw [bnd_no (show ¬ (pnum bt a 0 3).1 = -1 by omega)]
              exact ⟨by show (pnum bt a 0 3).1 = _; omega, fun g => by omega⟩
          exact pres_mk e9.1 hps e9.2 hvk htf)⟩
        · skip
          refine x_aload_n G 0 rfl rfl dX4_readItems_73 ?_
          refine x_get G (xI (M1 146 4)) xf4_4 lk_X4_32 (ly_n hY 146 (by decide)) (ly_k hY 146 (by decide)) (Or.inl ⟨rfl, rfl⟩) dX4_readItems_74 ?_
          refine x_iconst G (by decide) dX4_readItems_77 ?_
          refine x_icmp_ne G 106 (by decide) dX4_readItems_78 (fun c78 => ?_) (fun c78 => ?_)
          · skip
            exact x_vret G Rt dX4_readItems_106 ⟨rfl, rfl, rfl, (by
          have e9 : (pItm bt st a V).1 = f60 ∧ (f60 = -1 → a27 = (pItm bt st a V).2.1 ∧ (its z3 z8 z16 k.toNat V) = (pItm bt st a V).2.2) := by
            unfold pItm
            rcases hq3 with ⟨k1, k2, k3, k4, k5, k6⟩ | ⟨k1, k2, k3⟩
            · rw [bnd_ok k3, ← k4, ← k5]
              rcases hq8 with ⟨k1, k2, k3, k4, k5, k6⟩ | ⟨k1, k2, k3⟩
              · rw [bnd_ok k3, ← k4, ← k5]
                rcases hq16 with ⟨k1, k2, k3, k4, k5, k6⟩ | ⟨k1, k2, k3⟩
                · rw [bnd_ok k3, ← k4, ← k5]
                  rw [if_neg (show ¬ tkw bt (skp bt a16) wTimes by rcases ha27 with g | g; exfalso; omega; exact g.2.1 (by omega))]
                  rw [bnd_ok (R := (-1, 1, skp bt a16)) rfl]
                  show (if 100 < V 0 10 + 1 then _ else _ : pR).1 = _ ∧ (_ → _ = (if 100 < V 0 10 + 1 then _ else _ : pR).2.1 ∧ _ = (if 100 < V 0 10 + 1 then _ else _ : pR).2.2)
                  rw [if_pos (by omega)]
                  exact ⟨by show 8 * st + 3 = _; omega, fun g => by omega⟩
                · rw [bnd_no (show ¬ (pnum bt a8 1 20).1 = -1 by omega)]
                  exact ⟨by show (pnum bt a8 1 20).1 = _; omega, fun g => by omega⟩
              · rw [bnd_no (show ¬ (plab bt a3).1 = -1 by omega)]
                exact ⟨by show (plab bt a3).1 = _; omega, fun g => by omega⟩
            · rw [bnd_no (show ¬ (pnum bt a 0 3).1 = -1 by omega)]
              exact ⟨by show (pnum bt a 0 3).1 = _; omega, fun g => by omega⟩
          exact pres_mk e9.1 hps e9.2 hvk htf)⟩
          · skip
            refine x_aload_n G 0 rfl rfl dX4_readItems_81 ?_
            refine x_get G (xR 148) xf4_1 lk_X4_18 (ly_n hY 146 (by decide)) (ly_k hY 146 (by decide)) (Or.inr ⟨rfl, _, (ly_r hY 146 1 (by decide) (by decide)), rfl⟩) dX4_readItems_82 ?_
            refine x_iload_n G 2 rfl rfl dX4_readItems_85 ?_
            refine x_iload_n G 3 rfl rfl dX4_readItems_86 ?_
            refine x_iload G 4 rfl dX4_readItems_87 ?_
            refine x_aload_n G 0 rfl rfl dX4_readItems_89 ?_
            refine x_get G (xR 148) xf4_1 lk_X4_18 (ly_n hY 146 (by decide)) (ly_k hY 146 (by decide)) (Or.inr ⟨rfl, _, (ly_r hY 146 1 (by decide) (by decide)), rfl⟩) dX4_readItems_90 ?_
            refine x_callVI G [xI z16, xI z8, xI z3, xR 148] [] rfl (by decide) (st_n (ly_st148 hY) 0 (by decide)) (st_k (ly_st148 hY) 0 (by decide)) hy_X3_drawLot hi_X3_drawLot hs_X3_drawLot ml_X4_106 rfl rfl (kX3_drawLot _ _ 148 (its z3 z8 z16 k.toNat V) (ly_st148 hY) hps.2.2.2.2 hvk) (by decide) (by decide) (Nat.le_of_ble_eq_true rfl) dX4_readItems_93 (fun z93 M93 h93 => ?_)
            rw [h93.1]
            obtain ⟨hz93, rfl⟩ := h93
            have hvs : VOK (xst (its z3 z8 z16 k.toNat V) 0 12 (drw ((its z3 z8 z16 k.toNat V) 0 12))) := ok_seed hvk (by omega)
            have hsd0 : (xst (its z3 z8 z16 k.toNat V) 0 12 (drw ((its z3 z8 z16 k.toNat V) 0 12))) 0 10 = (its z3 z8 z16 k.toNat V) 0 10 := rfl
            refine x_callVI G [] [xI z3, xI z8, xI z16, xI (drw ((its z3 z8 z16 k.toNat V) 0 12) / 64)] rfl (by decide) (st_n (ly_st148 hY) 0 (by decide)) (st_k (ly_st148 hY) 0 (by decide)) hy_X3_add hi_X3_add hs_X3_add ml_X4_109 rfl rfl (kX3_add _ _ 148 (xst (its z3 z8 z16 k.toNat V) 0 12 (drw ((its z3 z8 z16 k.toNat V) 0 12))) z3 z8 z16 (drw ((its z3 z8 z16 k.toNat V) 0 12) / 64) (ly_st148 hY) (shw_xst hps.2.2.2.2 (k := 0) (by decide)) hvs (by omega)) (by decide) (by decide) (Nat.le_of_ble_eq_true rfl) dX4_readItems_96 (fun z96 M96 h96 => ?_)
            rw [h96.1]
            refine x_pop G rfl dX4_readItems_99 ?_
            refine x_iinc G [(6, xI (k + 1)), (0, xR 146), (1, xI st), (2, xI z3), (3, xI z8), (4, xI z16), (5, xI 1)] 6 rfl (by decide) (by omega) rfl dX4_readItems_100 ?_
            refine x_goto G 66 (by decide) dX4_readItems_103 ?_
            refine x_sub [(0, xR 146), (1, xI st), (2, xI z3), (3, xI z8), (4, xI z16), (5, xI 1), (6, xI (k + 1))] [1, 2, 3, 4, 5, 6, 0] rfl ?_
            exact ih66 _ (by omega) (k + 1) M96 rfl (by omega) ((by rw [show (k + 1).toNat = k.toNat + 1 by omega]; exact (ps_mk ((h96.2.2 146 (by omega)).trans ((xst_row (by omega)).trans (row_tp hps.2.1 hps.2.2.1))) (((h96.2.2 147 (by omega)).trans ((xst_row (by omega)).trans rfl))) hps.1 (by omega) h96.2.1))) (by omega) ((tfr_trans (tfr_st htf (by omega)) (fun q9 g9 => h96.2.2 q9 (by omega))))
      refine x_sub [(0, xR 146), (1, xI st), (2, xI z3), (3, xI z8), (4, xI z16), (5, xI 1), (6, xI 0)] [5, 6, 4, 3, 2, 1, 0] rfl ?_
      exact loop66 _ 0 (xst (xst M 146 3 a27) 146 4 f60) rfl (by omega) ((ps_mk rfl (rfl.trans (tp_row (by decide))) hM (by omega) (shw_st (shw_st hV (by omega)) (by omega)))) (by omega) ((tfr_st (tfr_st (tfr_refl _) (by omega)) (by omega)))
  · skip
    refine x_aload_n G 4 rfl rfl dX4_readItems_33 ?_
    refine x_iconst G (by decide) dX4_readItems_34 ?_
    refine x_bipush G (by decide) dX4_readItems_35 ?_
    refine x_callVI G [] [xI 1, xI 50] rfl (by decide) (ly_n hY 146 (by decide)) (ly_k hY 146 (by decide)) hy_X4_number hi_X4_number hs_X4_number ml_X4_80 rfl rfl (kX4_number _ _ bt len a27 f16 1 50 hY hT (tm_tp hM) (tp_3 _ _ _) (tp_4 _ _ _) (by omega) (by omega)) (by decide) (by decide) (Nat.le_of_ble_eq_true rfl) dX4_readItems_37 (fun z37 M37 h37 => ?_)
    obtain ⟨a37, ha37, rfl, hz9, hw9⟩ := h37
    rw [tp_tp]
    obtain ⟨f37, hf9⟩ : ∃ p9 : Int, p9 = (if f16 = -1 then (pnum bt a27 1 50).1 else f16) := ⟨_, rfl⟩
    rw [← hf9]
    have hq37 : (f37 = -1 ∧ f16 = -1 ∧ (pnum bt a27 1 50).1 = -1 ∧ z37 = (pnum bt a27 1 50).2.1 ∧ a37 = (pnum bt a27 1 50).2.2 ∧ (1 ≤ z37 ∧ z37 ≤ 50)) ∨ (¬ f37 = -1 ∧ ((f16 = -1 ∧ f37 = (pnum bt a27 1 50).1) ∨ (¬ f16 = -1 ∧ f37 = f16)) ∧ z37 = 1) := num_sum hf9 hz9 hw9 (pnum_b (bt := bt) (lo := 1) (hi := 50) hT (show 0 ≤ a27 by omega) (show a27 ≤ len by omega))
    clear hf9 hz9 hw9
    show xX Γ 0 0 n T 40 [(5, xI 1), (4, xI z16), (3, xI z8), (2, xI z3), (0, xR 146), (1, xI st)] [xI z37] (xst (xst M 146 3 a37) 146 4 f37)
    refine x_istore G [(5, xI z37), (4, xI z16), (3, xI z8), (2, xI z3), (0, xR 146), (1, xI st)] (by decide) rfl dX4_readItems_40 ?_
    skip
    refine x_aload_n G 4 rfl rfl dX4_readItems_42 ?_
    refine x_get G (xR 148) xf4_1 lk_X4_18 (ly_n hY 146 (by decide)) (ly_k hY 146 (by decide)) (Or.inr ⟨rfl, _, (ly_r hY 146 1 (by decide) (by decide)), rfl⟩) dX4_readItems_43 ?_
    refine x_get G (xI ((xst (xst M 146 3 a37) 146 4 f37) 148 10)) xf3_10 lk_X4_103 (st_n (ly_st148 hY) 0 (by decide)) (st_k (ly_st148 hY) 0 (by decide)) (Or.inl ⟨rfl, rfl⟩) dX4_readItems_46 ?_
    rw [show (xst (xst M 146 3 a37) 146 4 f37) 148 10 = (V 0 10) from ((xst_nq (by omega)).trans ((xst_nq (by omega)).trans (congrFun (hV 0 (by decide) (by decide) (by decide)) 10)))]
    refine x_iload G 0 rfl dX4_readItems_49 ?_
    refine x_iadd G (by omega) dX4_readItems_51 ?_
    refine x_bipush G (by decide) dX4_readItems_52 ?_
    refine x_icmp_le G 63 (by decide) dX4_readItems_54 (fun c54 => ?_) (fun c54 => ?_)
    · skip
      skip
      refine x_iconst G (by decide) dX4_readItems_63 ?_
      refine x_istore G [(6, xI 0), (5, xI z37), (4, xI z16), (3, xI z8), (2, xI z3), (0, xR 146), (1, xI st)] (by decide) rfl dX4_readItems_64 ?_
      have loop66 : ∀ (d : Nat) (k : Int) (M1 : xM), (z37 - k).toNat = d → (0 ≤ k ∧ k ≤ z37) → (PSt M1 bt len a37 f37 (its z3 z8 z16 k.toNat V)) → (¬ f37 = -1 → k = 0) → (tfr M M1) → xX Γ 0 0 n T 66 [(0, xR 146), (1, xI st), (2, xI z3), (3, xI z8), (4, xI z16), (5, xI z37), (6, xI k)] [] M1 := by
        intro d
        induction d using Nat.strongRecOn with
        | ind d ih66 =>
        intro k M1 hd66 hk hps hfk htf
        have hdb := drw_b ((its z3 z8 z16 k.toNat V) 0 12)
        have hic := its_c z3 z8 z16 V k.toNat
        have hp4 := hps.2.2.1
        have hp3 := hps.2.1
        have hvk : VOK (its z3 z8 z16 k.toNat V) := (by rcases Decidable.em (k = 0) with g | g; (rw [g]; exact hv); exact its_ok hv (by omega) (by omega) (by omega) _ (by omega))
        refine x_iload G 6 rfl dX4_readItems_66 ?_
        refine x_iload G 5 rfl dX4_readItems_68 ?_
        refine x_icmp_ge G 106 (by decide) dX4_readItems_70 (fun c70 => ?_) (fun c70 => ?_)
        · skip
          exact x_vret G Rt dX4_readItems_106 ⟨rfl, rfl, rfl, (by
          have e9 : (pItm bt st a V).1 = f37 ∧ (f37 = -1 → a37 = (pItm bt st a V).2.1 ∧ (its z3 z8 z16 k.toNat V) = (pItm bt st a V).2.2) := by
            unfold pItm
            rcases hq3 with ⟨k1, k2, k3, k4, k5, k6⟩ | ⟨k1, k2, k3⟩
            · rw [bnd_ok k3, ← k4, ← k5]
              rcases hq8 with ⟨k1, k2, k3, k4, k5, k6⟩ | ⟨k1, k2, k3⟩
              · rw [bnd_ok k3, ← k4, ← k5]
                rcases hq16 with ⟨k1, k2, k3, k4, k5, k6⟩ | ⟨k1, k2, k3⟩
                · rw [bnd_ok k3, ← k4, ← k5]
                  rw [if_pos (show tkw bt (skp bt a16) wTimes by rcases ha27 with g | g; exact g.2.2.1; exfalso; omega)]
                  rw [show skp bt a16 + 5 = a27 by omega]
                  rcases hq37 with ⟨k1, k2, k3, k4, k5, k6⟩ | ⟨k1, k2, k3⟩
                  · rw [bnd_ok k3, ← k4, ← k5]
                    rw [if_neg (by omega)]
                    exact ⟨by show -1 = _; omega, fun g => ⟨rfl, by rw [show k = z37 by omega]⟩⟩
                  · rw [bnd_no (show ¬ (pnum bt a27 1 50).1 = -1 by omega)]
                    exact ⟨by show (pnum bt a27 1 50).1 = _; omega, fun g => by omega⟩
                · rw [bnd_no (show ¬ (pnum bt a8 1 20).1 = -1 by omega)]
                  exact ⟨by show (pnum bt a8 1 20).1 = _; omega, fun g => by omega⟩
              · rw [bnd_no (show ¬ (plab bt a3).1 = -1 by omega)]
                exact ⟨by show (plab bt a3).1 = _; omega, fun g => by omega⟩
            · rw [bnd_no (show ¬ (pnum bt a 0 3).1 = -1 by omega)]
              exact ⟨by show (pnum bt a 0 3).1 = _; omega, fun g => by omega⟩
          exact pres_mk e9.1 hps e9.2 hvk htf)⟩
        · skip
          refine x_aload_n G 0 rfl rfl dX4_readItems_73 ?_
          refine x_get G (xI (M1 146 4)) xf4_4 lk_X4_32 (ly_n hY 146 (by decide)) (ly_k hY 146 (by decide)) (Or.inl ⟨rfl, rfl⟩) dX4_readItems_74 ?_
          refine x_iconst G (by decide) dX4_readItems_77 ?_
          refine x_icmp_ne G 106 (by decide) dX4_readItems_78 (fun c78 => ?_) (fun c78 => ?_)
          · skip
            exact x_vret G Rt dX4_readItems_106 ⟨rfl, rfl, rfl, (by
          have e9 : (pItm bt st a V).1 = f37 ∧ (f37 = -1 → a37 = (pItm bt st a V).2.1 ∧ (its z3 z8 z16 k.toNat V) = (pItm bt st a V).2.2) := by
            unfold pItm
            rcases hq3 with ⟨k1, k2, k3, k4, k5, k6⟩ | ⟨k1, k2, k3⟩
            · rw [bnd_ok k3, ← k4, ← k5]
              rcases hq8 with ⟨k1, k2, k3, k4, k5, k6⟩ | ⟨k1, k2, k3⟩
              · rw [bnd_ok k3, ← k4, ← k5]
                rcases hq16 with ⟨k1, k2, k3, k4, k5, k6⟩ | ⟨k1, k2, k3⟩
                · rw [bnd_ok k3, ← k4, ← k5]
                  rw [if_pos (show tkw bt (skp bt a16) wTimes by rcases ha27 with g | g; exact g.2.2.1; exfalso; omega)]
                  rw [show skp bt a16 + 5 = a27 by omega]
                  rcases hq37 with ⟨k1, k2, k3, k4, k5, k6⟩ | ⟨k1, k2, k3⟩
                  · rw [bnd_ok k3, ← k4, ← k5]
                    rw [if_neg (by omega)]
                    exact ⟨by show -1 = _; omega, fun g => ⟨rfl, by rw [show k = z37 by omega]⟩⟩
                  · rw [bnd_no (show ¬ (pnum bt a27 1 50).1 = -1 by omega)]
                    exact ⟨by show (pnum bt a27 1 50).1 = _; omega, fun g => by omega⟩
                · rw [bnd_no (show ¬ (pnum bt a8 1 20).1 = -1 by omega)]
                  exact ⟨by show (pnum bt a8 1 20).1 = _; omega, fun g => by omega⟩
              · rw [bnd_no (show ¬ (plab bt a3).1 = -1 by omega)]
                exact ⟨by show (plab bt a3).1 = _; omega, fun g => by omega⟩
            · rw [bnd_no (show ¬ (pnum bt a 0 3).1 = -1 by omega)]
              exact ⟨by show (pnum bt a 0 3).1 = _; omega, fun g => by omega⟩
          exact pres_mk e9.1 hps e9.2 hvk htf)⟩
          · skip
            refine x_aload_n G 0 rfl rfl dX4_readItems_81 ?_
            refine x_get G (xR 148) xf4_1 lk_X4_18 (ly_n hY 146 (by decide)) (ly_k hY 146 (by decide)) (Or.inr ⟨rfl, _, (ly_r hY 146 1 (by decide) (by decide)), rfl⟩) dX4_readItems_82 ?_
            refine x_iload_n G 2 rfl rfl dX4_readItems_85 ?_
            refine x_iload_n G 3 rfl rfl dX4_readItems_86 ?_
            refine x_iload G 4 rfl dX4_readItems_87 ?_
            refine x_aload_n G 0 rfl rfl dX4_readItems_89 ?_
            refine x_get G (xR 148) xf4_1 lk_X4_18 (ly_n hY 146 (by decide)) (ly_k hY 146 (by decide)) (Or.inr ⟨rfl, _, (ly_r hY 146 1 (by decide) (by decide)), rfl⟩) dX4_readItems_90 ?_
            refine x_callVI G [xI z16, xI z8, xI z3, xR 148] [] rfl (by decide) (st_n (ly_st148 hY) 0 (by decide)) (st_k (ly_st148 hY) 0 (by decide)) hy_X3_drawLot hi_X3_drawLot hs_X3_drawLot ml_X4_106 rfl rfl (kX3_drawLot _ _ 148 (its z3 z8 z16 k.toNat V) (ly_st148 hY) hps.2.2.2.2 hvk) (by decide) (by decide) (Nat.le_of_ble_eq_true rfl) dX4_readItems_93 (fun z93 M93 h93 => ?_)
            rw [h93.1]
            obtain ⟨hz93, rfl⟩ := h93
            have hvs : VOK (xst (its z3 z8 z16 k.toNat V) 0 12 (drw ((its z3 z8 z16 k.toNat V) 0 12))) := ok_seed hvk (by omega)
            have hsd0 : (xst (its z3 z8 z16 k.toNat V) 0 12 (drw ((its z3 z8 z16 k.toNat V) 0 12))) 0 10 = (its z3 z8 z16 k.toNat V) 0 10 := rfl
            refine x_callVI G [] [xI z3, xI z8, xI z16, xI (drw ((its z3 z8 z16 k.toNat V) 0 12) / 64)] rfl (by decide) (st_n (ly_st148 hY) 0 (by decide)) (st_k (ly_st148 hY) 0 (by decide)) hy_X3_add hi_X3_add hs_X3_add ml_X4_109 rfl rfl (kX3_add _ _ 148 (xst (its z3 z8 z16 k.toNat V) 0 12 (drw ((its z3 z8 z16 k.toNat V) 0 12))) z3 z8 z16 (drw ((its z3 z8 z16 k.toNat V) 0 12) / 64) (ly_st148 hY) (shw_xst hps.2.2.2.2 (k := 0) (by decide)) hvs (by omega)) (by decide) (by decide) (Nat.le_of_ble_eq_true rfl) dX4_readItems_96 (fun z96 M96 h96 => ?_)
            rw [h96.1]
            refine x_pop G rfl dX4_readItems_99 ?_
            refine x_iinc G [(6, xI (k + 1)), (0, xR 146), (1, xI st), (2, xI z3), (3, xI z8), (4, xI z16), (5, xI z37)] 6 rfl (by decide) (by omega) rfl dX4_readItems_100 ?_
            refine x_goto G 66 (by decide) dX4_readItems_103 ?_
            refine x_sub [(0, xR 146), (1, xI st), (2, xI z3), (3, xI z8), (4, xI z16), (5, xI z37), (6, xI (k + 1))] [1, 2, 3, 4, 5, 6, 0] rfl ?_
            exact ih66 _ (by omega) (k + 1) M96 rfl (by omega) ((by rw [show (k + 1).toNat = k.toNat + 1 by omega]; exact (ps_mk ((h96.2.2 146 (by omega)).trans ((xst_row (by omega)).trans (row_tp hps.2.1 hps.2.2.1))) (((h96.2.2 147 (by omega)).trans ((xst_row (by omega)).trans rfl))) hps.1 (by omega) h96.2.1))) (by omega) ((tfr_trans (tfr_st htf (by omega)) (fun q9 g9 => h96.2.2 q9 (by omega))))
      refine x_sub [(0, xR 146), (1, xI st), (2, xI z3), (3, xI z8), (4, xI z16), (5, xI z37), (6, xI 0)] [5, 6, 4, 3, 2, 1, 0] rfl ?_
      exact loop66 _ 0 (xst (xst M 146 3 a37) 146 4 f37) rfl (by omega) ((ps_mk rfl (rfl.trans (tp_row (by decide))) hM (by omega) (shw_st (shw_st hV (by omega)) (by omega)))) (by omega) ((tfr_st (tfr_st (tfr_refl _) (by omega)) (by omega)))
    · skip
      refine x_aload_n G 4 rfl rfl dX4_readItems_57 ?_
      refine x_iload_n G 5 rfl rfl dX4_readItems_58 ?_
      refine x_iconst G (by decide) dX4_readItems_59 ?_
      refine x_callVV G [] [xI st, xI 3] rfl (by decide) (ly_n hY 146 (by decide)) (ly_k hY 146 (by decide)) hy_X4_meet hi_X4_meet hs_X4_meet ml_X4_41 rfl rfl (kX4_meet _ _ bt len a37 f37 st 3 hY hT (tm_tp hM) (tp_3 _ _ _) (tp_4 _ _ _) (by omega) (by omega) (by omega)) (by decide) (by decide) (Nat.le_of_ble_eq_true rfl) dX4_readItems_60 (fun M60 h60 => ?_)
      subst h60
      rw [tp_tp]
      obtain ⟨f60, hf60⟩ : ∃ p9 : Int, p9 = (if f37 = -1 then 8 * st + 3 else f37) := ⟨_, rfl⟩
      rw [← hf60]
      have hg60 : (f37 = -1 ∧ f60 = 8 * st + 3) ∨ (¬ f37 = -1 ∧ f60 = f37) := by (split at hf60 <;> omega)
      show xX Γ 0 0 n T 63 [(5, xI z37), (4, xI z16), (3, xI z8), (2, xI z3), (0, xR 146), (1, xI st)] [] (xst (xst M 146 3 a37) 146 4 f60)
      skip
      refine x_iconst G (by decide) dX4_readItems_63 ?_
      refine x_istore G [(6, xI 0), (5, xI z37), (4, xI z16), (3, xI z8), (2, xI z3), (0, xR 146), (1, xI st)] (by decide) rfl dX4_readItems_64 ?_
      have loop66 : ∀ (d : Nat) (k : Int) (M1 : xM), (z37 - k).toNat = d → (0 ≤ k ∧ k ≤ z37) → (PSt M1 bt len a37 f60 (its z3 z8 z16 k.toNat V)) → (¬ f60 = -1 → k = 0) → (tfr M M1) → xX Γ 0 0 n T 66 [(0, xR 146), (1, xI st), (2, xI z3), (3, xI z8), (4, xI z16), (5, xI z37), (6, xI k)] [] M1 := by
        intro d
        induction d using Nat.strongRecOn with
        | ind d ih66 =>
        intro k M1 hd66 hk hps hfk htf
        have hdb := drw_b ((its z3 z8 z16 k.toNat V) 0 12)
        have hic := its_c z3 z8 z16 V k.toNat
        have hp4 := hps.2.2.1
        have hp3 := hps.2.1
        have hvk : VOK (its z3 z8 z16 k.toNat V) := (by rcases Decidable.em (k = 0) with g | g; (rw [g]; exact hv); exact its_ok hv (by omega) (by omega) (by omega) _ (by omega))
        refine x_iload G 6 rfl dX4_readItems_66 ?_
        refine x_iload G 5 rfl dX4_readItems_68 ?_
        refine x_icmp_ge G 106 (by decide) dX4_readItems_70 (fun c70 => ?_) (fun c70 => ?_)
        · skip
          exact x_vret G Rt dX4_readItems_106 ⟨rfl, rfl, rfl, (by
          have e9 : (pItm bt st a V).1 = f60 ∧ (f60 = -1 → a37 = (pItm bt st a V).2.1 ∧ (its z3 z8 z16 k.toNat V) = (pItm bt st a V).2.2) := by
            unfold pItm
            rcases hq3 with ⟨k1, k2, k3, k4, k5, k6⟩ | ⟨k1, k2, k3⟩
            · rw [bnd_ok k3, ← k4, ← k5]
              rcases hq8 with ⟨k1, k2, k3, k4, k5, k6⟩ | ⟨k1, k2, k3⟩
              · rw [bnd_ok k3, ← k4, ← k5]
                rcases hq16 with ⟨k1, k2, k3, k4, k5, k6⟩ | ⟨k1, k2, k3⟩
                · rw [bnd_ok k3, ← k4, ← k5]
                  rw [if_pos (show tkw bt (skp bt a16) wTimes by rcases ha27 with g | g; exact g.2.2.1; exfalso; omega)]
                  rw [show skp bt a16 + 5 = a27 by omega]
                  rcases hq37 with ⟨k1, k2, k3, k4, k5, k6⟩ | ⟨k1, k2, k3⟩
                  · rw [bnd_ok k3, ← k4, ← k5]
                    rw [if_pos (by omega)]
                    exact ⟨by show 8 * st + 3 = _; omega, fun g => by omega⟩
                  · rw [bnd_no (show ¬ (pnum bt a27 1 50).1 = -1 by omega)]
                    exact ⟨by show (pnum bt a27 1 50).1 = _; omega, fun g => by omega⟩
                · rw [bnd_no (show ¬ (pnum bt a8 1 20).1 = -1 by omega)]
                  exact ⟨by show (pnum bt a8 1 20).1 = _; omega, fun g => by omega⟩
              · rw [bnd_no (show ¬ (plab bt a3).1 = -1 by omega)]
                exact ⟨by show (plab bt a3).1 = _; omega, fun g => by omega⟩
            · rw [bnd_no (show ¬ (pnum bt a 0 3).1 = -1 by omega)]
              exact ⟨by show (pnum bt a 0 3).1 = _; omega, fun g => by omega⟩
          exact pres_mk e9.1 hps e9.2 hvk htf)⟩
        · skip
          refine x_aload_n G 0 rfl rfl dX4_readItems_73 ?_
          refine x_get G (xI (M1 146 4)) xf4_4 lk_X4_32 (ly_n hY 146 (by decide)) (ly_k hY 146 (by decide)) (Or.inl ⟨rfl, rfl⟩) dX4_readItems_74 ?_
          refine x_iconst G (by decide) dX4_readItems_77 ?_
          refine x_icmp_ne G 106 (by decide) dX4_readItems_78 (fun c78 => ?_) (fun c78 => ?_)
          · skip
            exact x_vret G Rt dX4_readItems_106 ⟨rfl, rfl, rfl, (by
          have e9 : (pItm bt st a V).1 = f60 ∧ (f60 = -1 → a37 = (pItm bt st a V).2.1 ∧ (its z3 z8 z16 k.toNat V) = (pItm bt st a V).2.2) := by
            unfold pItm
            rcases hq3 with ⟨k1, k2, k3, k4, k5, k6⟩ | ⟨k1, k2, k3⟩
            · rw [bnd_ok k3, ← k4, ← k5]
              rcases hq8 with ⟨k1, k2, k3, k4, k5, k6⟩ | ⟨k1, k2, k3⟩
              · rw [bnd_ok k3, ← k4, ← k5]
                rcases hq16 with ⟨k1, k2, k3, k4, k5, k6⟩ | ⟨k1, k2, k3⟩
                · rw [bnd_ok k3, ← k4, ← k5]
                  rw [if_pos (show tkw bt (skp bt a16) wTimes by rcases ha27 with g | g; exact g.2.2.1; exfalso; omega)]
                  rw [show skp bt a16 + 5 = a27 by omega]
                  rcases hq37 with ⟨k1, k2, k3, k4, k5, k6⟩ | ⟨k1, k2, k3⟩
                  · rw [bnd_ok k3, ← k4, ← k5]
                    rw [if_pos (by omega)]
                    exact ⟨by show 8 * st + 3 = _; omega, fun g => by omega⟩
                  · rw [bnd_no (show ¬ (pnum bt a27 1 50).1 = -1 by omega)]
                    exact ⟨by show (pnum bt a27 1 50).1 = _; omega, fun g => by omega⟩
                · rw [bnd_no (show ¬ (pnum bt a8 1 20).1 = -1 by omega)]
                  exact ⟨by show (pnum bt a8 1 20).1 = _; omega, fun g => by omega⟩
              · rw [bnd_no (show ¬ (plab bt a3).1 = -1 by omega)]
                exact ⟨by show (plab bt a3).1 = _; omega, fun g => by omega⟩
            · rw [bnd_no (show ¬ (pnum bt a 0 3).1 = -1 by omega)]
              exact ⟨by show (pnum bt a 0 3).1 = _; omega, fun g => by omega⟩
          exact pres_mk e9.1 hps e9.2 hvk htf)⟩
          · skip
            refine x_aload_n G 0 rfl rfl dX4_readItems_81 ?_
            refine x_get G (xR 148) xf4_1 lk_X4_18 (ly_n hY 146 (by decide)) (ly_k hY 146 (by decide)) (Or.inr ⟨rfl, _, (ly_r hY 146 1 (by decide) (by decide)), rfl⟩) dX4_readItems_82 ?_
            refine x_iload_n G 2 rfl rfl dX4_readItems_85 ?_
            refine x_iload_n G 3 rfl rfl dX4_readItems_86 ?_
            refine x_iload G 4 rfl dX4_readItems_87 ?_
            refine x_aload_n G 0 rfl rfl dX4_readItems_89 ?_
            refine x_get G (xR 148) xf4_1 lk_X4_18 (ly_n hY 146 (by decide)) (ly_k hY 146 (by decide)) (Or.inr ⟨rfl, _, (ly_r hY 146 1 (by decide) (by decide)), rfl⟩) dX4_readItems_90 ?_
            refine x_callVI G [xI z16, xI z8, xI z3, xR 148] [] rfl (by decide) (st_n (ly_st148 hY) 0 (by decide)) (st_k (ly_st148 hY) 0 (by decide)) hy_X3_drawLot hi_X3_drawLot hs_X3_drawLot ml_X4_106 rfl rfl (kX3_drawLot _ _ 148 (its z3 z8 z16 k.toNat V) (ly_st148 hY) hps.2.2.2.2 hvk) (by decide) (by decide) (Nat.le_of_ble_eq_true rfl) dX4_readItems_93 (fun z93 M93 h93 => ?_)
            rw [h93.1]
            obtain ⟨hz93, rfl⟩ := h93
            have hvs : VOK (xst (its z3 z8 z16 k.toNat V) 0 12 (drw ((its z3 z8 z16 k.toNat V) 0 12))) := ok_seed hvk (by omega)
            have hsd0 : (xst (its z3 z8 z16 k.toNat V) 0 12 (drw ((its z3 z8 z16 k.toNat V) 0 12))) 0 10 = (its z3 z8 z16 k.toNat V) 0 10 := rfl
            refine x_callVI G [] [xI z3, xI z8, xI z16, xI (drw ((its z3 z8 z16 k.toNat V) 0 12) / 64)] rfl (by decide) (st_n (ly_st148 hY) 0 (by decide)) (st_k (ly_st148 hY) 0 (by decide)) hy_X3_add hi_X3_add hs_X3_add ml_X4_109 rfl rfl (kX3_add _ _ 148 (xst (its z3 z8 z16 k.toNat V) 0 12 (drw ((its z3 z8 z16 k.toNat V) 0 12))) z3 z8 z16 (drw ((its z3 z8 z16 k.toNat V) 0 12) / 64) (ly_st148 hY) (shw_xst hps.2.2.2.2 (k := 0) (by decide)) hvs (by omega)) (by decide) (by decide) (Nat.le_of_ble_eq_true rfl) dX4_readItems_96 (fun z96 M96 h96 => ?_)
            rw [h96.1]
            refine x_pop G rfl dX4_readItems_99 ?_
            refine x_iinc G [(6, xI (k + 1)), (0, xR 146), (1, xI st), (2, xI z3), (3, xI z8), (4, xI z16), (5, xI z37)] 6 rfl (by decide) (by omega) rfl dX4_readItems_100 ?_
            refine x_goto G 66 (by decide) dX4_readItems_103 ?_
            refine x_sub [(0, xR 146), (1, xI st), (2, xI z3), (3, xI z8), (4, xI z16), (5, xI z37), (6, xI (k + 1))] [1, 2, 3, 4, 5, 6, 0] rfl ?_
            exact ih66 _ (by omega) (k + 1) M96 rfl (by omega) ((by rw [show (k + 1).toNat = k.toNat + 1 by omega]; exact (ps_mk ((h96.2.2 146 (by omega)).trans ((xst_row (by omega)).trans (row_tp hps.2.1 hps.2.2.1))) (((h96.2.2 147 (by omega)).trans ((xst_row (by omega)).trans rfl))) hps.1 (by omega) h96.2.1))) (by omega) ((tfr_trans (tfr_st htf (by omega)) (fun q9 g9 => h96.2.2 q9 (by omega))))
      refine x_sub [(0, xR 146), (1, xI st), (2, xI z3), (3, xI z8), (4, xI z16), (5, xI z37), (6, xI 0)] [5, 6, 4, 3, 2, 1, 0] rfl ?_
      exact loop66 _ 0 (xst (xst M 146 3 a37) 146 4 f60) rfl (by omega) ((ps_mk rfl (rfl.trans (tp_row (by decide))) hM (by omega) (shw_st (shw_st hV (by omega)) (by omega)))) (by omega) ((tfr_st (tfr_st (tfr_refl _) (by omega)) (by omega)))
