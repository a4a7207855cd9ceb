abbrev tq4 (M M2 : xM) : Prop := (∀ q, q ≠ 195 → q ≠ 196 → M2 q = M q) ∧ ∀ j, j ≠ 10 → j ≠ 19 → j ≠ 20 → j ≠ 21 → M2 195 j = M 195 j
theorem tq4_3 {M M2 : xM} (h : tq3 M M2) : tq4 M M2 := ⟨fun q g _ => h.1 q g, fun j _ g1 g2 g3 => h.2 j g1 g2 g3⟩
theorem tq4_tr {M M1 M2 : xM} (h : tq4 M M1) (h2 : tq4 M1 M2) : tq4 M M2 := ⟨fun q g g2 => (h2.1 q g g2).trans (h.1 q g g2), fun j g1 g2 g3 g4 => (h2.2 j g1 g2 g3 g4).trans (h.2 j g1 g2 g3 g4)⟩
theorem tq4_st {M M1 : xM} {k j : Nat} {z : Int} (h : tq4 M M1) (hk : k = 196 ∨ (k = 195 ∧ (j = 10 ∨ j = 19 ∨ j = 20 ∨ j = 21))) : tq4 M (xst M1 k j z) := ⟨fun q g g2 => (xst_row (by omega)).trans (h.1 q g g2), fun i g1 g2 g3 g4 => (xst_nq (by omega)).trans (h.2 i g1 g2 g3 g4)⟩
theorem tq4_cn {M M1 M2 : xM} (h : tq4 M M1) (h2 : (∀ q, q ≠ 195 → q ≠ 196 → M2 q = M1 q) ∧ ∀ j, j ≠ 10 → M2 195 j = M1 195 j) : tq4 M M2 := ⟨fun q g g2 => (h2.1 q g g2).trans (h.1 q g g2), fun j g1 g2 g3 g4 => (h2.2 j g1).trans (h.2 j g1 g2 g3 g4)⟩
theorem tmm_4 {M M2 : xM} {bt : Int → Int} {len : Int} (h : TMm M bt len) (h2 : tq4 M M2) : TMm M2 bt len := tmm_cg h (h2.2 18 (by decide) (by decide) (by decide) (by decide)) (h2.1 207 (by decide) (by decide))
set_option maxRecDepth 100000 in
set_option maxHeartbeats 4000000 in
theorem kX7_readsSize (D : xD) (l : Launch) {n : Nat} {T : xT} {M : xM} (bt : Int → Int) (len : Int) (a : Int) (V : xM) (hY : LayOK n T) (hT : TB bt len) (hM : TMm M bt len) (ha : M 195 19 = a) (hal : 0 ≤ a ∧ a ≤ len) (hN : mrel (M 196) V) (hv : VOK V) : xC D l uX7_readsSize 3 64 0 0 [xR 195] n T M (xPI n T (fun z M2 => (((pSize bt a V).1 = -1 ∧ z = 1 ∧ M2 195 19 = (pSize bt a V).2.1 ∧ mrel (M2 196) (pSize bt a V).2.2 ∧ VOK (pSize bt a V).2.2) ∨ (¬ (pSize bt a V).1 = -1 ∧ z = 0 ∧ M2 195 20 = (pSize bt a V).1)) ∧ tq4 M M2)) := by
  refine x_met uX7_readsSize (by decide) (Nat.le_of_ble_eq_true rfl) ?_
  intro Γ G Rt _
  have G : xG Γ RX7 cX7_readsSize 2 3 64 0 0 := G
  have Rt : xRt Γ (xPI n T (fun z M2 => (((pSize bt a V).1 = -1 ∧ z = 1 ∧ M2 195 19 = (pSize bt a V).2.1 ∧ mrel (M2 196) (pSize bt a V).2.2 ∧ VOK (pSize bt a V).2.2) ∨ (¬ (pSize bt a V).1 = -1 ∧ z = 0 ∧ M2 195 20 = (pSize bt a V).1)) ∧ tq4 M M2)) (some .boolean) 0 0 := Rt
  show xX Γ 0 0 n T 0 [(0, xR 195)] [] M
  have hlb := hT.1
  have hMl := hM.1
  have hsc := hv.1
  refine x_aload_n G 0 rfl rfl dX7_readsSize_0 ?_
  refine x_iconst G (by decide) dX7_readsSize_1 ?_
  refine x_iconst G (by decide) dX7_readsSize_2 ?_
  refine x_callVI G [] [xI 0, xI 3] rfl (by decide) (ly_n hY 195 (by decide)) (ly_k hY 195 (by decide)) hy_X7_readsNumber hi_X7_readsNumber hs_X7_readsNumber ml_X7_314 rfl rfl (kX7_readsNumber _ _ bt len a 0 3 hY hT hM ha (by omega) (by decide) (by decide)) (by decide) (by decide) (Nat.le_of_ble_eq_true rfl) dX7_readsSize_3 (fun z3 M3 h3 => ?_)
  have hpb3 := pnum_b (lo := 0) (hi := 3) hT (show 0 ≤ a by omega) (show a ≤ len by omega)
  refine x_if_ne G 11 (by decide) dX7_readsSize_6 (fun c6 => ?_) (fun c6 => ?_)
  · skip
    have hr3 := h3.1.resolve_right (fun g => c6 g.2.1)
    have hrb3 := hpb3.resolve_right (fun g => by have g1 := hr3.1; omega)
    refine x_aload_n G 0 rfl rfl dX7_readsSize_11 ?_
    refine x_get G (xI (M3 195 21)) xf7_21 lk_X7_311 (ly_n hY 195 (by decide)) (ly_k hY 195 (by decide)) (Or.inl ⟨rfl, rfl⟩) dX7_readsSize_12 ?_
    rw [show M3 195 21 = (pnum bt a 0 3).2.1 from hr3.2.2.1]
    refine x_istore_n G [(1, xI ((pnum bt a 0 3).2.1)), (0, xR 195)] rfl (by decide) rfl dX7_readsSize_15 ?_
    refine x_aload_n G 1 rfl rfl dX7_readsSize_16 ?_
    refine x_iconst G (by decide) dX7_readsSize_17 ?_
    refine x_bipush G (by decide) dX7_readsSize_18 ?_
    refine x_callVI G [] [xI 1, xI 12] rfl (by decide) (ly_n hY 195 (by decide)) (ly_k hY 195 (by decide)) hy_X7_readsNumber hi_X7_readsNumber hs_X7_readsNumber ml_X7_314 rfl rfl (kX7_readsNumber _ _ bt len ((pnum bt a 0 3).2.2) 1 12 hY hT (tmm_3 hM h3.2) hr3.2.2.2 (by omega) (by decide) (by decide)) (by decide) (by decide) (Nat.le_of_ble_eq_true rfl) dX7_readsSize_20 (fun z20 M20 h20 => ?_)
    have hpb20 := pnum_b (lo := 1) (hi := 12) hT (show 0 ≤ (pnum bt a 0 3).2.2 by omega) (show (pnum bt a 0 3).2.2 ≤ len by omega)
    refine x_if_ne G 28 (by decide) dX7_readsSize_23 (fun c23 => ?_) (fun c23 => ?_)
    · skip
      have hr20 := h20.1.resolve_right (fun g => c23 g.2.1)
      have hrb20 := hpb20.resolve_right (fun g => by have g1 := hr20.1; omega)
      refine x_aload_n G 1 rfl rfl dX7_readsSize_28 ?_
      refine x_get G (xR 196) xf7_0 lk_X7_7 (ly_n hY 195 (by decide)) (ly_k hY 195 (by decide)) (Or.inr ⟨rfl, _, (ly_r hY 195 0 (by decide) (by decide)), rfl⟩) dX7_readsSize_29 ?_
      refine x_iconst G (by decide) dX7_readsSize_32 ?_
      refine x_iload_n G 0 rfl rfl dX7_readsSize_33 ?_
      refine x_iadd G (by omega) dX7_readsSize_34 ?_
      refine x_aload_n G 1 rfl rfl dX7_readsSize_35 ?_
      refine x_get G (xI (M20 195 21)) xf7_21 lk_X7_311 (ly_n hY 195 (by decide)) (ly_k hY 195 (by decide)) (Or.inl ⟨rfl, rfl⟩) dX7_readsSize_36 ?_
      rw [show M20 195 21 = (pnum bt ((pnum bt a 0 3).2.2) 1 12).2.1 from hr20.2.2.1]
      refine x_iast G (ly_n hY 196 (by decide)) (ly_k hY 196 (by decide)) (show _ = 511 from ly_l hY 196 (by decide)) (by omega) (by omega) dX7_readsSize_39 ?_
      refine x_iconst G (by decide) dX7_readsSize_40 ?_
      exact x_zret G (by omega) Rt dX7_readsSize_41 ⟨rfl, rfl, _, rfl, (by
          have e9 : pSize bt a V = (-1, (pnum bt ((pnum bt a 0 3).2.2) 1 12).2.2, xst V 11 (pnum bt a 0 3).2.1.toNat (pnum bt (pnum bt a 0 3).2.2 1 12).2.1) := (bnd_y hr3.1).trans ((bnd_y hr20.1).trans rfl)
          rw [e9]
          exact ⟨Or.inl ⟨rfl, rfl, ((xst_nq (by omega)).trans hr20.2.2.2), (mr_setS (mr_cg (mr_cg hN (h3.2.1 196 (by omega))) (h20.2.1 196 (by omega))) (by omega) (by omega)), (ok_size hv (by omega))⟩, (tq4_st (tq4_3 (tq3_tr (tq3_tr (tq3_refl _) h3.2) h20.2)) (by omega))⟩)⟩
    · skip
      have hr20 := h20.1.resolve_left (fun g => by have g1 := g.2.1; omega)
      refine x_iconst G (by decide) dX7_readsSize_26 ?_
      exact x_zret G (by omega) Rt dX7_readsSize_27 ⟨rfl, rfl, _, rfl, (by
          have e9 : pSize bt a V = (_, 0, V) := (bnd_y hr3.1).trans (bnd_n hr20.1)
          rw [e9]
          exact ⟨Or.inr ⟨hr20.1, rfl, hr20.2.2⟩, (tq4_3 (tq3_tr (tq3_tr (tq3_refl _) h3.2) h20.2))⟩)⟩
  · skip
    have hr3 := h3.1.resolve_left (fun g => by have g1 := g.2.1; omega)
    refine x_iconst G (by decide) dX7_readsSize_9 ?_
    exact x_zret G (by omega) Rt dX7_readsSize_10 ⟨rfl, rfl, _, rfl, (by
          have e9 : pSize bt a V = (_, 0, V) := bnd_n hr3.1
          rw [e9]
          exact ⟨Or.inr ⟨hr3.1, rfl, hr3.2.2⟩, (tq4_3 (tq3_tr (tq3_refl _) h3.2))⟩)⟩
set_option maxRecDepth 100000 in
set_option maxHeartbeats 4000000 in
theorem kX7_readsWindow (D : xD) (l : Launch) {n : Nat} {T : xT} {M : xM} (bt : Int → Int) (len : Int) (a : Int) (V : xM) (hY : LayOK n T) (hT : TB bt len) (hM : TMm M bt len) (ha : M 195 19 = a) (hal : 0 ≤ a ∧ a ≤ len) (hN : mrel (M 196) V) (hv : VOK V) : xC D l uX7_readsWindow 3 64 0 0 [xR 195] n T M (xPI n T (fun z M2 => (((pWind bt a V).1 = -1 ∧ z = 1 ∧ M2 195 19 = (pWind bt a V).2.1 ∧ mrel (M2 196) (pWind bt a V).2.2 ∧ VOK (pWind bt a V).2.2) ∨ (¬ (pWind bt a V).1 = -1 ∧ z = 0 ∧ M2 195 20 = (pWind bt a V).1)) ∧ tq4 M M2)) := by
  refine x_met uX7_readsWindow (by decide) (Nat.le_of_ble_eq_true rfl) ?_
  intro Γ G Rt _
  have G : xG Γ RX7 cX7_readsWindow 2 3 64 0 0 := G
  have Rt : xRt Γ (xPI n T (fun z M2 => (((pWind bt a V).1 = -1 ∧ z = 1 ∧ M2 195 19 = (pWind bt a V).2.1 ∧ mrel (M2 196) (pWind bt a V).2.2 ∧ VOK (pWind bt a V).2.2) ∨ (¬ (pWind bt a V).1 = -1 ∧ z = 0 ∧ M2 195 20 = (pWind bt a V).1)) ∧ tq4 M M2)) (some .boolean) 0 0 := Rt
  show xX Γ 0 0 n T 0 [(0, xR 195)] [] M
  have hlb := hT.1
  have hMl := hM.1
  have hsc := hv.1
  refine x_aload_n G 0 rfl rfl dX7_readsWindow_0 ?_
  refine x_iconst G (by decide) dX7_readsWindow_1 ?_
  refine x_iconst G (by decide) dX7_readsWindow_2 ?_
  refine x_callVI G [] [xI 0, xI 3] rfl (by decide) (ly_n hY 195 (by decide)) (ly_k hY 195 (by decide)) hy_X7_readsNumber hi_X7_readsNumber hs_X7_readsNumber ml_X7_314 rfl rfl (kX7_readsNumber _ _ bt len a 0 3 hY hT hM ha (by omega) (by decide) (by decide)) (by decide) (by decide) (Nat.le_of_ble_eq_true rfl) dX7_readsWindow_3 (fun z3 M3 h3 => ?_)
  have hpb3 := pnum_b (lo := 0) (hi := 3) hT (show 0 ≤ a by omega) (show a ≤ len by omega)
  refine x_if_ne G 11 (by decide) dX7_readsWindow_6 (fun c6 => ?_) (fun c6 => ?_)
  · skip
    have hr3 := h3.1.resolve_right (fun g => c6 g.2.1)
    have hrb3 := hpb3.resolve_right (fun g => by have g1 := hr3.1; omega)
    refine x_aload_n G 0 rfl rfl dX7_readsWindow_11 ?_
    refine x_get G (xI (M3 195 21)) xf7_21 lk_X7_311 (ly_n hY 195 (by decide)) (ly_k hY 195 (by decide)) (Or.inl ⟨rfl, rfl⟩) dX7_readsWindow_12 ?_
    rw [show M3 195 21 = (pnum bt a 0 3).2.1 from hr3.2.2.1]
    refine x_istore_n G [(1, xI ((pnum bt a 0 3).2.1)), (0, xR 195)] rfl (by decide) rfl dX7_readsWindow_15 ?_
    refine x_aload_n G 1 rfl rfl dX7_readsWindow_16 ?_
    refine x_iconst G (by decide) dX7_readsWindow_17 ?_
    refine x_sipush G (by decide) dX7_readsWindow_18 ?_
    refine x_callVI G [] [xI 0, xI 9999] rfl (by decide) (ly_n hY 195 (by decide)) (ly_k hY 195 (by decide)) hy_X7_readsNumber hi_X7_readsNumber hs_X7_readsNumber ml_X7_314 rfl rfl (kX7_readsNumber _ _ bt len ((pnum bt a 0 3).2.2) 0 9999 hY hT (tmm_3 hM h3.2) hr3.2.2.2 (by omega) (by decide) (by decide)) (by decide) (by decide) (Nat.le_of_ble_eq_true rfl) dX7_readsWindow_21 (fun z21 M21 h21 => ?_)
    have hpb21 := pnum_b (lo := 0) (hi := 9999) hT (show 0 ≤ (pnum bt a 0 3).2.2 by omega) (show (pnum bt a 0 3).2.2 ≤ len by omega)
    refine x_if_ne G 29 (by decide) dX7_readsWindow_24 (fun c24 => ?_) (fun c24 => ?_)
    · skip
      have hr21 := h21.1.resolve_right (fun g => c24 g.2.1)
      have hrb21 := hpb21.resolve_right (fun g => by have g1 := hr21.1; omega)
      refine x_aload_n G 1 rfl rfl dX7_readsWindow_29 ?_
      refine x_get G (xR 196) xf7_0 lk_X7_7 (ly_n hY 195 (by decide)) (ly_k hY 195 (by decide)) (Or.inr ⟨rfl, _, (ly_r hY 195 0 (by decide) (by decide)), rfl⟩) dX7_readsWindow_30 ?_
      refine x_bipush G (by decide) dX7_readsWindow_33 ?_
      refine x_iload_n G 0 rfl rfl dX7_readsWindow_35 ?_
      refine x_iadd G (by omega) dX7_readsWindow_36 ?_
      refine x_aload_n G 1 rfl rfl dX7_readsWindow_37 ?_
      refine x_get G (xI (M21 195 21)) xf7_21 lk_X7_311 (ly_n hY 195 (by decide)) (ly_k hY 195 (by decide)) (Or.inl ⟨rfl, rfl⟩) dX7_readsWindow_38 ?_
      rw [show M21 195 21 = (pnum bt ((pnum bt a 0 3).2.2) 0 9999).2.1 from hr21.2.2.1]
      refine x_iast G (ly_n hY 196 (by decide)) (ly_k hY 196 (by decide)) (show _ = 511 from ly_l hY 196 (by decide)) (by omega) (by omega) dX7_readsWindow_41 ?_
      refine x_iconst G (by decide) dX7_readsWindow_42 ?_
      exact x_zret G (by omega) Rt dX7_readsWindow_43 ⟨rfl, rfl, _, rfl, (by
          have e9 : pWind bt a V = (-1, (pnum bt ((pnum bt a 0 3).2.2) 0 9999).2.2, xst V 12 (pnum bt a 0 3).2.1.toNat (pnum bt (pnum bt a 0 3).2.2 0 9999).2.1) := (bnd_y hr3.1).trans ((bnd_y hr21.1).trans rfl)
          rw [e9]
          exact ⟨Or.inl ⟨rfl, rfl, ((xst_nq (by omega)).trans hr21.2.2.2), (mr_setW (mr_cg (mr_cg hN (h3.2.1 196 (by omega))) (h21.2.1 196 (by omega))) (by omega) (by omega)), (ok_wind hv (by omega))⟩, (tq4_st (tq4_3 (tq3_tr (tq3_tr (tq3_refl _) h3.2) h21.2)) (by omega))⟩)⟩
    · skip
      have hr21 := h21.1.resolve_left (fun g => by have g1 := g.2.1; omega)
      refine x_iconst G (by decide) dX7_readsWindow_27 ?_
      exact x_zret G (by omega) Rt dX7_readsWindow_28 ⟨rfl, rfl, _, rfl, (by
          have e9 : pWind bt a V = (_, 0, V) := (bnd_y hr3.1).trans (bnd_n hr21.1)
          rw [e9]
          exact ⟨Or.inr ⟨hr21.1, rfl, hr21.2.2⟩, (tq4_3 (tq3_tr (tq3_tr (tq3_refl _) h3.2) h21.2))⟩)⟩
  · skip
    have hr3 := h3.1.resolve_left (fun g => by have g1 := g.2.1; omega)
    refine x_iconst G (by decide) dX7_readsWindow_9 ?_
    exact x_zret G (by omega) Rt dX7_readsWindow_10 ⟨rfl, rfl, _, rfl, (by
          have e9 : pWind bt a V = (_, 0, V) := bnd_n hr3.1
          rw [e9]
          exact ⟨Or.inr ⟨hr3.1, rfl, hr3.2.2⟩, (tq4_3 (tq3_tr (tq3_refl _) h3.2))⟩)⟩
set_option maxRecDepth 100000 in
set_option maxHeartbeats 4000000 in
theorem kX7_readsSeed (D : xD) (l : Launch) {n : Nat} {T : xT} {M : xM} (bt : Int → Int) (len : Int) (a : Int) (V : xM) (hY : LayOK n T) (hT : TB bt len) (hM : TMm M bt len) (ha : M 195 19 = a) (hal : 0 ≤ a ∧ a ≤ len) (hN : mrel (M 196) V) (hv : VOK V) : xC D l uX7_readsSeed 3 64 0 0 [xR 195] n T M (xPI n T (fun z M2 => (((pSeed bt a V).1 = -1 ∧ z = 1 ∧ M2 195 19 = (pSeed bt a V).2.1 ∧ mrel (M2 196) (pSeed bt a V).2.2 ∧ VOK (pSeed bt a V).2.2) ∨ (¬ (pSeed bt a V).1 = -1 ∧ z = 0 ∧ M2 195 20 = (pSeed bt a V).1)) ∧ tq4 M M2)) := by
  refine x_met uX7_readsSeed (by decide) (Nat.le_of_ble_eq_true rfl) ?_
  intro Γ G Rt _
  have G : xG Γ RX7 cX7_readsSeed 1 3 64 0 0 := G
  have Rt : xRt Γ (xPI n T (fun z M2 => (((pSeed bt a V).1 = -1 ∧ z = 1 ∧ M2 195 19 = (pSeed bt a V).2.1 ∧ mrel (M2 196) (pSeed bt a V).2.2 ∧ VOK (pSeed bt a V).2.2) ∨ (¬ (pSeed bt a V).1 = -1 ∧ z = 0 ∧ M2 195 20 = (pSeed bt a V).1)) ∧ tq4 M M2)) (some .boolean) 0 0 := Rt
  show xX Γ 0 0 n T 0 [(0, xR 195)] [] M
  have hlb := hT.1
  have hMl := hM.1
  have hsc := hv.1
  refine x_aload_n G 0 rfl rfl dX7_readsSeed_0 ?_
  refine x_iconst G (by decide) dX7_readsSeed_1 ?_
  refine x_ldcw G (z := 65535) (by decide) kc_X7_317 dX7_readsSeed_2 ?_
  refine x_callVI G [] [xI 0, xI 65535] rfl (by decide) (ly_n hY 195 (by decide)) (ly_k hY 195 (by decide)) hy_X7_readsNumber hi_X7_readsNumber hs_X7_readsNumber ml_X7_314 rfl rfl (kX7_readsNumber _ _ bt len a 0 65535 hY hT hM ha (by omega) (by decide) (by decide)) (by decide) (by decide) (Nat.le_of_ble_eq_true rfl) dX7_readsSeed_5 (fun z5 M5 h5 => ?_)
  have hpb5 := pnum_b (lo := 0) (hi := 65535) hT (show 0 ≤ a by omega) (show a ≤ len by omega)
  refine x_if_ne G 13 (by decide) dX7_readsSeed_8 (fun c8 => ?_) (fun c8 => ?_)
  · skip
    have hr5 := h5.1.resolve_right (fun g => c8 g.2.1)
    have hrb5 := hpb5.resolve_right (fun g => by have g1 := hr5.1; omega)
    refine x_aload_n G 0 rfl rfl dX7_readsSeed_13 ?_
    refine x_get G (xR 196) xf7_0 lk_X7_7 (ly_n hY 195 (by decide)) (ly_k hY 195 (by decide)) (Or.inr ⟨rfl, _, (ly_r hY 195 0 (by decide) (by decide)), rfl⟩) dX7_readsSeed_14 ?_
    refine x_iconst G (by decide) dX7_readsSeed_17 ?_
    refine x_aload_n G 0 rfl rfl dX7_readsSeed_18 ?_
    refine x_get G (xI (M5 195 21)) xf7_21 lk_X7_311 (ly_n hY 195 (by decide)) (ly_k hY 195 (by decide)) (Or.inl ⟨rfl, rfl⟩) dX7_readsSeed_19 ?_
    rw [show M5 195 21 = (pnum bt a 0 65535).2.1 from hr5.2.2.1]
    refine x_iast G (ly_n hY 196 (by decide)) (ly_k hY 196 (by decide)) (show _ = 511 from ly_l hY 196 (by decide)) (by omega) (by omega) dX7_readsSeed_22 ?_
    show xX Γ 0 0 n T 23 [(0, xR 195)] [] (xst M5 196 1 ((pnum bt a 0 65535).2.1))
    refine x_iconst G (by decide) dX7_readsSeed_23 ?_
    exact x_zret G (by omega) Rt dX7_readsSeed_24 ⟨rfl, rfl, _, rfl, (by
          have e9 : pSeed bt a V = (-1, (pnum bt a 0 65535).2.2, xst V 0 12 (pnum bt a 0 65535).2.1) := (bnd_y hr5.1).trans rfl
          rw [e9]
          exact ⟨Or.inl ⟨rfl, rfl, ((xst_nq (by omega)).trans hr5.2.2.2), (mr_sd (mr_cg hN (h5.2.1 196 (by omega)))), (ok_seed hv (by omega))⟩, (tq4_st (tq4_3 (tq3_tr (tq3_refl _) h5.2)) (by omega))⟩)⟩
  · skip
    have hr5 := h5.1.resolve_left (fun g => by have g1 := g.2.1; omega)
    refine x_iconst G (by decide) dX7_readsSeed_11 ?_
    exact x_zret G (by omega) Rt dX7_readsSeed_12 ⟨rfl, rfl, _, rfl, (by
          have e9 : pSeed bt a V = (_, 0, V) := bnd_n hr5.1
          rw [e9]
          exact ⟨Or.inr ⟨hr5.1, rfl, hr5.2.2⟩, (tq4_3 (tq3_tr (tq3_refl _) h5.2))⟩)⟩
set_option maxRecDepth 100000 in
set_option maxHeartbeats 4000000 in
theorem kX7_readsWait (D : xD) (l : Launch) {n : Nat} {T : xT} {M : xM} (bt : Int → Int) (len : Int) (a : Int) (V : xM) (st : Int) (hY : LayOK n T) (hT : TB bt len) (hM : TMm M bt len) (ha : M 195 19 = a) (hal : 0 ≤ a ∧ a ≤ len) (hN : mrel (M 196) V) (hv : VOK V) (hst : 0 ≤ st ∧ st ≤ len) : xC D l uX7_readsWait 3 64 0 0 [xR 195, xI st] n T M (xPI n T (fun z M2 => (((pWait bt st a V).1 = -1 ∧ z = 1 ∧ M2 195 19 = (pWait bt st a V).2.1 ∧ mrel (M2 196) (pWait bt st a V).2.2 ∧ VOK (pWait bt st a V).2.2) ∨ (¬ (pWait bt st a V).1 = -1 ∧ z = 0 ∧ M2 195 20 = (pWait bt st a V).1)) ∧ tq4 M M2)) := by
  refine x_met uX7_readsWait (by decide) (Nat.le_of_ble_eq_true rfl) ?_
  intro Γ G Rt _
  have G : xG Γ RX7 cX7_readsWait 2 3 64 0 0 := G
  have Rt : xRt Γ (xPI n T (fun z M2 => (((pWait bt st a V).1 = -1 ∧ z = 1 ∧ M2 195 19 = (pWait bt st a V).2.1 ∧ mrel (M2 196) (pWait bt st a V).2.2 ∧ VOK (pWait bt st a V).2.2) ∨ (¬ (pWait bt st a V).1 = -1 ∧ z = 0 ∧ M2 195 20 = (pWait bt st a V).1)) ∧ tq4 M M2)) (some .boolean) 0 0 := Rt
  show xX Γ 0 0 n T 0 [(0, xR 195), (1, xI st)] [] M
  have hlb := hT.1
  have hMl := hM.1
  have hsc := hv.1
  refine x_aload_n G 0 rfl rfl dX7_readsWait_0 ?_
  refine x_iconst G (by decide) dX7_readsWait_1 ?_
  refine x_sipush G (by decide) dX7_readsWait_2 ?_
  refine x_callVI G [] [xI 0, xI 9999] rfl (by decide) (ly_n hY 195 (by decide)) (ly_k hY 195 (by decide)) hy_X7_readsNumber hi_X7_readsNumber hs_X7_readsNumber ml_X7_314 rfl rfl (kX7_readsNumber _ _ bt len a 0 9999 hY hT hM ha (by omega) (by decide) (by decide)) (by decide) (by decide) (Nat.le_of_ble_eq_true rfl) dX7_readsWait_5 (fun z5 M5 h5 => ?_)
  have hpb5 := pnum_b (lo := 0) (hi := 9999) hT (show 0 ≤ a by omega) (show a ≤ len by omega)
  refine x_if_ne G 13 (by decide) dX7_readsWait_8 (fun c8 => ?_) (fun c8 => ?_)
  · skip
    have hr5 := h5.1.resolve_right (fun g => c8 g.2.1)
    have hrb5 := hpb5.resolve_right (fun g => by have g1 := hr5.1; omega)
    refine x_aload_n G 0 rfl rfl dX7_readsWait_13 ?_
    refine x_get G (xR 196) xf7_0 lk_X7_7 (ly_n hY 195 (by decide)) (ly_k hY 195 (by decide)) (Or.inr ⟨rfl, _, (ly_r hY 195 0 (by decide) (by decide)), rfl⟩) dX7_readsWait_14 ?_
    refine x_iconst G (by decide) dX7_readsWait_17 ?_
    refine x_iald G (ly_n hY 196 (by decide)) (ly_k hY 196 (by decide)) (show _ = 511 from ly_l hY 196 (by decide)) (by omega) (by omega) dX7_readsWait_18 ?_
    show xX Γ 0 0 n T 19 [(0, xR 195), (1, xI st)] [xI (M5 196 0)] M5
    rw [show M5 196 0 = (V 0 11) from (mr_cg hN (h5.2.1 196 (by omega))).1.1]
    refine x_aload_n G 0 rfl rfl dX7_readsWait_19 ?_
    refine x_get G (xI (M5 195 21)) xf7_21 lk_X7_311 (ly_n hY 195 (by decide)) (ly_k hY 195 (by decide)) (Or.inl ⟨rfl, rfl⟩) dX7_readsWait_20 ?_
    rw [show M5 195 21 = (pnum bt a 0 9999).2.1 from hr5.2.2.1]
    refine x_iadd G (by omega) dX7_readsWait_23 ?_
    refine x_ldc G (z := 99999) (by decide) kc_X7_222 dX7_readsWait_24 ?_
    refine x_icmp_le G 36 (by decide) dX7_readsWait_26 (fun c26 => ?_) (fun c26 => ?_)
    · skip
      refine x_aload_n G 0 rfl rfl dX7_readsWait_36 ?_
      refine x_get G (xR 196) xf7_0 lk_X7_7 (ly_n hY 195 (by decide)) (ly_k hY 195 (by decide)) (Or.inr ⟨rfl, _, (ly_r hY 195 0 (by decide) (by decide)), rfl⟩) dX7_readsWait_37 ?_
      refine x_iconst G (by decide) dX7_readsWait_40 ?_
      refine x_dup2 G rfl rfl dX7_readsWait_41 ?_
      refine x_iald G (ly_n hY 196 (by decide)) (ly_k hY 196 (by decide)) (show _ = 511 from ly_l hY 196 (by decide)) (by omega) (by omega) dX7_readsWait_42 ?_
      show xX Γ 0 0 n T 43 [(0, xR 195), (1, xI st)] [xI (M5 196 0), xI 0, xR 196] M5
      rw [show M5 196 0 = (V 0 11) from (mr_cg hN (h5.2.1 196 (by omega))).1.1]
      refine x_aload_n G 0 rfl rfl dX7_readsWait_43 ?_
      refine x_get G (xI (M5 195 21)) xf7_21 lk_X7_311 (ly_n hY 195 (by decide)) (ly_k hY 195 (by decide)) (Or.inl ⟨rfl, rfl⟩) dX7_readsWait_44 ?_
      rw [show M5 195 21 = (pnum bt a 0 9999).2.1 from hr5.2.2.1]
      refine x_iadd G (by omega) dX7_readsWait_47 ?_
      refine x_iast G (ly_n hY 196 (by decide)) (ly_k hY 196 (by decide)) (show _ = 511 from ly_l hY 196 (by decide)) (by omega) (by omega) dX7_readsWait_48 ?_
      show xX Γ 0 0 n T 49 [(0, xR 195), (1, xI st)] [] (xst M5 196 0 ((V 0 11) + (pnum bt a 0 9999).2.1))
      refine x_iconst G (by decide) dX7_readsWait_49 ?_
      exact x_zret G (by omega) Rt dX7_readsWait_50 ⟨rfl, rfl, _, rfl, (by
          have e9 : pWait bt st a V = (-1, (pnum bt a 0 9999).2.2, xst V 0 11 (V 0 11 + (pnum bt a 0 9999).2.1)) := (bnd_y hr5.1).trans (if_neg (by omega))
          rw [e9]
          exact ⟨Or.inl ⟨rfl, rfl, ((xst_nq (by omega)).trans hr5.2.2.2), (mr_tick (mr_cg hN (h5.2.1 196 (by omega)))), (ok_tick hv (by omega))⟩, (tq4_st (tq4_3 (tq3_tr (tq3_refl _) h5.2)) (by omega))⟩)⟩
    · skip
      refine x_aload_n G 0 rfl rfl dX7_readsWait_29 ?_
      refine x_iconst G (by decide) dX7_readsWait_30 ?_
      refine x_iload_n G 1 rfl rfl dX7_readsWait_31 ?_
      refine x_callVI G [] [xI 3, xI st] rfl (by decide) (ly_n hY 195 (by decide)) (ly_k hY 195 (by decide)) hy_X7_fails hi_X7_fails hs_X7_fails ml_X7_308 rfl rfl (kX7_fails _ _ 3 st hY (by omega) (by omega)) (by decide) (by decide) (Nat.le_of_ble_eq_true rfl) dX7_readsWait_32 (fun z32 M32 h32 => ?_)
      obtain ⟨hz32, rfl⟩ := h32
      rw [hz32]
      show xX Γ 0 0 n T 35 [(0, xR 195), (1, xI st)] [xI 0] (xst M5 195 20 (8 * st + 3))
      exact x_zret G (by omega) Rt dX7_readsWait_35 ⟨rfl, rfl, _, rfl, (by
          have e9 : pWait bt st a V = (8 * st + 3, 0, V) := (bnd_y hr5.1).trans (if_pos (by omega))
          rw [e9]
          exact ⟨Or.inr ⟨by show ¬ 8 * st + 3 = -1; omega, rfl, xst_same ..⟩, (tq4_3 (tq3_st (tq3_tr (tq3_refl _) h5.2) (by omega)))⟩)⟩
  · skip
    have hr5 := h5.1.resolve_left (fun g => by have g1 := g.2.1; omega)
    refine x_iconst G (by decide) dX7_readsWait_11 ?_
    exact x_zret G (by omega) Rt dX7_readsWait_12 ⟨rfl, rfl, _, rfl, (by
          have e9 : pWait bt st a V = (_, 0, V) := bnd_n hr5.1
          rw [e9]
          exact ⟨Or.inr ⟨hr5.1, rfl, hr5.2.2⟩, (tq4_3 (tq3_tr (tq3_refl _) h5.2))⟩)⟩
set_option maxRecDepth 100000 in
set_option maxHeartbeats 4000000 in
theorem kX7_readsItem0 (D : xD) (l : Launch) {n : Nat} {T : xT} {M : xM} (bt : Int → Int) (len : Int) (a : Int) (V : xM) (st : Int) (hY : LayOK n T) (hT : TB bt len) (hM : TMm M bt len) (ha : M 195 19 = a) (hal : 0 ≤ a ∧ a ≤ len) (hN : mrel (M 196) V) (hv : VOK V) (hst : 0 ≤ st ∧ st ≤ len) : xC D l uX7_readsItem 5 109 0 0 [xR 195, xI st, xI 0] n T M (xPI n T (fun z M2 => (((pItm bt st a V).1 = -1 ∧ z = 1 ∧ M2 195 19 = (pItm bt st a V).2.1 ∧ mrel (M2 196) (pItm bt st a V).2.2 ∧ VOK (pItm bt st a V).2.2) ∨ (¬ (pItm bt st a V).1 = -1 ∧ z = 0 ∧ M2 195 20 = (pItm bt st a V).1)) ∧ tq4 M M2)) := by
  refine x_met uX7_readsItem (by decide) (Nat.le_of_ble_eq_true rfl) ?_
  intro Γ G Rt _
  have G : xG Γ RX7 cX7_readsItem 10 5 109 0 0 := G
  have Rt : xRt Γ (xPI n T (fun z M2 => (((pItm bt st a V).1 = -1 ∧ z = 1 ∧ M2 195 19 = (pItm bt st a V).2.1 ∧ mrel (M2 196) (pItm bt st a V).2.2 ∧ VOK (pItm bt st a V).2.2) ∨ (¬ (pItm bt st a V).1 = -1 ∧ z = 0 ∧ M2 195 20 = (pItm bt st a V).1)) ∧ tq4 M M2)) (some .boolean) 0 0 := Rt
  show xX Γ 0 0 n T 0 [(0, xR 195), (1, xI st), (2, xI 0)] [] M
  have hlb := hT.1
  have hMl := hM.1
  have hsc := hv.1
  refine x_aload_n G 0 rfl rfl dX7_readsItem_0 ?_
  refine x_iconst G (by decide) dX7_readsItem_1 ?_
  refine x_iconst G (by decide) dX7_readsItem_2 ?_
  refine x_callVI G [] [xI 0, xI 3] rfl (by decide) (ly_n hY 195 (by decide)) (ly_k hY 195 (by decide)) hy_X7_readsNumber hi_X7_readsNumber hs_X7_readsNumber ml_X7_314 rfl rfl (kX7_readsNumber _ _ bt len a 0 3 hY hT hM ha (by omega) (by decide) (by decide)) (by decide) (by decide) (Nat.le_of_ble_eq_true rfl) dX7_readsItem_3 (fun z3 M3 h3 => ?_)
  have hpb3 := pnum_b (lo := 0) (hi := 3) hT (show 0 ≤ a by omega) (show a ≤ len by omega)
  refine x_if_ne G 11 (by decide) dX7_readsItem_6 (fun c6 => ?_) (fun c6 => ?_)
  · skip
    have hr3 := h3.1.resolve_right (fun g => c6 g.2.1)
    have hrb3 := hpb3.resolve_right (fun g => by have g1 := hr3.1; omega)
    refine x_aload_n G 0 rfl rfl dX7_readsItem_11 ?_
    refine x_get G (xI (M3 195 21)) xf7_21 lk_X7_311 (ly_n hY 195 (by decide)) (ly_k hY 195 (by decide)) (Or.inl ⟨rfl, rfl⟩) dX7_readsItem_12 ?_
    rw [show M3 195 21 = (pnum bt a 0 3).2.1 from hr3.2.2.1]
    refine x_istore_n G [(3, xI ((pnum bt a 0 3).2.1)), (0, xR 195), (1, xI st), (2, xI 0)] rfl (by decide) rfl dX7_readsItem_15 ?_
    refine x_aload_n G 1 rfl rfl dX7_readsItem_16 ?_
    refine x_callVI G [] [] rfl (by decide) (ly_n hY 195 (by decide)) (ly_k hY 195 (by decide)) hy_X7_readsLabel hi_X7_readsLabel hs_X7_readsLabel ml_X7_318 rfl rfl (kX7_readsLabel _ _ bt len ((pnum bt a 0 3).2.2) hY hT (tmm_3 hM h3.2) hr3.2.2.2 (by omega)) (by decide) (by decide) (Nat.le_of_ble_eq_true rfl) dX7_readsItem_17 (fun z17 M17 h17 => ?_)
    have hpb17 := plab_b hT (show 0 ≤ (pnum bt a 0 3).2.2 by omega) (show (pnum bt a 0 3).2.2 ≤ len by omega)
    refine x_if_ne G 25 (by decide) dX7_readsItem_20 (fun c20 => ?_) (fun c20 => ?_)
    · skip
      have hr17 := h17.1.resolve_right (fun g => c20 g.2.1)
      have hrb17 := hpb17.resolve_right (fun g => by have g1 := hr17.1; omega)
      refine x_aload_n G 1 rfl rfl dX7_readsItem_25 ?_
      refine x_get G (xI (M17 195 21)) xf7_21 lk_X7_311 (ly_n hY 195 (by decide)) (ly_k hY 195 (by decide)) (Or.inl ⟨rfl, rfl⟩) dX7_readsItem_26 ?_
      rw [show M17 195 21 = (plab bt ((pnum bt a 0 3).2.2)).2.1 from hr17.2.2.1]
      refine x_istore G [(4, xI ((plab bt ((pnum bt a 0 3).2.2)).2.1)), (3, xI ((pnum bt a 0 3).2.1)), (0, xR 195), (1, xI st), (2, xI 0)] (by decide) rfl dX7_readsItem_29 ?_
      refine x_aload_n G 2 rfl rfl dX7_readsItem_31 ?_
      refine x_iconst G (by decide) dX7_readsItem_32 ?_
      refine x_bipush G (by decide) dX7_readsItem_33 ?_
      refine x_callVI G [] [xI 1, xI 20] rfl (by decide) (ly_n hY 195 (by decide)) (ly_k hY 195 (by decide)) hy_X7_readsNumber hi_X7_readsNumber hs_X7_readsNumber ml_X7_314 rfl rfl (kX7_readsNumber _ _ bt len ((plab bt ((pnum bt a 0 3).2.2)).2.2) 1 20 hY hT (tmm_3 (tmm_3 hM h3.2) h17.2) hr17.2.2.2 (by omega) (by decide) (by decide)) (by decide) (by decide) (Nat.le_of_ble_eq_true rfl) dX7_readsItem_35 (fun z35 M35 h35 => ?_)
      have hpb35 := pnum_b (lo := 1) (hi := 20) hT (show 0 ≤ (plab bt ((pnum bt a 0 3).2.2)).2.2 by omega) (show (plab bt ((pnum bt a 0 3).2.2)).2.2 ≤ len by omega)
      refine x_if_ne G 43 (by decide) dX7_readsItem_38 (fun c38 => ?_) (fun c38 => ?_)
      · skip
        have hr35 := h35.1.resolve_right (fun g => c38 g.2.1)
        have hrb35 := hpb35.resolve_right (fun g => by have g1 := hr35.1; omega)
        refine x_aload_n G 2 rfl rfl dX7_readsItem_43 ?_
        refine x_get G (xI (M35 195 21)) xf7_21 lk_X7_311 (ly_n hY 195 (by decide)) (ly_k hY 195 (by decide)) (Or.inl ⟨rfl, rfl⟩) dX7_readsItem_44 ?_
        rw [show M35 195 21 = (pnum bt ((plab bt ((pnum bt a 0 3).2.2)).2.2) 1 20).2.1 from hr35.2.2.1]
        refine x_istore G [(5, xI ((pnum bt ((plab bt ((pnum bt a 0 3).2.2)).2.2) 1 20).2.1)), (4, xI ((plab bt ((pnum bt a 0 3).2.2)).2.1)), (3, xI ((pnum bt a 0 3).2.1)), (0, xR 195), (1, xI st), (2, xI 0)] (by decide) rfl dX7_readsItem_47 ?_
        refine x_iconst G (by decide) dX7_readsItem_49 ?_
        refine x_istore G [(6, xI 1), (5, xI ((pnum bt ((plab bt ((pnum bt a 0 3).2.2)).2.2) 1 20).2.1)), (4, xI ((plab bt ((pnum bt a 0 3).2.2)).2.1)), (3, xI ((pnum bt a 0 3).2.1)), (0, xR 195), (1, xI st), (2, xI 0)] (by decide) rfl dX7_readsItem_50 ?_
        refine x_iconst G (by decide) dX7_readsItem_52 ?_
        refine x_istore G [(7, xI 0), (6, xI 1), (5, xI ((pnum bt ((plab bt ((pnum bt a 0 3).2.2)).2.2) 1 20).2.1)), (4, xI ((plab bt ((pnum bt a 0 3).2.2)).2.1)), (3, xI ((pnum bt a 0 3).2.1)), (0, xR 195), (1, xI st), (2, xI 0)] (by decide) rfl dX7_readsItem_53 ?_
        refine x_iload_n G 7 rfl rfl dX7_readsItem_55 ?_
        refine x_if_eq G 81 (by decide) dX7_readsItem_56 (fun _ => ?_) (fun c56 => absurd c56 (by decide))
        refine x_aload_n G 5 rfl rfl dX7_readsItem_81 ?_
        refine x_ldcSw G (i := 18) rfl dX7_readsItem_82 ?_
        refine x_callVI G [] [xR (1000000 + 18)] rfl (by decide) (ly_n hY 195 (by decide)) (ly_k hY 195 (by decide)) hy_X7_takesWord hi_X7_takesWord hs_X7_takesWord ml_X7_323 rfl rfl (kX7_takesWord _ _ bt len ((pnum bt ((plab bt ((pnum bt a 0 3).2.2)).2.2) 1 20).2.2) 18 wTimes hY hT (tmm_3 (tmm_3 (tmm_3 hM h3.2) h17.2) h35.2) hr35.2.2.2 (by omega) ⟨_, _, _, rfl⟩) (by decide) (by decide) (Nat.le_of_ble_eq_true rfl) dX7_readsItem_85 (fun z85 M85 h85 => ?_)
        rw [h85.1.1]
        have hsk85 := skp_b hT (show (pnum bt ((plab bt ((pnum bt a 0 3).2.2)).2.2) 1 20).2.2 ≤ len by omega)
        refine x_if_eq G 109 (by decide) dX7_readsItem_88 (fun c88 => ?_) (fun c88 => ?_)
        · skip
          have c88 := b2i_eq0.mp c88
          skip
          refine x_aload_n G 5 rfl rfl dX7_readsItem_109 ?_
          refine x_get G (xR 196) xf7_0 lk_X7_7 (ly_n hY 195 (by decide)) (ly_k hY 195 (by decide)) (Or.inr ⟨rfl, _, (ly_r hY 195 0 (by decide) (by decide)), rfl⟩) dX7_readsItem_110 ?_
          refine x_iconst G (by decide) dX7_readsItem_113 ?_
          refine x_iald G (ly_n hY 196 (by decide)) (ly_k hY 196 (by decide)) (show _ = 511 from ly_l hY 196 (by decide)) (by omega) (by omega) dX7_readsItem_114 ?_
          show xX Γ 0 0 n T 115 [(7, xI 0), (6, xI 1), (5, xI ((pnum bt ((plab bt ((pnum bt a 0 3).2.2)).2.2) 1 20).2.1)), (4, xI ((plab bt ((pnum bt a 0 3).2.2)).2.1)), (3, xI ((pnum bt a 0 3).2.1)), (0, xR 195), (1, xI st), (2, xI 0)] [xI (M85 196 2)] M85
          rw [show M85 196 2 = (V 0 10) from (mr_cg (mr_cg (mr_cg (mr_cg hN (h3.2.1 196 (by omega))) (h17.2.1 196 (by omega))) (h35.2.1 196 (by omega))) (h85.2.1 196 (by omega))).1.2.2]
          refine x_iload G 1 rfl dX7_readsItem_115 ?_
          refine x_iadd G (by omega) dX7_readsItem_117 ?_
          refine x_bipush G (by decide) dX7_readsItem_118 ?_
          refine x_icmp_le G 130 (by decide) dX7_readsItem_120 (fun c120 => ?_) (fun c120 => ?_)
          · skip
            refine x_iconst G (by decide) dX7_readsItem_130 ?_
            refine x_istore G [(8, xI 0), (7, xI 0), (6, xI 1), (5, xI ((pnum bt ((plab bt ((pnum bt a 0 3).2.2)).2.2) 1 20).2.1)), (4, xI ((plab bt ((pnum bt a 0 3).2.2)).2.1)), (3, xI ((pnum bt a 0 3).2.1)), (0, xR 195), (1, xI st), (2, xI 0)] (by decide) rfl dX7_readsItem_131 ?_
            have loop133 : ∀ (d : Nat) (k : Int) (N9 : xM), (1 - k).toNat = d → (0 ≤ k ∧ k ≤ 1) → (mrel (N9 196) (its (pnum bt a 0 3).2.1 (plab bt (pnum bt a 0 3).2.2).2.1 (pnum bt (plab bt (pnum bt a 0 3).2.2).2.2 1 20).2.1 k.toNat V)) → (N9 195 19 = (skp bt ((pnum bt ((plab bt ((pnum bt a 0 3).2.2)).2.2) 1 20).2.2))) → (tq4 M N9) → xX Γ 0 0 n T 133 [(0, xR 195), (1, xI st), (2, xI 0), (3, xI ((pnum bt a 0 3).2.1)), (4, xI ((plab bt ((pnum bt a 0 3).2.2)).2.1)), (5, xI ((pnum bt ((plab bt ((pnum bt a 0 3).2.2)).2.2) 1 20).2.1)), (6, xI 1), (7, xI 0), (8, xI k)] [] N9 := by
              intro d
              induction d using Nat.strongRecOn with
              | ind d ih133 =>
              intro k N9 hd133 hk hNk hsp ht4
              skip
              have hic := its_c ((pnum bt a 0 3).2.1) ((plab bt (pnum bt a 0 3).2.2).2.1) ((pnum bt (plab bt (pnum bt a 0 3).2.2).2.2 1 20).2.1) V k.toNat
              have hvi : VOK (its (pnum bt a 0 3).2.1 (plab bt (pnum bt a 0 3).2.2).2.1 (pnum bt (plab bt (pnum bt a 0 3).2.2).2.2 1 20).2.1 k.toNat V) := its_ok hv (by omega) (by omega) (by omega) k.toNat (by omega)
              have hsci := hvi.1
              refine x_iload G 8 rfl dX7_readsItem_133 ?_
              refine x_iload G 6 rfl dX7_readsItem_135 ?_
              refine x_icmp_ge G 174 (by decide) dX7_readsItem_137 (fun c137 => ?_) (fun c137 => ?_)
              · skip
                refine x_iconst G (by decide) dX7_readsItem_174 ?_
                exact x_zret G (by omega) Rt dX7_readsItem_175 ⟨rfl, rfl, _, rfl, (by
          have hke : k = 1 := by omega
          have e9 : pItm bt st a V = (-1, (skp bt ((pnum bt ((plab bt ((pnum bt a 0 3).2.2)).2.2) 1 20).2.2)), (its (pnum bt a 0 3).2.1 (plab bt (pnum bt a 0 3).2.2).2.1 (pnum bt (plab bt (pnum bt a 0 3).2.2).2.2 1 20).2.1 k.toNat V)) := (bnd_y hr3.1).trans ((bnd_y hr17.1).trans ((bnd_y hr35.1).trans ((bnd_cy (if_neg c88) rfl).trans ((if_neg (by first | omega | (show ¬ 100 < V 0 10 + 1; omega))).trans (by rw [hke])))))
          rw [e9]
          exact ⟨Or.inl ⟨rfl, rfl, hsp, hNk, hvi⟩, ht4⟩)⟩
              · skip
                refine x_aload_n G 0 rfl rfl dX7_readsItem_140 ?_
                refine x_iload_n G 3 rfl rfl dX7_readsItem_141 ?_
                refine x_iload G 4 rfl dX7_readsItem_142 ?_
                refine x_iload G 5 rfl dX7_readsItem_144 ?_
                refine x_iload_n G 2 rfl rfl dX7_readsItem_146 ?_
                refine x_if_eq G 155 (by decide) dX7_readsItem_147 (fun _ => ?_) (fun c147 => absurd c147 (by decide))
                refine x_aload_n G 0 rfl rfl dX7_readsItem_155 ?_
                refine x_aload_n G 0 rfl rfl dX7_readsItem_156 ?_
                refine x_get G (xR 196) xf7_0 lk_X7_7 (ly_n hY 195 (by decide)) (ly_k hY 195 (by decide)) (Or.inr ⟨rfl, _, (ly_r hY 195 0 (by decide) (by decide)), rfl⟩) dX7_readsItem_157 ?_
                refine x_callVI G [xI ((pnum bt ((plab bt ((pnum bt a 0 3).2.2)).2.2) 1 20).2.1), xI ((plab bt ((pnum bt a 0 3).2.2)).2.1), xI ((pnum bt a 0 3).2.1), xR 195] [xR 196] rfl (by decide) (ly_n hY 195 (by decide)) (ly_k hY 195 (by decide)) hy_X7_drawn hi_X7_drawn hs_X7_drawn ml_X7_174 rfl rfl (kX7_drawn _ _ ((its (pnum bt a 0 3).2.1 (plab bt (pnum bt a 0 3).2.2).2.1 (pnum bt (plab bt (pnum bt a 0 3).2.2).2.2 1 20).2.1 k.toNat V) 0 12) hY hNk.1.2.1 (by omega)) (by decide) (by decide) (Nat.le_of_ble_eq_true rfl) dX7_readsItem_160 (fun z160 M160 h160 => ?_)
                obtain ⟨hz160, rfl⟩ := h160
                rw [hz160]
                have hdb160 := drw_b ((its (pnum bt a 0 3).2.1 (plab bt (pnum bt a 0 3).2.2).2.1 (pnum bt (plab bt (pnum bt a 0 3).2.2).2.2 1 20).2.1 k.toNat V) 0 12)
                have hxc160 : (xst (its (pnum bt a 0 3).2.1 (plab bt (pnum bt a 0 3).2.2).2.1 (pnum bt (plab bt (pnum bt a 0 3).2.2).2.2 1 20).2.1 k.toNat V) 0 12 (drw ((its (pnum bt a 0 3).2.1 (plab bt (pnum bt a 0 3).2.2).2.1 (pnum bt (plab bt (pnum bt a 0 3).2.2).2.2 1 20).2.1 k.toNat V) 0 12))) 0 10 = (its (pnum bt a 0 3).2.1 (plab bt (pnum bt a 0 3).2.2).2.1 (pnum bt (plab bt (pnum bt a 0 3).2.2).2.2 1 20).2.1 k.toNat V) 0 10 := rfl
                show xX Γ 0 0 n T 163 [(0, xR 195), (1, xI st), (2, xI 0), (3, xI ((pnum bt a 0 3).2.1)), (4, xI ((plab bt ((pnum bt a 0 3).2.2)).2.1)), (5, xI ((pnum bt ((plab bt ((pnum bt a 0 3).2.2)).2.2) 1 20).2.1)), (6, xI 1), (7, xI 0), (8, xI k)] [xI (drw ((its (pnum bt a 0 3).2.1 (plab bt (pnum bt a 0 3).2.2).2.1 (pnum bt (plab bt (pnum bt a 0 3).2.2).2.2 1 20).2.1 k.toNat V) 0 12) / 64), xI ((pnum bt ((plab bt ((pnum bt a 0 3).2.2)).2.2) 1 20).2.1), xI ((plab bt ((pnum bt a 0 3).2.2)).2.1), xI ((pnum bt a 0 3).2.1), xR 195] (xst N9 196 1 (drw ((its (pnum bt a 0 3).2.1 (plab bt (pnum bt a 0 3).2.2).2.1 (pnum bt (plab bt (pnum bt a 0 3).2.2).2.2 1 20).2.1 k.toNat V) 0 12)))
                refine x_callVI G [] [xI ((pnum bt a 0 3).2.1), xI ((plab bt ((pnum bt a 0 3).2.2)).2.1), xI ((pnum bt ((plab bt ((pnum bt a 0 3).2.2)).2.2) 1 20).2.1), xI (drw ((its (pnum bt a 0 3).2.1 (plab bt (pnum bt a 0 3).2.2).2.1 (pnum bt (plab bt (pnum bt a 0 3).2.2).2.2 1 20).2.1 k.toNat V) 0 12) / 64)] rfl (by decide) (ly_n hY 195 (by decide)) (ly_k hY 195 (by decide)) hy_X7_comesNew hi_X7_comesNew hs_X7_comesNew ml_X7_219 rfl rfl (kX7_comesNew _ _ (xst (its (pnum bt a 0 3).2.1 (plab bt (pnum bt a 0 3).2.2).2.1 (pnum bt (plab bt (pnum bt a 0 3).2.2).2.2 1 20).2.1 k.toNat V) 0 12 (drw ((its (pnum bt a 0 3).2.1 (plab bt (pnum bt a 0 3).2.2).2.1 (pnum bt (plab bt (pnum bt a 0 3).2.2).2.2 1 20).2.1 k.toNat V) 0 12))) ((pnum bt a 0 3).2.1) ((plab bt ((pnum bt a 0 3).2.2)).2.1) ((pnum bt ((plab bt ((pnum bt a 0 3).2.2)).2.2) 1 20).2.1) (drw ((its (pnum bt a 0 3).2.1 (plab bt (pnum bt a 0 3).2.2).2.1 (pnum bt (plab bt (pnum bt a 0 3).2.2).2.2 1 20).2.1 k.toNat V) 0 12) / 64) hY (mr_sd hNk) (ok_seed hvi (by have := drw_b ((its (pnum bt a 0 3).2.1 (plab bt (pnum bt a 0 3).2.2).2.1 (pnum bt (plab bt (pnum bt a 0 3).2.2).2.2 1 20).2.1 k.toNat V) 0 12); omega)) (by omega)) (by decide) (by decide) (Nat.le_of_ble_eq_true rfl) dX7_readsItem_163 (fun z163 M163 h163 => ?_)
                rw [h163.1]
                refine x_istore G [(9, xI ((xst (its (pnum bt a 0 3).2.1 (plab bt (pnum bt a 0 3).2.2).2.1 (pnum bt (plab bt (pnum bt a 0 3).2.2).2.2 1 20).2.1 k.toNat V) 0 12 (drw ((its (pnum bt a 0 3).2.1 (plab bt (pnum bt a 0 3).2.2).2.1 (pnum bt (plab bt (pnum bt a 0 3).2.2).2.2 1 20).2.1 k.toNat V) 0 12))) 0 10)), (0, xR 195), (1, xI st), (2, xI 0), (3, xI ((pnum bt a 0 3).2.1)), (4, xI ((plab bt ((pnum bt a 0 3).2.2)).2.1)), (5, xI ((pnum bt ((plab bt ((pnum bt a 0 3).2.2)).2.2) 1 20).2.1)), (6, xI 1), (7, xI 0), (8, xI k)] (by decide) rfl dX7_readsItem_166 ?_
                refine x_iinc G [(8, xI (k + 1)), (9, xI ((xst (its (pnum bt a 0 3).2.1 (plab bt (pnum bt a 0 3).2.2).2.1 (pnum bt (plab bt (pnum bt a 0 3).2.2).2.2 1 20).2.1 k.toNat V) 0 12 (drw ((its (pnum bt a 0 3).2.1 (plab bt (pnum bt a 0 3).2.2).2.1 (pnum bt (plab bt (pnum bt a 0 3).2.2).2.2 1 20).2.1 k.toNat V) 0 12))) 0 10)), (0, xR 195), (1, xI st), (2, xI 0), (3, xI ((pnum bt a 0 3).2.1)), (4, xI ((plab bt ((pnum bt a 0 3).2.2)).2.1)), (5, xI ((pnum bt ((plab bt ((pnum bt a 0 3).2.2)).2.2) 1 20).2.1)), (6, xI 1), (7, xI 0)] 9 rfl (by decide) (by omega) rfl dX7_readsItem_168 ?_
                refine x_goto G 133 (by decide) dX7_readsItem_171 ?_
                refine x_sub [(0, xR 195), (1, xI st), (2, xI 0), (3, xI ((pnum bt a 0 3).2.1)), (4, xI ((plab bt ((pnum bt a 0 3).2.2)).2.1)), (5, xI ((pnum bt ((plab bt ((pnum bt a 0 3).2.2)).2.2) 1 20).2.1)), (6, xI 1), (7, xI 0), (8, xI (k + 1))] [2, 3, 4, 5, 6, 7, 8, 9, 0] rfl ?_
                exact ih133 _ (by omega) (k + 1) M163 rfl (by omega) ((by rw [show (k + 1).toNat = k.toNat + 1 by omega]; exact h163.2.1)) (((h163.2.2.2.2 19 (by decide)).trans ((xst_nq (by omega)).trans hsp))) ((tq4_cn (tq4_st ht4 (by omega)) h163.2.2.2))
            refine x_sub [(0, xR 195), (1, xI st), (2, xI 0), (3, xI ((pnum bt a 0 3).2.1)), (4, xI ((plab bt ((pnum bt a 0 3).2.2)).2.1)), (5, xI ((pnum bt ((plab bt ((pnum bt a 0 3).2.2)).2.2) 1 20).2.1)), (6, xI 1), (7, xI 0), (8, xI 0)] [6, 7, 8, 5, 4, 3, 2, 1, 0] rfl ?_
            exact loop133 _ 0 M85 rfl (by omega) ((mr_cg (mr_cg (mr_cg (mr_cg hN (h3.2.1 196 (by omega))) (h17.2.1 196 (by omega))) (h35.2.1 196 (by omega))) (h85.2.1 196 (by omega)))) ((h85.1.2.2 c88)) ((tq4_3 (tq3_tr (tq3_tr (tq3_tr (tq3_tr (tq3_refl _) h3.2) h17.2) h35.2) (tq13 h85.2))))
          · skip
            refine x_aload_n G 5 rfl rfl dX7_readsItem_123 ?_
            refine x_iconst G (by decide) dX7_readsItem_124 ?_
            refine x_iload_n G 6 rfl rfl dX7_readsItem_125 ?_
            refine x_callVI G [] [xI 3, xI st] rfl (by decide) (ly_n hY 195 (by decide)) (ly_k hY 195 (by decide)) hy_X7_fails hi_X7_fails hs_X7_fails ml_X7_308 rfl rfl (kX7_fails _ _ 3 st hY (by omega) (by omega)) (by decide) (by decide) (Nat.le_of_ble_eq_true rfl) dX7_readsItem_126 (fun z126 M126 h126 => ?_)
            obtain ⟨hz126, rfl⟩ := h126
            rw [hz126]
            show xX Γ 0 0 n T 129 [(7, xI 0), (6, xI 1), (5, xI ((pnum bt ((plab bt ((pnum bt a 0 3).2.2)).2.2) 1 20).2.1)), (4, xI ((plab bt ((pnum bt a 0 3).2.2)).2.1)), (3, xI ((pnum bt a 0 3).2.1)), (0, xR 195), (1, xI st), (2, xI 0)] [xI 0] (xst M85 195 20 (8 * st + 3))
            exact x_zret G (by omega) Rt dX7_readsItem_129 ⟨rfl, rfl, _, rfl, (by
          have e9 : pItm bt st a V = (8 * st + 3, 0, V) := (bnd_y hr3.1).trans ((bnd_y hr17.1).trans ((bnd_y hr35.1).trans ((bnd_cy (if_neg c88) rfl).trans (if_pos (by first | omega | (show 100 < V 0 10 + 1; omega))))))
          rw [e9]
          exact ⟨Or.inr ⟨by show ¬ 8 * st + 3 = -1; omega, rfl, xst_same ..⟩, (tq4_3 (tq3_st (tq3_tr (tq3_tr (tq3_tr (tq3_tr (tq3_refl _) h3.2) h17.2) h35.2) (tq13 h85.2)) (by omega)))⟩)⟩
        · skip
          have c88 := b2i_ne0.mp c88
          have hty85 := (h85.1.2.1 c88).2; have hlw85 : (wTimes.length : Int) = 5 := rfl
          refine x_aload_n G 5 rfl rfl dX7_readsItem_91 ?_
          refine x_iconst G (by decide) dX7_readsItem_92 ?_
          refine x_bipush G (by decide) dX7_readsItem_93 ?_
          refine x_callVI G [] [xI 1, xI 50] rfl (by decide) (ly_n hY 195 (by decide)) (ly_k hY 195 (by decide)) hy_X7_readsNumber hi_X7_readsNumber hs_X7_readsNumber ml_X7_314 rfl rfl (kX7_readsNumber _ _ bt len ((skp bt ((pnum bt ((plab bt ((pnum bt a 0 3).2.2)).2.2) 1 20).2.2)) + 5) 1 50 hY hT (tmm_1 (tmm_3 (tmm_3 (tmm_3 hM h3.2) h17.2) h35.2) h85.2) (h85.1.2.1 c88).1 (by omega) (by decide) (by decide)) (by decide) (by decide) (Nat.le_of_ble_eq_true rfl) dX7_readsItem_95 (fun z95 M95 h95 => ?_)
          have hpb95 := pnum_b (lo := 1) (hi := 50) hT (show 0 ≤ ((skp bt ((pnum bt ((plab bt ((pnum bt a 0 3).2.2)).2.2) 1 20).2.2)) + 5) by omega) (show ((skp bt ((pnum bt ((plab bt ((pnum bt a 0 3).2.2)).2.2) 1 20).2.2)) + 5) ≤ len by omega)
          refine x_if_ne G 103 (by decide) dX7_readsItem_98 (fun c98 => ?_) (fun c98 => ?_)
          · skip
            have hr95 := h95.1.resolve_right (fun g => c98 g.2.1)
            have hrb95 := hpb95.resolve_right (fun g => by have g1 := hr95.1; omega)
            refine x_aload_n G 5 rfl rfl dX7_readsItem_103 ?_
            refine x_get G (xI (M95 195 21)) xf7_21 lk_X7_311 (ly_n hY 195 (by decide)) (ly_k hY 195 (by decide)) (Or.inl ⟨rfl, rfl⟩) dX7_readsItem_104 ?_
            rw [show M95 195 21 = (pnum bt ((skp bt ((pnum bt ((plab bt ((pnum bt a 0 3).2.2)).2.2) 1 20).2.2)) + 5) 1 50).2.1 from hr95.2.2.1]
            refine x_istore G [(6, xI ((pnum bt ((skp bt ((pnum bt ((plab bt ((pnum bt a 0 3).2.2)).2.2) 1 20).2.2)) + 5) 1 50).2.1)), (7, xI 0), (5, xI ((pnum bt ((plab bt ((pnum bt a 0 3).2.2)).2.2) 1 20).2.1)), (4, xI ((plab bt ((pnum bt a 0 3).2.2)).2.1)), (3, xI ((pnum bt a 0 3).2.1)), (0, xR 195), (1, xI st), (2, xI 0)] (by decide) rfl dX7_readsItem_107 ?_
            refine x_aload_n G 5 rfl rfl dX7_readsItem_109 ?_
            refine x_get G (xR 196) xf7_0 lk_X7_7 (ly_n hY 195 (by decide)) (ly_k hY 195 (by decide)) (Or.inr ⟨rfl, _, (ly_r hY 195 0 (by decide) (by decide)), rfl⟩) dX7_readsItem_110 ?_
            refine x_iconst G (by decide) dX7_readsItem_113 ?_
            refine x_iald G (ly_n hY 196 (by decide)) (ly_k hY 196 (by decide)) (show _ = 511 from ly_l hY 196 (by decide)) (by omega) (by omega) dX7_readsItem_114 ?_
            show xX Γ 0 0 n T 115 [(6, xI ((pnum bt ((skp bt ((pnum bt ((plab bt ((pnum bt a 0 3).2.2)).2.2) 1 20).2.2)) + 5) 1 50).2.1)), (7, xI 0), (5, xI ((pnum bt ((plab bt ((pnum bt a 0 3).2.2)).2.2) 1 20).2.1)), (4, xI ((plab bt ((pnum bt a 0 3).2.2)).2.1)), (3, xI ((pnum bt a 0 3).2.1)), (0, xR 195), (1, xI st), (2, xI 0)] [xI (M95 196 2)] M95
            rw [show M95 196 2 = (V 0 10) from (mr_cg (mr_cg (mr_cg (mr_cg (mr_cg hN (h3.2.1 196 (by omega))) (h17.2.1 196 (by omega))) (h35.2.1 196 (by omega))) (h85.2.1 196 (by omega))) (h95.2.1 196 (by omega))).1.2.2]
            refine x_iload G 0 rfl dX7_readsItem_115 ?_
            refine x_iadd G (by omega) dX7_readsItem_117 ?_
            refine x_bipush G (by decide) dX7_readsItem_118 ?_
            refine x_icmp_le G 130 (by decide) dX7_readsItem_120 (fun c120 => ?_) (fun c120 => ?_)
            · skip
              refine x_iconst G (by decide) dX7_readsItem_130 ?_
              refine x_istore G [(8, xI 0), (6, xI ((pnum bt ((skp bt ((pnum bt ((plab bt ((pnum bt a 0 3).2.2)).2.2) 1 20).2.2)) + 5) 1 50).2.1)), (7, xI 0), (5, xI ((pnum bt ((plab bt ((pnum bt a 0 3).2.2)).2.2) 1 20).2.1)), (4, xI ((plab bt ((pnum bt a 0 3).2.2)).2.1)), (3, xI ((pnum bt a 0 3).2.1)), (0, xR 195), (1, xI st), (2, xI 0)] (by decide) rfl dX7_readsItem_131 ?_
              have loop133 : ∀ (d : Nat) (k : Int) (N9 : xM), ((pnum bt ((skp bt ((pnum bt ((plab bt ((pnum bt a 0 3).2.2)).2.2) 1 20).2.2)) + 5) 1 50).2.1 - k).toNat = d → (0 ≤ k ∧ k ≤ (pnum bt ((skp bt ((pnum bt ((plab bt ((pnum bt a 0 3).2.2)).2.2) 1 20).2.2)) + 5) 1 50).2.1) → (mrel (N9 196) (its (pnum bt a 0 3).2.1 (plab bt (pnum bt a 0 3).2.2).2.1 (pnum bt (plab bt (pnum bt a 0 3).2.2).2.2 1 20).2.1 k.toNat V)) → (N9 195 19 = (pnum bt ((skp bt ((pnum bt ((plab bt ((pnum bt a 0 3).2.2)).2.2) 1 20).2.2)) + 5) 1 50).2.2) → (tq4 M N9) → xX Γ 0 0 n T 133 [(0, xR 195), (1, xI st), (2, xI 0), (3, xI ((pnum bt a 0 3).2.1)), (4, xI ((plab bt ((pnum bt a 0 3).2.2)).2.1)), (5, xI ((pnum bt ((plab bt ((pnum bt a 0 3).2.2)).2.2) 1 20).2.1)), (6, xI ((pnum bt ((skp bt ((pnum bt ((plab bt ((pnum bt a 0 3).2.2)).2.2) 1 20).2.2)) + 5) 1 50).2.1)), (7, xI 0), (8, xI k)] [] N9 := by
                intro d
                induction d using Nat.strongRecOn with
                | ind d ih133 =>
                intro k N9 hd133 hk hNk hsp ht4
                skip
                have hic := its_c ((pnum bt a 0 3).2.1) ((plab bt (pnum bt a 0 3).2.2).2.1) ((pnum bt (plab bt (pnum bt a 0 3).2.2).2.2 1 20).2.1) V k.toNat
                have hvi : VOK (its (pnum bt a 0 3).2.1 (plab bt (pnum bt a 0 3).2.2).2.1 (pnum bt (plab bt (pnum bt a 0 3).2.2).2.2 1 20).2.1 k.toNat V) := its_ok hv (by omega) (by omega) (by omega) k.toNat (by omega)
                have hsci := hvi.1
                refine x_iload G 8 rfl dX7_readsItem_133 ?_
                refine x_iload G 6 rfl dX7_readsItem_135 ?_
                refine x_icmp_ge G 174 (by decide) dX7_readsItem_137 (fun c137 => ?_) (fun c137 => ?_)
                · skip
                  refine x_iconst G (by decide) dX7_readsItem_174 ?_
                  exact x_zret G (by omega) Rt dX7_readsItem_175 ⟨rfl, rfl, _, rfl, (by
          have hke : k = (pnum bt ((skp bt ((pnum bt ((plab bt ((pnum bt a 0 3).2.2)).2.2) 1 20).2.2)) + 5) 1 50).2.1 := by omega
          have e9 : pItm bt st a V = (-1, (pnum bt ((skp bt ((pnum bt ((plab bt ((pnum bt a 0 3).2.2)).2.2) 1 20).2.2)) + 5) 1 50).2.2, (its (pnum bt a 0 3).2.1 (plab bt (pnum bt a 0 3).2.2).2.1 (pnum bt (plab bt (pnum bt a 0 3).2.2).2.2 1 20).2.1 k.toNat V)) := (bnd_y hr3.1).trans ((bnd_y hr17.1).trans ((bnd_y hr35.1).trans ((bnd_cy (if_pos c88) hr95.1).trans ((if_neg (by first | omega | (show ¬ 100 < V 0 10 + 1; omega))).trans (by rw [hke])))))
          rw [e9]
          exact ⟨Or.inl ⟨rfl, rfl, hsp, hNk, hvi⟩, ht4⟩)⟩
                · skip
                  refine x_aload_n G 0 rfl rfl dX7_readsItem_140 ?_
                  refine x_iload_n G 3 rfl rfl dX7_readsItem_141 ?_
                  refine x_iload G 4 rfl dX7_readsItem_142 ?_
                  refine x_iload G 5 rfl dX7_readsItem_144 ?_
                  refine x_iload_n G 2 rfl rfl dX7_readsItem_146 ?_
                  refine x_if_eq G 155 (by decide) dX7_readsItem_147 (fun _ => ?_) (fun c147 => absurd c147 (by decide))
                  refine x_aload_n G 0 rfl rfl dX7_readsItem_155 ?_
                  refine x_aload_n G 0 rfl rfl dX7_readsItem_156 ?_
                  refine x_get G (xR 196) xf7_0 lk_X7_7 (ly_n hY 195 (by decide)) (ly_k hY 195 (by decide)) (Or.inr ⟨rfl, _, (ly_r hY 195 0 (by decide) (by decide)), rfl⟩) dX7_readsItem_157 ?_
                  refine x_callVI G [xI ((pnum bt ((plab bt ((pnum bt a 0 3).2.2)).2.2) 1 20).2.1), xI ((plab bt ((pnum bt a 0 3).2.2)).2.1), xI ((pnum bt a 0 3).2.1), xR 195] [xR 196] rfl (by decide) (ly_n hY 195 (by decide)) (ly_k hY 195 (by decide)) hy_X7_drawn hi_X7_drawn hs_X7_drawn ml_X7_174 rfl rfl (kX7_drawn _ _ ((its (pnum bt a 0 3).2.1 (plab bt (pnum bt a 0 3).2.2).2.1 (pnum bt (plab bt (pnum bt a 0 3).2.2).2.2 1 20).2.1 k.toNat V) 0 12) hY hNk.1.2.1 (by omega)) (by decide) (by decide) (Nat.le_of_ble_eq_true rfl) dX7_readsItem_160 (fun z160 M160 h160 => ?_)
                  obtain ⟨hz160, rfl⟩ := h160
                  rw [hz160]
                  have hdb160 := drw_b ((its (pnum bt a 0 3).2.1 (plab bt (pnum bt a 0 3).2.2).2.1 (pnum bt (plab bt (pnum bt a 0 3).2.2).2.2 1 20).2.1 k.toNat V) 0 12)
                  have hxc160 : (xst (its (pnum bt a 0 3).2.1 (plab bt (pnum bt a 0 3).2.2).2.1 (pnum bt (plab bt (pnum bt a 0 3).2.2).2.2 1 20).2.1 k.toNat V) 0 12 (drw ((its (pnum bt a 0 3).2.1 (plab bt (pnum bt a 0 3).2.2).2.1 (pnum bt (plab bt (pnum bt a 0 3).2.2).2.2 1 20).2.1 k.toNat V) 0 12))) 0 10 = (its (pnum bt a 0 3).2.1 (plab bt (pnum bt a 0 3).2.2).2.1 (pnum bt (plab bt (pnum bt a 0 3).2.2).2.2 1 20).2.1 k.toNat V) 0 10 := rfl
                  show xX Γ 0 0 n T 163 [(0, xR 195), (1, xI st), (2, xI 0), (3, xI ((pnum bt a 0 3).2.1)), (4, xI ((plab bt ((pnum bt a 0 3).2.2)).2.1)), (5, xI ((pnum bt ((plab bt ((pnum bt a 0 3).2.2)).2.2) 1 20).2.1)), (6, xI ((pnum bt ((skp bt ((pnum bt ((plab bt ((pnum bt a 0 3).2.2)).2.2) 1 20).2.2)) + 5) 1 50).2.1)), (7, xI 0), (8, xI k)] [xI (drw ((its (pnum bt a 0 3).2.1 (plab bt (pnum bt a 0 3).2.2).2.1 (pnum bt (plab bt (pnum bt a 0 3).2.2).2.2 1 20).2.1 k.toNat V) 0 12) / 64), xI ((pnum bt ((plab bt ((pnum bt a 0 3).2.2)).2.2) 1 20).2.1), xI ((plab bt ((pnum bt a 0 3).2.2)).2.1), xI ((pnum bt a 0 3).2.1), xR 195] (xst N9 196 1 (drw ((its (pnum bt a 0 3).2.1 (plab bt (pnum bt a 0 3).2.2).2.1 (pnum bt (plab bt (pnum bt a 0 3).2.2).2.2 1 20).2.1 k.toNat V) 0 12)))
                  refine x_callVI G [] [xI ((pnum bt a 0 3).2.1), xI ((plab bt ((pnum bt a 0 3).2.2)).2.1), xI ((pnum bt ((plab bt ((pnum bt a 0 3).2.2)).2.2) 1 20).2.1), xI (drw ((its (pnum bt a 0 3).2.1 (plab bt (pnum bt a 0 3).2.2).2.1 (pnum bt (plab bt (pnum bt a 0 3).2.2).2.2 1 20).2.1 k.toNat V) 0 12) / 64)] rfl (by decide) (ly_n hY 195 (by decide)) (ly_k hY 195 (by decide)) hy_X7_comesNew hi_X7_comesNew hs_X7_comesNew ml_X7_219 rfl rfl (kX7_comesNew _ _ (xst (its (pnum bt a 0 3).2.1 (plab bt (pnum bt a 0 3).2.2).2.1 (pnum bt (plab bt (pnum bt a 0 3).2.2).2.2 1 20).2.1 k.toNat V) 0 12 (drw ((its (pnum bt a 0 3).2.1 (plab bt (pnum bt a 0 3).2.2).2.1 (pnum bt (plab bt (pnum bt a 0 3).2.2).2.2 1 20).2.1 k.toNat V) 0 12))) ((pnum bt a 0 3).2.1) ((plab bt ((pnum bt a 0 3).2.2)).2.1) ((pnum bt ((plab bt ((pnum bt a 0 3).2.2)).2.2) 1 20).2.1) (drw ((its (pnum bt a 0 3).2.1 (plab bt (pnum bt a 0 3).2.2).2.1 (pnum bt (plab bt (pnum bt a 0 3).2.2).2.2 1 20).2.1 k.toNat V) 0 12) / 64) hY (mr_sd hNk) (ok_seed hvi (by have := drw_b ((its (pnum bt a 0 3).2.1 (plab bt (pnum bt a 0 3).2.2).2.1 (pnum bt (plab bt (pnum bt a 0 3).2.2).2.2 1 20).2.1 k.toNat V) 0 12); omega)) (by omega)) (by decide) (by decide) (Nat.le_of_ble_eq_true rfl) dX7_readsItem_163 (fun z163 M163 h163 => ?_)
                  rw [h163.1]
                  refine x_istore G [(9, xI ((xst (its (pnum bt a 0 3).2.1 (plab bt (pnum bt a 0 3).2.2).2.1 (pnum bt (plab bt (pnum bt a 0 3).2.2).2.2 1 20).2.1 k.toNat V) 0 12 (drw ((its (pnum bt a 0 3).2.1 (plab bt (pnum bt a 0 3).2.2).2.1 (pnum bt (plab bt (pnum bt a 0 3).2.2).2.2 1 20).2.1 k.toNat V) 0 12))) 0 10)), (0, xR 195), (1, xI st), (2, xI 0), (3, xI ((pnum bt a 0 3).2.1)), (4, xI ((plab bt ((pnum bt a 0 3).2.2)).2.1)), (5, xI ((pnum bt ((plab bt ((pnum bt a 0 3).2.2)).2.2) 1 20).2.1)), (6, xI ((pnum bt ((skp bt ((pnum bt ((plab bt ((pnum bt a 0 3).2.2)).2.2) 1 20).2.2)) + 5) 1 50).2.1)), (7, xI 0), (8, xI k)] (by decide) rfl dX7_readsItem_166 ?_
                  refine x_iinc G [(8, xI (k + 1)), (9, xI ((xst (its (pnum bt a 0 3).2.1 (plab bt (pnum bt a 0 3).2.2).2.1 (pnum bt (plab bt (pnum bt a 0 3).2.2).2.2 1 20).2.1 k.toNat V) 0 12 (drw ((its (pnum bt a 0 3).2.1 (plab bt (pnum bt a 0 3).2.2).2.1 (pnum bt (plab bt (pnum bt a 0 3).2.2).2.2 1 20).2.1 k.toNat V) 0 12))) 0 10)), (0, xR 195), (1, xI st), (2, xI 0), (3, xI ((pnum bt a 0 3).2.1)), (4, xI ((plab bt ((pnum bt a 0 3).2.2)).2.1)), (5, xI ((pnum bt ((plab bt ((pnum bt a 0 3).2.2)).2.2) 1 20).2.1)), (6, xI ((pnum bt ((skp bt ((pnum bt ((plab bt ((pnum bt a 0 3).2.2)).2.2) 1 20).2.2)) + 5) 1 50).2.1)), (7, xI 0)] 9 rfl (by decide) (by omega) rfl dX7_readsItem_168 ?_
                  refine x_goto G 133 (by decide) dX7_readsItem_171 ?_
                  refine x_sub [(0, xR 195), (1, xI st), (2, xI 0), (3, xI ((pnum bt a 0 3).2.1)), (4, xI ((plab bt ((pnum bt a 0 3).2.2)).2.1)), (5, xI ((pnum bt ((plab bt ((pnum bt a 0 3).2.2)).2.2) 1 20).2.1)), (6, xI ((pnum bt ((skp bt ((pnum bt ((plab bt ((pnum bt a 0 3).2.2)).2.2) 1 20).2.2)) + 5) 1 50).2.1)), (7, xI 0), (8, xI (k + 1))] [2, 3, 4, 5, 6, 7, 8, 9, 0] rfl ?_
                  exact ih133 _ (by omega) (k + 1) M163 rfl (by omega) ((by rw [show (k + 1).toNat = k.toNat + 1 by omega]; exact h163.2.1)) (((h163.2.2.2.2 19 (by decide)).trans ((xst_nq (by omega)).trans hsp))) ((tq4_cn (tq4_st ht4 (by omega)) h163.2.2.2))
              refine x_sub [(0, xR 195), (1, xI st), (2, xI 0), (3, xI ((pnum bt a 0 3).2.1)), (4, xI ((plab bt ((pnum bt a 0 3).2.2)).2.1)), (5, xI ((pnum bt ((plab bt ((pnum bt a 0 3).2.2)).2.2) 1 20).2.1)), (6, xI ((pnum bt ((skp bt ((pnum bt ((plab bt ((pnum bt a 0 3).2.2)).2.2) 1 20).2.2)) + 5) 1 50).2.1)), (7, xI 0), (8, xI 0)] [6, 7, 8, 5, 4, 3, 1, 2, 0] rfl ?_
              exact loop133 _ 0 M95 rfl (by omega) ((mr_cg (mr_cg (mr_cg (mr_cg (mr_cg hN (h3.2.1 196 (by omega))) (h17.2.1 196 (by omega))) (h35.2.1 196 (by omega))) (h85.2.1 196 (by omega))) (h95.2.1 196 (by omega)))) (hr95.2.2.2) ((tq4_3 (tq3_tr (tq3_tr (tq3_tr (tq3_tr (tq3_tr (tq3_refl _) h3.2) h17.2) h35.2) (tq13 h85.2)) h95.2)))
            · skip
              refine x_aload_n G 5 rfl rfl dX7_readsItem_123 ?_
              refine x_iconst G (by decide) dX7_readsItem_124 ?_
              refine x_iload_n G 6 rfl rfl dX7_readsItem_125 ?_
              refine x_callVI G [] [xI 3, xI st] rfl (by decide) (ly_n hY 195 (by decide)) (ly_k hY 195 (by decide)) hy_X7_fails hi_X7_fails hs_X7_fails ml_X7_308 rfl rfl (kX7_fails _ _ 3 st hY (by omega) (by omega)) (by decide) (by decide) (Nat.le_of_ble_eq_true rfl) dX7_readsItem_126 (fun z126 M126 h126 => ?_)
              obtain ⟨hz126, rfl⟩ := h126
              rw [hz126]
              show xX Γ 0 0 n T 129 [(6, xI ((pnum bt ((skp bt ((pnum bt ((plab bt ((pnum bt a 0 3).2.2)).2.2) 1 20).2.2)) + 5) 1 50).2.1)), (7, xI 0), (5, xI ((pnum bt ((plab bt ((pnum bt a 0 3).2.2)).2.2) 1 20).2.1)), (4, xI ((plab bt ((pnum bt a 0 3).2.2)).2.1)), (3, xI ((pnum bt a 0 3).2.1)), (0, xR 195), (1, xI st), (2, xI 0)] [xI 0] (xst M95 195 20 (8 * st + 3))
              exact x_zret G (by omega) Rt dX7_readsItem_129 ⟨rfl, rfl, _, rfl, (by
          have e9 : pItm bt st a V = (8 * st + 3, 0, V) := (bnd_y hr3.1).trans ((bnd_y hr17.1).trans ((bnd_y hr35.1).trans ((bnd_cy (if_pos c88) hr95.1).trans (if_pos (by first | omega | (show 100 < V 0 10 + 1; omega))))))
          rw [e9]
          exact ⟨Or.inr ⟨by show ¬ 8 * st + 3 = -1; omega, rfl, xst_same ..⟩, (tq4_3 (tq3_st (tq3_tr (tq3_tr (tq3_tr (tq3_tr (tq3_tr (tq3_refl _) h3.2) h17.2) h35.2) (tq13 h85.2)) h95.2) (by omega)))⟩)⟩
          · skip
            have hr95 := h95.1.resolve_left (fun g => by have g1 := g.2.1; omega)
            refine x_iconst G (by decide) dX7_readsItem_101 ?_
            exact x_zret G (by omega) Rt dX7_readsItem_102 ⟨rfl, rfl, _, rfl, (by
          have e9 : pItm bt st a V = (_, 0, V) := (bnd_y hr3.1).trans ((bnd_y hr17.1).trans ((bnd_y hr35.1).trans (bnd_cn (if_pos c88) hr95.1)))
          rw [e9]
          exact ⟨Or.inr ⟨hr95.1, rfl, hr95.2.2⟩, (tq4_3 (tq3_tr (tq3_tr (tq3_tr (tq3_tr (tq3_tr (tq3_refl _) h3.2) h17.2) h35.2) (tq13 h85.2)) h95.2))⟩)⟩
      · skip
        have hr35 := h35.1.resolve_left (fun g => by have g1 := g.2.1; omega)
        refine x_iconst G (by decide) dX7_readsItem_41 ?_
        exact x_zret G (by omega) Rt dX7_readsItem_42 ⟨rfl, rfl, _, rfl, (by
          have e9 : pItm bt st a V = (_, 0, V) := (bnd_y hr3.1).trans ((bnd_y hr17.1).trans (bnd_n hr35.1))
          rw [e9]
          exact ⟨Or.inr ⟨hr35.1, rfl, hr35.2.2⟩, (tq4_3 (tq3_tr (tq3_tr (tq3_tr (tq3_refl _) h3.2) h17.2) h35.2))⟩)⟩
    · skip
      have hr17 := h17.1.resolve_left (fun g => by have g1 := g.2.1; omega)
      refine x_iconst G (by decide) dX7_readsItem_23 ?_
      exact x_zret G (by omega) Rt dX7_readsItem_24 ⟨rfl, rfl, _, rfl, (by
          have e9 : pItm bt st a V = (_, 0, V) := (bnd_y hr3.1).trans (bnd_n hr17.1)
          rw [e9]
          exact ⟨Or.inr ⟨hr17.1, rfl, hr17.2.2⟩, (tq4_3 (tq3_tr (tq3_tr (tq3_refl _) h3.2) h17.2))⟩)⟩
  · skip
    have hr3 := h3.1.resolve_left (fun g => by have g1 := g.2.1; omega)
    refine x_iconst G (by decide) dX7_readsItem_9 ?_
    exact x_zret G (by omega) Rt dX7_readsItem_10 ⟨rfl, rfl, _, rfl, (by
          have e9 : pItm bt st a V = (_, 0, V) := bnd_n hr3.1
          rw [e9]
          exact ⟨Or.inr ⟨hr3.1, rfl, hr3.2.2⟩, (tq4_3 (tq3_tr (tq3_refl _) h3.2))⟩)⟩
set_option maxRecDepth 100000 in
set_option maxHeartbeats 4000000 in
theorem kX7_readsItem1 (D : xD) (l : Launch) {n : Nat} {T : xT} {M : xM} (bt : Int → Int) (len : Int) (a : Int) (V : xM) (st : Int) (hY : LayOK n T) (hT : TB bt len) (hM : TMm M bt len) (ha : M 195 19 = a) (hal : 0 ≤ a ∧ a ≤ len) (hN : mrel (M 196) V) (hv : VOK V) (hst : 0 ≤ st ∧ st ≤ len) : xC D l uX7_readsItem 5 109 0 0 [xR 195, xI st, xI 1] n T M (xPI n T (fun z M2 => (((pKey bt st a V).1 = -1 ∧ z = 1 ∧ M2 195 19 = (pKey bt st a V).2.1 ∧ mrel (M2 196) (pKey bt st a V).2.2 ∧ VOK (pKey bt st a V).2.2) ∨ (¬ (pKey bt st a V).1 = -1 ∧ z = 0 ∧ M2 195 20 = (pKey bt st a V).1)) ∧ tq4 M M2)) := by
  refine x_met uX7_readsItem (by decide) (Nat.le_of_ble_eq_true rfl) ?_
  intro Γ G Rt _
  have G : xG Γ RX7 cX7_readsItem 10 5 109 0 0 := G
  have Rt : xRt Γ (xPI n T (fun z M2 => (((pKey bt st a V).1 = -1 ∧ z = 1 ∧ M2 195 19 = (pKey bt st a V).2.1 ∧ mrel (M2 196) (pKey bt st a V).2.2 ∧ VOK (pKey bt st a V).2.2) ∨ (¬ (pKey bt st a V).1 = -1 ∧ z = 0 ∧ M2 195 20 = (pKey bt st a V).1)) ∧ tq4 M M2)) (some .boolean) 0 0 := Rt
  show xX Γ 0 0 n T 0 [(0, xR 195), (1, xI st), (2, xI 1)] [] M
  have hlb := hT.1
  have hMl := hM.1
  have hsc := hv.1
  refine x_aload_n G 0 rfl rfl dX7_readsItem_0 ?_
  refine x_iconst G (by decide) dX7_readsItem_1 ?_
  refine x_iconst G (by decide) dX7_readsItem_2 ?_
  refine x_callVI G [] [xI 0, xI 3] rfl (by decide) (ly_n hY 195 (by decide)) (ly_k hY 195 (by decide)) hy_X7_readsNumber hi_X7_readsNumber hs_X7_readsNumber ml_X7_314 rfl rfl (kX7_readsNumber _ _ bt len a 0 3 hY hT hM ha (by omega) (by decide) (by decide)) (by decide) (by decide) (Nat.le_of_ble_eq_true rfl) dX7_readsItem_3 (fun z3 M3 h3 => ?_)
  have hpb3 := pnum_b (lo := 0) (hi := 3) hT (show 0 ≤ a by omega) (show a ≤ len by omega)
  refine x_if_ne G 11 (by decide) dX7_readsItem_6 (fun c6 => ?_) (fun c6 => ?_)
  · skip
    have hr3 := h3.1.resolve_right (fun g => c6 g.2.1)
    have hrb3 := hpb3.resolve_right (fun g => by have g1 := hr3.1; omega)
    refine x_aload_n G 0 rfl rfl dX7_readsItem_11 ?_
    refine x_get G (xI (M3 195 21)) xf7_21 lk_X7_311 (ly_n hY 195 (by decide)) (ly_k hY 195 (by decide)) (Or.inl ⟨rfl, rfl⟩) dX7_readsItem_12 ?_
    rw [show M3 195 21 = (pnum bt a 0 3).2.1 from hr3.2.2.1]
    refine x_istore_n G [(3, xI ((pnum bt a 0 3).2.1)), (0, xR 195), (1, xI st), (2, xI 1)] rfl (by decide) rfl dX7_readsItem_15 ?_
    refine x_aload_n G 1 rfl rfl dX7_readsItem_16 ?_
    refine x_callVI G [] [] rfl (by decide) (ly_n hY 195 (by decide)) (ly_k hY 195 (by decide)) hy_X7_readsLabel hi_X7_readsLabel hs_X7_readsLabel ml_X7_318 rfl rfl (kX7_readsLabel _ _ bt len ((pnum bt a 0 3).2.2) hY hT (tmm_3 hM h3.2) hr3.2.2.2 (by omega)) (by decide) (by decide) (Nat.le_of_ble_eq_true rfl) dX7_readsItem_17 (fun z17 M17 h17 => ?_)
    have hpb17 := plab_b hT (show 0 ≤ (pnum bt a 0 3).2.2 by omega) (show (pnum bt a 0 3).2.2 ≤ len by omega)
    refine x_if_ne G 25 (by decide) dX7_readsItem_20 (fun c20 => ?_) (fun c20 => ?_)
    · skip
      have hr17 := h17.1.resolve_right (fun g => c20 g.2.1)
      have hrb17 := hpb17.resolve_right (fun g => by have g1 := hr17.1; omega)
      refine x_aload_n G 1 rfl rfl dX7_readsItem_25 ?_
      refine x_get G (xI (M17 195 21)) xf7_21 lk_X7_311 (ly_n hY 195 (by decide)) (ly_k hY 195 (by decide)) (Or.inl ⟨rfl, rfl⟩) dX7_readsItem_26 ?_
      rw [show M17 195 21 = (plab bt ((pnum bt a 0 3).2.2)).2.1 from hr17.2.2.1]
      refine x_istore G [(4, xI ((plab bt ((pnum bt a 0 3).2.2)).2.1)), (3, xI ((pnum bt a 0 3).2.1)), (0, xR 195), (1, xI st), (2, xI 1)] (by decide) rfl dX7_readsItem_29 ?_
      refine x_aload_n G 2 rfl rfl dX7_readsItem_31 ?_
      refine x_iconst G (by decide) dX7_readsItem_32 ?_
      refine x_bipush G (by decide) dX7_readsItem_33 ?_
      refine x_callVI G [] [xI 1, xI 20] rfl (by decide) (ly_n hY 195 (by decide)) (ly_k hY 195 (by decide)) hy_X7_readsNumber hi_X7_readsNumber hs_X7_readsNumber ml_X7_314 rfl rfl (kX7_readsNumber _ _ bt len ((plab bt ((pnum bt a 0 3).2.2)).2.2) 1 20 hY hT (tmm_3 (tmm_3 hM h3.2) h17.2) hr17.2.2.2 (by omega) (by decide) (by decide)) (by decide) (by decide) (Nat.le_of_ble_eq_true rfl) dX7_readsItem_35 (fun z35 M35 h35 => ?_)
      have hpb35 := pnum_b (lo := 1) (hi := 20) hT (show 0 ≤ (plab bt ((pnum bt a 0 3).2.2)).2.2 by omega) (show (plab bt ((pnum bt a 0 3).2.2)).2.2 ≤ len by omega)
      refine x_if_ne G 43 (by decide) dX7_readsItem_38 (fun c38 => ?_) (fun c38 => ?_)
      · skip
        have hr35 := h35.1.resolve_right (fun g => c38 g.2.1)
        have hrb35 := hpb35.resolve_right (fun g => by have g1 := hr35.1; omega)
        refine x_aload_n G 2 rfl rfl dX7_readsItem_43 ?_
        refine x_get G (xI (M35 195 21)) xf7_21 lk_X7_311 (ly_n hY 195 (by decide)) (ly_k hY 195 (by decide)) (Or.inl ⟨rfl, rfl⟩) dX7_readsItem_44 ?_
        rw [show M35 195 21 = (pnum bt ((plab bt ((pnum bt a 0 3).2.2)).2.2) 1 20).2.1 from hr35.2.2.1]
        refine x_istore G [(5, xI ((pnum bt ((plab bt ((pnum bt a 0 3).2.2)).2.2) 1 20).2.1)), (4, xI ((plab bt ((pnum bt a 0 3).2.2)).2.1)), (3, xI ((pnum bt a 0 3).2.1)), (0, xR 195), (1, xI st), (2, xI 1)] (by decide) rfl dX7_readsItem_47 ?_
        refine x_iconst G (by decide) dX7_readsItem_49 ?_
        refine x_istore G [(6, xI 1), (5, xI ((pnum bt ((plab bt ((pnum bt a 0 3).2.2)).2.2) 1 20).2.1)), (4, xI ((plab bt ((pnum bt a 0 3).2.2)).2.1)), (3, xI ((pnum bt a 0 3).2.1)), (0, xR 195), (1, xI st), (2, xI 1)] (by decide) rfl dX7_readsItem_50 ?_
        refine x_iconst G (by decide) dX7_readsItem_52 ?_
        refine x_istore G [(7, xI 0), (6, xI 1), (5, xI ((pnum bt ((plab bt ((pnum bt a 0 3).2.2)).2.2) 1 20).2.1)), (4, xI ((plab bt ((pnum bt a 0 3).2.2)).2.1)), (3, xI ((pnum bt a 0 3).2.1)), (0, xR 195), (1, xI st), (2, xI 1)] (by decide) rfl dX7_readsItem_53 ?_
        refine x_iload_n G 7 rfl rfl dX7_readsItem_55 ?_
        refine x_if_eq G 81 (by decide) dX7_readsItem_56 (fun c56 => absurd c56 (by decide)) (fun _ => ?_)
        refine x_aload_n G 5 rfl rfl dX7_readsItem_59 ?_
        refine x_iconst G (by decide) dX7_readsItem_60 ?_
        refine x_sipush G (by decide) dX7_readsItem_61 ?_
        refine x_callVI G [] [xI 1, xI 1023] rfl (by decide) (ly_n hY 195 (by decide)) (ly_k hY 195 (by decide)) hy_X7_readsNumber hi_X7_readsNumber hs_X7_readsNumber ml_X7_314 rfl rfl (kX7_readsNumber _ _ bt len ((pnum bt ((plab bt ((pnum bt a 0 3).2.2)).2.2) 1 20).2.2) 1 1023 hY hT (tmm_3 (tmm_3 (tmm_3 hM h3.2) h17.2) h35.2) hr35.2.2.2 (by omega) (by decide) (by decide)) (by decide) (by decide) (Nat.le_of_ble_eq_true rfl) dX7_readsItem_64 (fun z64 M64 h64 => ?_)
        have hpb64 := pnum_b (lo := 1) (hi := 1023) hT (show 0 ≤ (pnum bt ((plab bt ((pnum bt a 0 3).2.2)).2.2) 1 20).2.2 by omega) (show (pnum bt ((plab bt ((pnum bt a 0 3).2.2)).2.2) 1 20).2.2 ≤ len by omega)
        refine x_if_ne G 72 (by decide) dX7_readsItem_67 (fun c67 => ?_) (fun c67 => ?_)
        · skip
          have hr64 := h64.1.resolve_right (fun g => c67 g.2.1)
          have hrb64 := hpb64.resolve_right (fun g => by have g1 := hr64.1; omega)
          refine x_aload_n G 5 rfl rfl dX7_readsItem_72 ?_
          refine x_get G (xI (M64 195 21)) xf7_21 lk_X7_311 (ly_n hY 195 (by decide)) (ly_k hY 195 (by decide)) (Or.inl ⟨rfl, rfl⟩) dX7_readsItem_73 ?_
          rw [show M64 195 21 = (pnum bt ((pnum bt ((plab bt ((pnum bt a 0 3).2.2)).2.2) 1 20).2.2) 1 1023).2.1 from hr64.2.2.1]
          refine x_istore G [(7, xI ((pnum bt ((pnum bt ((plab bt ((pnum bt a 0 3).2.2)).2.2) 1 20).2.2) 1 1023).2.1)), (6, xI 1), (5, xI ((pnum bt ((plab bt ((pnum bt a 0 3).2.2)).2.2) 1 20).2.1)), (4, xI ((plab bt ((pnum bt a 0 3).2.2)).2.1)), (3, xI ((pnum bt a 0 3).2.1)), (0, xR 195), (1, xI st), (2, xI 1)] (by decide) rfl dX7_readsItem_76 ?_
          refine x_goto G 109 (by decide) dX7_readsItem_78 ?_
          refine x_aload_n G 5 rfl rfl dX7_readsItem_109 ?_
          refine x_get G (xR 196) xf7_0 lk_X7_7 (ly_n hY 195 (by decide)) (ly_k hY 195 (by decide)) (Or.inr ⟨rfl, _, (ly_r hY 195 0 (by decide) (by decide)), rfl⟩) dX7_readsItem_110 ?_
          refine x_iconst G (by decide) dX7_readsItem_113 ?_
          refine x_iald G (ly_n hY 196 (by decide)) (ly_k hY 196 (by decide)) (show _ = 511 from ly_l hY 196 (by decide)) (by omega) (by omega) dX7_readsItem_114 ?_
          show xX Γ 0 0 n T 115 [(7, xI ((pnum bt ((pnum bt ((plab bt ((pnum bt a 0 3).2.2)).2.2) 1 20).2.2) 1 1023).2.1)), (6, xI 1), (5, xI ((pnum bt ((plab bt ((pnum bt a 0 3).2.2)).2.2) 1 20).2.1)), (4, xI ((plab bt ((pnum bt a 0 3).2.2)).2.1)), (3, xI ((pnum bt a 0 3).2.1)), (0, xR 195), (1, xI st), (2, xI 1)] [xI (M64 196 2)] M64
          rw [show M64 196 2 = (V 0 10) from (mr_cg (mr_cg (mr_cg (mr_cg hN (h3.2.1 196 (by omega))) (h17.2.1 196 (by omega))) (h35.2.1 196 (by omega))) (h64.2.1 196 (by omega))).1.2.2]
          refine x_iload G 1 rfl dX7_readsItem_115 ?_
          refine x_iadd G (by omega) dX7_readsItem_117 ?_
          refine x_bipush G (by decide) dX7_readsItem_118 ?_
          refine x_icmp_le G 130 (by decide) dX7_readsItem_120 (fun c120 => ?_) (fun c120 => ?_)
          · skip
            refine x_iconst G (by decide) dX7_readsItem_130 ?_
            refine x_istore G [(8, xI 0), (7, xI ((pnum bt ((pnum bt ((plab bt ((pnum bt a 0 3).2.2)).2.2) 1 20).2.2) 1 1023).2.1)), (6, xI 1), (5, xI ((pnum bt ((plab bt ((pnum bt a 0 3).2.2)).2.2) 1 20).2.1)), (4, xI ((plab bt ((pnum bt a 0 3).2.2)).2.1)), (3, xI ((pnum bt a 0 3).2.1)), (0, xR 195), (1, xI st), (2, xI 1)] (by decide) rfl dX7_readsItem_131 ?_
            refine x_iload G 0 rfl dX7_readsItem_133 ?_
            refine x_iload G 2 rfl dX7_readsItem_135 ?_
            refine x_icmp_ge G 174 (by decide) dX7_readsItem_137 (fun c137 => absurd c137 (by decide)) (fun _ => ?_)
            refine x_aload_n G 6 rfl rfl dX7_readsItem_140 ?_
            refine x_iload_n G 5 rfl rfl dX7_readsItem_141 ?_
            refine x_iload G 4 rfl dX7_readsItem_142 ?_
            refine x_iload G 3 rfl dX7_readsItem_144 ?_
            refine x_iload_n G 8 rfl rfl dX7_readsItem_146 ?_
            refine x_if_eq G 155 (by decide) dX7_readsItem_147 (fun c147 => absurd c147 (by decide)) (fun _ => ?_)
            refine x_iload G 1 rfl dX7_readsItem_150 ?_
            refine x_goto G 163 (by decide) dX7_readsItem_152 ?_
            refine x_callVI G [] [xI ((pnum bt a 0 3).2.1), xI ((plab bt ((pnum bt a 0 3).2.2)).2.1), xI ((pnum bt ((plab bt ((pnum bt a 0 3).2.2)).2.2) 1 20).2.1), xI ((pnum bt ((pnum bt ((plab bt ((pnum bt a 0 3).2.2)).2.2) 1 20).2.2) 1 1023).2.1)] rfl (by decide) (ly_n hY 195 (by decide)) (ly_k hY 195 (by decide)) hy_X7_comesNew hi_X7_comesNew hs_X7_comesNew ml_X7_219 rfl rfl (kX7_comesNew _ _ V ((pnum bt a 0 3).2.1) ((plab bt ((pnum bt a 0 3).2.2)).2.1) ((pnum bt ((plab bt ((pnum bt a 0 3).2.2)).2.2) 1 20).2.1) ((pnum bt ((pnum bt ((plab bt ((pnum bt a 0 3).2.2)).2.2) 1 20).2.2) 1 1023).2.1) hY (mr_cg (mr_cg (mr_cg (mr_cg hN (h3.2.1 196 (by omega))) (h17.2.1 196 (by omega))) (h35.2.1 196 (by omega))) (h64.2.1 196 (by omega))) hv (by omega)) (by decide) (by decide) (Nat.le_of_ble_eq_true rfl) dX7_readsItem_163 (fun z163 M163 h163 => ?_)
            rw [h163.1]
            refine x_istore G [(9, xI (V 0 10)), (8, xI 0), (7, xI ((pnum bt ((pnum bt ((plab bt ((pnum bt a 0 3).2.2)).2.2) 1 20).2.2) 1 1023).2.1)), (6, xI 1), (5, xI ((pnum bt ((plab bt ((pnum bt a 0 3).2.2)).2.2) 1 20).2.1)), (4, xI ((plab bt ((pnum bt a 0 3).2.2)).2.1)), (3, xI ((pnum bt a 0 3).2.1)), (0, xR 195), (1, xI st), (2, xI 1)] (by decide) rfl dX7_readsItem_166 ?_
            refine x_iinc G [(8, xI 1), (9, xI (V 0 10)), (7, xI ((pnum bt ((pnum bt ((plab bt ((pnum bt a 0 3).2.2)).2.2) 1 20).2.2) 1 1023).2.1)), (6, xI 1), (5, xI ((pnum bt ((plab bt ((pnum bt a 0 3).2.2)).2.2) 1 20).2.1)), (4, xI ((plab bt ((pnum bt a 0 3).2.2)).2.1)), (3, xI ((pnum bt a 0 3).2.1)), (0, xR 195), (1, xI st), (2, xI 1)] 1 rfl (by decide) (by omega) rfl dX7_readsItem_168 ?_
            refine x_goto G 133 (by decide) dX7_readsItem_171 ?_
            refine x_iload G 0 rfl dX7_readsItem_133 ?_
            refine x_iload G 3 rfl dX7_readsItem_135 ?_
            refine x_icmp_ge G 174 (by decide) dX7_readsItem_137 (fun _ => ?_) (fun c137 => absurd c137 (by decide))
            refine x_iconst G (by decide) dX7_readsItem_174 ?_
            exact x_zret G (by omega) Rt dX7_readsItem_175 ⟨rfl, rfl, _, rfl, (by
          have e9 : pKey bt st a V = (-1, (pnum bt ((pnum bt ((plab bt ((pnum bt a 0 3).2.2)).2.2) 1 20).2.2) 1 1023).2.2, (addV V ((pnum bt a 0 3).2.1) ((plab bt ((pnum bt a 0 3).2.2)).2.1) ((pnum bt ((plab bt ((pnum bt a 0 3).2.2)).2.2) 1 20).2.1) ((pnum bt ((pnum bt ((plab bt ((pnum bt a 0 3).2.2)).2.2) 1 20).2.2) 1 1023).2.1))) := (bnd_y hr3.1).trans ((bnd_y hr17.1).trans ((bnd_y hr35.1).trans ((bnd_y hr64.1).trans (if_neg (by omega)))))
          rw [e9]
          exact ⟨Or.inl ⟨rfl, rfl, ((h163.2.2.2.2 19 (by decide)).trans hr64.2.2.2), h163.2.1, (addV_ok hv (by omega) (by omega) (by omega) (by omega) (by omega))⟩, (tq4_cn (tq4_3 (tq3_tr (tq3_tr (tq3_tr (tq3_tr (tq3_refl _) h3.2) h17.2) h35.2) h64.2)) h163.2.2.2)⟩)⟩
          · skip
            refine x_aload_n G 5 rfl rfl dX7_readsItem_123 ?_
            refine x_iconst G (by decide) dX7_readsItem_124 ?_
            refine x_iload_n G 6 rfl rfl dX7_readsItem_125 ?_
            refine x_callVI G [] [xI 3, xI st] rfl (by decide) (ly_n hY 195 (by decide)) (ly_k hY 195 (by decide)) hy_X7_fails hi_X7_fails hs_X7_fails ml_X7_308 rfl rfl (kX7_fails _ _ 3 st hY (by omega) (by omega)) (by decide) (by decide) (Nat.le_of_ble_eq_true rfl) dX7_readsItem_126 (fun z126 M126 h126 => ?_)
            obtain ⟨hz126, rfl⟩ := h126
            rw [hz126]
            show xX Γ 0 0 n T 129 [(7, xI ((pnum bt ((pnum bt ((plab bt ((pnum bt a 0 3).2.2)).2.2) 1 20).2.2) 1 1023).2.1)), (6, xI 1), (5, xI ((pnum bt ((plab bt ((pnum bt a 0 3).2.2)).2.2) 1 20).2.1)), (4, xI ((plab bt ((pnum bt a 0 3).2.2)).2.1)), (3, xI ((pnum bt a 0 3).2.1)), (0, xR 195), (1, xI st), (2, xI 1)] [xI 0] (xst M64 195 20 (8 * st + 3))
            exact x_zret G (by omega) Rt dX7_readsItem_129 ⟨rfl, rfl, _, rfl, (by
          have e9 : pKey bt st a V = (8 * st + 3, 0, V) := (bnd_y hr3.1).trans ((bnd_y hr17.1).trans ((bnd_y hr35.1).trans ((bnd_y hr64.1).trans (if_pos (by omega)))))
          rw [e9]
          exact ⟨Or.inr ⟨by show ¬ 8 * st + 3 = -1; omega, rfl, xst_same ..⟩, (tq4_3 (tq3_st (tq3_tr (tq3_tr (tq3_tr (tq3_tr (tq3_refl _) h3.2) h17.2) h35.2) h64.2) (by omega)))⟩)⟩
        · skip
          have hr64 := h64.1.resolve_left (fun g => by have g1 := g.2.1; omega)
          refine x_iconst G (by decide) dX7_readsItem_70 ?_
          exact x_zret G (by omega) Rt dX7_readsItem_71 ⟨rfl, rfl, _, rfl, (by
          have e9 : pKey bt st a V = (_, 0, V) := (bnd_y hr3.1).trans ((bnd_y hr17.1).trans ((bnd_y hr35.1).trans (bnd_n hr64.1)))
          rw [e9]
          exact ⟨Or.inr ⟨hr64.1, rfl, hr64.2.2⟩, (tq4_3 (tq3_tr (tq3_tr (tq3_tr (tq3_tr (tq3_refl _) h3.2) h17.2) h35.2) h64.2))⟩)⟩
      · skip
        have hr35 := h35.1.resolve_left (fun g => by have g1 := g.2.1; omega)
        refine x_iconst G (by decide) dX7_readsItem_41 ?_
        exact x_zret G (by omega) Rt dX7_readsItem_42 ⟨rfl, rfl, _, rfl, (by
          have e9 : pKey bt st a V = (_, 0, V) := (bnd_y hr3.1).trans ((bnd_y hr17.1).trans (bnd_n hr35.1))
          rw [e9]
          exact ⟨Or.inr ⟨hr35.1, rfl, hr35.2.2⟩, (tq4_3 (tq3_tr (tq3_tr (tq3_tr (tq3_refl _) h3.2) h17.2) h35.2))⟩)⟩
    · skip
      have hr17 := h17.1.resolve_left (fun g => by have g1 := g.2.1; omega)
      refine x_iconst G (by decide) dX7_readsItem_23 ?_
      exact x_zret G (by omega) Rt dX7_readsItem_24 ⟨rfl, rfl, _, rfl, (by
          have e9 : pKey bt st a V = (_, 0, V) := (bnd_y hr3.1).trans (bnd_n hr17.1)
          rw [e9]
          exact ⟨Or.inr ⟨hr17.1, rfl, hr17.2.2⟩, (tq4_3 (tq3_tr (tq3_tr (tq3_refl _) h3.2) h17.2))⟩)⟩
  · skip
    have hr3 := h3.1.resolve_left (fun g => by have g1 := g.2.1; omega)
    refine x_iconst G (by decide) dX7_readsItem_9 ?_
    exact x_zret G (by omega) Rt dX7_readsItem_10 ⟨rfl, rfl, _, rfl, (by
          have e9 : pKey bt st a V = (_, 0, V) := bnd_n hr3.1
          rw [e9]
          exact ⟨Or.inr ⟨hr3.1, rfl, hr3.2.2⟩, (tq4_3 (tq3_tr (tq3_refl _) h3.2))⟩)⟩
set_option maxRecDepth 100000 in
set_option maxHeartbeats 4000000 in
theorem kX7_readsStatement (D : xD) (l : Launch) {n : Nat} {T : xT} {M : xM} (bt : Int → Int) (len : Int) (a : Int) (V : xM) (hY : LayOK n T) (hT : TB bt len) (hM : TMm M bt len) (ha : M 195 19 = a) (hal : 0 ≤ a ∧ a ≤ len) (hN : mrel (M 196) V) (hv : VOK V) : xC D l uX7_readsStatement 6 138 0 0 [xR 195] n T M (xPI n T (fun z M2 => (((pStm bt a V).1 = -1 ∧ z = 1 ∧ M2 195 19 = (pStm bt a V).2.1 ∧ mrel (M2 196) (pStm bt a V).2.2 ∧ VOK (pStm bt a V).2.2) ∨ (¬ (pStm bt a V).1 = -1 ∧ z = 0 ∧ M2 195 20 = (pStm bt a V).1)) ∧ tq4 M M2)) := by
  refine x_met uX7_readsStatement (by decide) (Nat.le_of_ble_eq_true rfl) ?_
  intro Γ G Rt _
  have G : xG Γ RX7 cX7_readsStatement 3 6 138 0 0 := G
  have Rt : xRt Γ (xPI n T (fun z M2 => (((pStm bt a V).1 = -1 ∧ z = 1 ∧ M2 195 19 = (pStm bt a V).2.1 ∧ mrel (M2 196) (pStm bt a V).2.2 ∧ VOK (pStm bt a V).2.2) ∨ (¬ (pStm bt a V).1 = -1 ∧ z = 0 ∧ M2 195 20 = (pStm bt a V).1)) ∧ tq4 M M2)) (some .boolean) 0 0 := Rt
  show xX Γ 0 0 n T 0 [(0, xR 195)] [] M
  have hlb := hT.1
  have hMl := hM.1
  have hsc := hv.1
  refine x_aload_n G 0 rfl rfl dX7_readsStatement_0 ?_
  refine x_callVI G [] [] rfl (by decide) (ly_n hY 195 (by decide)) (ly_k hY 195 (by decide)) hy_X7_nextByte hi_X7_nextByte hs_X7_nextByte ml_X7_297 rfl rfl (kX7_nextByte _ _ bt len a hY hT hM ha (by omega)) (by decide) (by decide) (Nat.le_of_ble_eq_true rfl) dX7_readsStatement_1 (fun z1 M1 h1 => ?_)
  rw [h1.1.1]
  have hsk1 := skp_b hT (show a ≤ len by omega)
  have hss : skp bt (skp bt a) = skp bt a := skp_id hsk1.2.2
  refine x_istore_n G [(1, xI (bt (skp bt a))), (0, xR 195)] rfl (by decide) rfl dX7_readsStatement_4 ?_
  refine x_aload_n G 1 rfl rfl dX7_readsStatement_5 ?_
  refine x_get G (xI (M1 195 19)) xf7_19 lk_X7_288 (ly_n hY 195 (by decide)) (ly_k hY 195 (by decide)) (Or.inl ⟨rfl, rfl⟩) dX7_readsStatement_6 ?_
  rw [show M1 195 19 = (skp bt a) from h1.1.2]
  refine x_istore_n G [(2, xI (skp bt a)), (1, xI (bt (skp bt a))), (0, xR 195)] rfl (by decide) rfl dX7_readsStatement_9 ?_
  refine x_aload_n G 2 rfl rfl dX7_readsStatement_10 ?_
  refine x_ldcSw G (i := 12) rfl dX7_readsStatement_11 ?_
  refine x_callVI G [] [xR (1000000 + 12)] rfl (by decide) (ly_n hY 195 (by decide)) (ly_k hY 195 (by decide)) hy_X7_takesWord hi_X7_takesWord hs_X7_takesWord ml_X7_323 rfl rfl (kX7_takesWord _ _ bt len (skp bt a) 12 wSize hY hT (tmm_1 hM h1.2) h1.1.2 (by omega) ⟨_, _, _, rfl⟩) (by decide) (by decide) (Nat.le_of_ble_eq_true rfl) dX7_readsStatement_14 (fun z14 M14 h14 => ?_)
  rw [hss] at h14
  rw [h14.1.1]
  refine x_if_eq G 25 (by decide) dX7_readsStatement_17 (fun c17 => ?_) (fun c17 => ?_)
  · skip
    have c17 := b2i_eq0.mp c17
    skip
    refine x_aload_n G 2 rfl rfl dX7_readsStatement_25 ?_
    refine x_ldcSw G (i := 13) rfl dX7_readsStatement_26 ?_
    refine x_callVI G [] [xR (1000000 + 13)] rfl (by decide) (ly_n hY 195 (by decide)) (ly_k hY 195 (by decide)) hy_X7_takesWord hi_X7_takesWord hs_X7_takesWord ml_X7_323 rfl rfl (kX7_takesWord _ _ bt len (skp bt a) 13 wWindow hY hT (tmm_1 (tmm_1 hM h1.2) h14.2) (h14.1.2.2 c17) (by omega) ⟨_, _, _, rfl⟩) (by decide) (by decide) (Nat.le_of_ble_eq_true rfl) dX7_readsStatement_29 (fun z29 M29 h29 => ?_)
    rw [hss] at h29
    rw [h29.1.1]
    refine x_if_eq G 40 (by decide) dX7_readsStatement_32 (fun c32 => ?_) (fun c32 => ?_)
    · skip
      have c32 := b2i_eq0.mp c32
      skip
      refine x_aload_n G 2 rfl rfl dX7_readsStatement_40 ?_
      refine x_ldcSw G (i := 16) rfl dX7_readsStatement_41 ?_
      refine x_callVI G [] [xR (1000000 + 16)] rfl (by decide) (ly_n hY 195 (by decide)) (ly_k hY 195 (by decide)) hy_X7_takesWord hi_X7_takesWord hs_X7_takesWord ml_X7_323 rfl rfl (kX7_takesWord _ _ bt len (skp bt a) 16 wSeed hY hT (tmm_1 (tmm_1 (tmm_1 hM h1.2) h14.2) h29.2) (h29.1.2.2 c32) (by omega) ⟨_, _, _, rfl⟩) (by decide) (by decide) (Nat.le_of_ble_eq_true rfl) dX7_readsStatement_44 (fun z44 M44 h44 => ?_)
      rw [hss] at h44
      rw [h44.1.1]
      refine x_if_eq G 55 (by decide) dX7_readsStatement_47 (fun c47 => ?_) (fun c47 => ?_)
      · skip
        have c47 := b2i_eq0.mp c47
        skip
        refine x_aload_n G 2 rfl rfl dX7_readsStatement_55 ?_
        refine x_ldcS G (i := 14) rfl dX7_readsStatement_56 ?_
        refine x_callVI G [] [xR (1000000 + 14)] rfl (by decide) (ly_n hY 195 (by decide)) (ly_k hY 195 (by decide)) hy_X7_takesWord hi_X7_takesWord hs_X7_takesWord ml_X7_323 rfl rfl (kX7_takesWord _ _ bt len (skp bt a) 14 wWait hY hT (tmm_1 (tmm_1 (tmm_1 (tmm_1 hM h1.2) h14.2) h29.2) h44.2) (h44.1.2.2 c47) (by omega) ⟨_, _, _, rfl⟩) (by decide) (by decide) (Nat.le_of_ble_eq_true rfl) dX7_readsStatement_58 (fun z58 M58 h58 => ?_)
        rw [hss] at h58
        rw [h58.1.1]
        refine x_if_eq G 70 (by decide) dX7_readsStatement_61 (fun c61 => ?_) (fun c61 => ?_)
        · skip
          have c61 := b2i_eq0.mp c61
          skip
          refine x_aload_n G 2 rfl rfl dX7_readsStatement_70 ?_
          refine x_ldcSw G (i := 17) rfl dX7_readsStatement_71 ?_
          refine x_callVI G [] [xR (1000000 + 17)] rfl (by decide) (ly_n hY 195 (by decide)) (ly_k hY 195 (by decide)) hy_X7_takesWord hi_X7_takesWord hs_X7_takesWord ml_X7_323 rfl rfl (kX7_takesWord _ _ bt len (skp bt a) 17 wItem hY hT (tmm_1 (tmm_1 (tmm_1 (tmm_1 (tmm_1 hM h1.2) h14.2) h29.2) h44.2) h58.2) (h58.1.2.2 c61) (by omega) ⟨_, _, _, rfl⟩) (by decide) (by decide) (Nat.le_of_ble_eq_true rfl) dX7_readsStatement_74 (fun z74 M74 h74 => ?_)
          rw [hss] at h74
          rw [h74.1.1]
          refine x_if_eq G 87 (by decide) dX7_readsStatement_77 (fun c77 => ?_) (fun c77 => ?_)
          · skip
            have c77 := b2i_eq0.mp c77
            skip
            refine x_aload_n G 2 rfl rfl dX7_readsStatement_87 ?_
            refine x_ldcSw G (i := 15) rfl dX7_readsStatement_88 ?_
            refine x_callVI G [] [xR (1000000 + 15)] rfl (by decide) (ly_n hY 195 (by decide)) (ly_k hY 195 (by decide)) hy_X7_takesWord hi_X7_takesWord hs_X7_takesWord ml_X7_323 rfl rfl (kX7_takesWord _ _ bt len (skp bt a) 15 wKey hY hT (tmm_1 (tmm_1 (tmm_1 (tmm_1 (tmm_1 (tmm_1 hM h1.2) h14.2) h29.2) h44.2) h58.2) h74.2) (h74.1.2.2 c77) (by omega) ⟨_, _, _, rfl⟩) (by decide) (by decide) (Nat.le_of_ble_eq_true rfl) dX7_readsStatement_91 (fun z91 M91 h91 => ?_)
            rw [hss] at h91
            rw [h91.1.1]
            refine x_if_eq G 106 (by decide) dX7_readsStatement_94 (fun c94 => ?_) (fun c94 => ?_)
            · skip
              have c94 := b2i_eq0.mp c94
              skip
              refine x_aload_n G 2 rfl rfl dX7_readsStatement_106 ?_
              refine x_iconst G (by decide) dX7_readsStatement_107 ?_
              refine x_iload_n G 0 rfl rfl dX7_readsStatement_108 ?_
              refine x_callVI G [] [xI 1, xI (skp bt a)] rfl (by decide) (ly_n hY 195 (by decide)) (ly_k hY 195 (by decide)) hy_X7_fails hi_X7_fails hs_X7_fails ml_X7_308 rfl rfl (kX7_fails _ _ 1 (skp bt a) hY (by omega) (by omega)) (by decide) (by decide) (Nat.le_of_ble_eq_true rfl) dX7_readsStatement_109 (fun z109 M109 h109 => ?_)
              obtain ⟨hz109, rfl⟩ := h109
              rw [hz109]
              show xX Γ 0 0 n T 112 [(2, xI (skp bt a)), (1, xI (bt (skp bt a))), (0, xR 195)] [xI 0] (xst M91 195 20 (8 * (skp bt a) + 1))
              exact x_zret G (by omega) Rt dX7_readsStatement_112 ⟨rfl, rfl, _, rfl, (by
          have e9 : pStm bt a V = (8 * skp bt a + 1, 0, V) := by unfold pStm; rw [if_neg c17, if_neg c32, if_neg c47, if_neg c61, if_neg c77, if_neg c94]
          rw [e9]
          exact ⟨Or.inr ⟨by show ¬ 8 * skp bt a + 1 = -1; omega, rfl, xst_same ..⟩, (tq4_3 (tq3_st (tq3_tr (tq3_tr (tq3_tr (tq3_tr (tq3_tr (tq3_tr (tq3_tr (tq3_refl _) (tq13 h1.2)) (tq13 h14.2)) (tq13 h29.2)) (tq13 h44.2)) (tq13 h58.2)) (tq13 h74.2)) (tq13 h91.2)) (by omega)))⟩)⟩
            · skip
              have c94 := b2i_ne0.mp c94
              have hty91 := (h91.1.2.1 c94).2; have hlw91 : (wKey.length : Int) = 3 := rfl
              refine x_aload_n G 2 rfl rfl dX7_readsStatement_97 ?_
              refine x_iload_n G 0 rfl rfl dX7_readsStatement_98 ?_
              refine x_iconst G (by decide) dX7_readsStatement_99 ?_
              refine x_callVI G [] [xI (skp bt a), xI 1] rfl (by decide) (ly_n hY 195 (by decide)) (ly_k hY 195 (by decide)) hy_X7_readsItem hi_X7_readsItem hs_X7_readsItem ml_X7_340 rfl rfl (kX7_readsItem1 _ _ bt len ((skp bt a) + 3) V (skp bt a) hY hT (tmm_1 (tmm_1 (tmm_1 (tmm_1 (tmm_1 (tmm_1 (tmm_1 hM h1.2) h14.2) h29.2) h44.2) h58.2) h74.2) h91.2) (h91.1.2.1 c94).1 (by omega) (mr_cg (mr_cg (mr_cg (mr_cg (mr_cg (mr_cg (mr_cg hN (h1.2.1 196 (by omega))) (h14.2.1 196 (by omega))) (h29.2.1 196 (by omega))) (h44.2.1 196 (by omega))) (h58.2.1 196 (by omega))) (h74.2.1 196 (by omega))) (h91.2.1 196 (by omega))) hv (by omega)) (by decide) (by decide) (Nat.le_of_ble_eq_true rfl) dX7_readsStatement_100 (fun z100 M100 h100 => ?_)
              refine x_goto G 112 (by decide) dX7_readsStatement_103 ?_
              exact x_zret G (by omega) Rt dX7_readsStatement_112 ⟨rfl, rfl, _, rfl, (by
          have e9 : pStm bt a V = pKey bt (skp bt a) (skp bt a + 3) V := by unfold pStm; rw [if_neg c17, if_neg c32, if_neg c47, if_neg c61, if_neg c77, if_pos c94]
          rw [e9]
          exact ⟨h100.1, tq4_tr (tq4_3 (tq3_tr (tq3_tr (tq3_tr (tq3_tr (tq3_tr (tq3_tr (tq3_tr (tq3_refl _) (tq13 h1.2)) (tq13 h14.2)) (tq13 h29.2)) (tq13 h44.2)) (tq13 h58.2)) (tq13 h74.2)) (tq13 h91.2))) h100.2⟩)⟩
          · skip
            have c77 := b2i_ne0.mp c77
            have hty74 := (h74.1.2.1 c77).2; have hlw74 : (wItem.length : Int) = 4 := rfl
            refine x_aload_n G 2 rfl rfl dX7_readsStatement_80 ?_
            refine x_iload_n G 0 rfl rfl dX7_readsStatement_81 ?_
            refine x_iconst G (by decide) dX7_readsStatement_82 ?_
            refine x_callVI G [] [xI (skp bt a), xI 0] rfl (by decide) (ly_n hY 195 (by decide)) (ly_k hY 195 (by decide)) hy_X7_readsItem hi_X7_readsItem hs_X7_readsItem ml_X7_340 rfl rfl (kX7_readsItem0 _ _ bt len ((skp bt a) + 4) V (skp bt a) hY hT (tmm_1 (tmm_1 (tmm_1 (tmm_1 (tmm_1 (tmm_1 hM h1.2) h14.2) h29.2) h44.2) h58.2) h74.2) (h74.1.2.1 c77).1 (by omega) (mr_cg (mr_cg (mr_cg (mr_cg (mr_cg (mr_cg hN (h1.2.1 196 (by omega))) (h14.2.1 196 (by omega))) (h29.2.1 196 (by omega))) (h44.2.1 196 (by omega))) (h58.2.1 196 (by omega))) (h74.2.1 196 (by omega))) hv (by omega)) (by decide) (by decide) (Nat.le_of_ble_eq_true rfl) dX7_readsStatement_83 (fun z83 M83 h83 => ?_)
            exact x_zret G (by omega) Rt dX7_readsStatement_86 ⟨rfl, rfl, _, rfl, (by
          have e9 : pStm bt a V = pItm bt (skp bt a) (skp bt a + 4) V := by unfold pStm; rw [if_neg c17, if_neg c32, if_neg c47, if_neg c61, if_pos c77]
          rw [e9]
          exact ⟨h83.1, tq4_tr (tq4_3 (tq3_tr (tq3_tr (tq3_tr (tq3_tr (tq3_tr (tq3_tr (tq3_refl _) (tq13 h1.2)) (tq13 h14.2)) (tq13 h29.2)) (tq13 h44.2)) (tq13 h58.2)) (tq13 h74.2))) h83.2⟩)⟩
        · skip
          have c61 := b2i_ne0.mp c61
          have hty58 := (h58.1.2.1 c61).2; have hlw58 : (wWait.length : Int) = 4 := rfl
          refine x_aload_n G 2 rfl rfl dX7_readsStatement_64 ?_
          refine x_iload_n G 0 rfl rfl dX7_readsStatement_65 ?_
          refine x_callVI G [] [xI (skp bt a)] rfl (by decide) (ly_n hY 195 (by decide)) (ly_k hY 195 (by decide)) hy_X7_readsWait hi_X7_readsWait hs_X7_readsWait ml_X7_336 rfl rfl (kX7_readsWait _ _ bt len ((skp bt a) + 4) V (skp bt a) hY hT (tmm_1 (tmm_1 (tmm_1 (tmm_1 (tmm_1 hM h1.2) h14.2) h29.2) h44.2) h58.2) (h58.1.2.1 c61).1 (by omega) (mr_cg (mr_cg (mr_cg (mr_cg (mr_cg hN (h1.2.1 196 (by omega))) (h14.2.1 196 (by omega))) (h29.2.1 196 (by omega))) (h44.2.1 196 (by omega))) (h58.2.1 196 (by omega))) hv (by omega)) (by decide) (by decide) (Nat.le_of_ble_eq_true rfl) dX7_readsStatement_66 (fun z66 M66 h66 => ?_)
          exact x_zret G (by omega) Rt dX7_readsStatement_69 ⟨rfl, rfl, _, rfl, (by
          have e9 : pStm bt a V = pWait bt (skp bt a) (skp bt a + 4) V := by unfold pStm; rw [if_neg c17, if_neg c32, if_neg c47, if_pos c61]
          rw [e9]
          exact ⟨h66.1, tq4_tr (tq4_3 (tq3_tr (tq3_tr (tq3_tr (tq3_tr (tq3_tr (tq3_refl _) (tq13 h1.2)) (tq13 h14.2)) (tq13 h29.2)) (tq13 h44.2)) (tq13 h58.2))) h66.2⟩)⟩
      · skip
        have c47 := b2i_ne0.mp c47
        have hty44 := (h44.1.2.1 c47).2; have hlw44 : (wSeed.length : Int) = 4 := rfl
        refine x_aload_n G 2 rfl rfl dX7_readsStatement_50 ?_
        refine x_callVI G [] [] rfl (by decide) (ly_n hY 195 (by decide)) (ly_k hY 195 (by decide)) hy_X7_readsSeed hi_X7_readsSeed hs_X7_readsSeed ml_X7_333 rfl rfl (kX7_readsSeed _ _ bt len ((skp bt a) + 4) V hY hT (tmm_1 (tmm_1 (tmm_1 (tmm_1 hM h1.2) h14.2) h29.2) h44.2) (h44.1.2.1 c47).1 (by omega) (mr_cg (mr_cg (mr_cg (mr_cg hN (h1.2.1 196 (by omega))) (h14.2.1 196 (by omega))) (h29.2.1 196 (by omega))) (h44.2.1 196 (by omega))) hv) (by decide) (by decide) (Nat.le_of_ble_eq_true rfl) dX7_readsStatement_51 (fun z51 M51 h51 => ?_)
        exact x_zret G (by omega) Rt dX7_readsStatement_54 ⟨rfl, rfl, _, rfl, (by
          have e9 : pStm bt a V = pSeed bt (skp bt a + 4) V := by unfold pStm; rw [if_neg c17, if_neg c32, if_pos c47]
          rw [e9]
          exact ⟨h51.1, tq4_tr (tq4_3 (tq3_tr (tq3_tr (tq3_tr (tq3_tr (tq3_refl _) (tq13 h1.2)) (tq13 h14.2)) (tq13 h29.2)) (tq13 h44.2))) h51.2⟩)⟩
    · skip
      have c32 := b2i_ne0.mp c32
      have hty29 := (h29.1.2.1 c32).2; have hlw29 : (wWindow.length : Int) = 6 := rfl
      refine x_aload_n G 2 rfl rfl dX7_readsStatement_35 ?_
      refine x_callVI G [] [] rfl (by decide) (ly_n hY 195 (by decide)) (ly_k hY 195 (by decide)) hy_X7_readsWindow hi_X7_readsWindow hs_X7_readsWindow ml_X7_330 rfl rfl (kX7_readsWindow _ _ bt len ((skp bt a) + 6) V hY hT (tmm_1 (tmm_1 (tmm_1 hM h1.2) h14.2) h29.2) (h29.1.2.1 c32).1 (by omega) (mr_cg (mr_cg (mr_cg hN (h1.2.1 196 (by omega))) (h14.2.1 196 (by omega))) (h29.2.1 196 (by omega))) hv) (by decide) (by decide) (Nat.le_of_ble_eq_true rfl) dX7_readsStatement_36 (fun z36 M36 h36 => ?_)
      exact x_zret G (by omega) Rt dX7_readsStatement_39 ⟨rfl, rfl, _, rfl, (by
          have e9 : pStm bt a V = pWind bt (skp bt a + 6) V := by unfold pStm; rw [if_neg c17, if_pos c32]
          rw [e9]
          exact ⟨h36.1, tq4_tr (tq4_3 (tq3_tr (tq3_tr (tq3_tr (tq3_refl _) (tq13 h1.2)) (tq13 h14.2)) (tq13 h29.2))) h36.2⟩)⟩
  · skip
    have c17 := b2i_ne0.mp c17
    have hty14 := (h14.1.2.1 c17).2; have hlw14 : (wSize.length : Int) = 4 := rfl
    refine x_aload_n G 2 rfl rfl dX7_readsStatement_20 ?_
    refine x_callVI G [] [] rfl (by decide) (ly_n hY 195 (by decide)) (ly_k hY 195 (by decide)) hy_X7_readsSize hi_X7_readsSize hs_X7_readsSize ml_X7_327 rfl rfl (kX7_readsSize _ _ bt len ((skp bt a) + 4) V hY hT (tmm_1 (tmm_1 hM h1.2) h14.2) (h14.1.2.1 c17).1 (by omega) (mr_cg (mr_cg hN (h1.2.1 196 (by omega))) (h14.2.1 196 (by omega))) hv) (by decide) (by decide) (Nat.le_of_ble_eq_true rfl) dX7_readsStatement_21 (fun z21 M21 h21 => ?_)
    exact x_zret G (by omega) Rt dX7_readsStatement_24 ⟨rfl, rfl, _, rfl, (by
          have e9 : pStm bt a V = pSize bt (skp bt a + 4) V := by unfold pStm; rw [if_pos c17]
          rw [e9]
          exact ⟨h21.1, tq4_tr (tq4_3 (tq3_tr (tq3_tr (tq3_refl _) (tq13 h1.2)) (tq13 h14.2))) h21.2⟩)⟩
