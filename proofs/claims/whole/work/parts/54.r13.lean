theorem maf_ex {M M1 M2 : xM} (h : mafr M M1) (h2 : (∀ q, q ≠ 195 → q ≠ 196 → M2 q = M1 q) ∧ ∀ j, j ≠ 10 → M2 195 j = M1 195 j) : mafr M M2 := maf_cn h h2
theorem mh_sub {M M2 : xM} {W : xM} {Hs : List xM} (h : mhst M (W :: Hs)) (e1 : M2 195 2 = M 195 2 - 1) (e2 : M2 197 = M 197) : mhst M2 Hs := by
  obtain ⟨h1, h2, h3⟩ := h
  have el : (W :: Hs).length = Hs.length + 1 := rfl
  refine ⟨by omega, by omega, fun j hj => ?_⟩
  have g := h3 (j + 1) (by omega)
  rw [e2]
  refine ⟨g.1, ?_⟩
  have g2 := g.2
  rw [el, show Hs.length + 1 - 1 - (j + 1) = Hs.length - 1 - j by omega] at g2
  exact g2
theorem mh_nil {M : xM} (h : M 195 2 = 0) : mhst M [] := ⟨h, by decide, fun j hj => absurd hj (Nat.not_lt_zero _)⟩
set_option maxRecDepth 100000 in
set_option maxHeartbeats 4000000 in
theorem kX7_undo (D : xD) (l : Launch) {n : Nat} {T : xT} {M : xM} (Hs : List xM) (hY : LayOK n T) (hH : mhst M Hs) : xC D l uX7_undo 1 23 0 0 [xR 195] n T M (xPI n T (fun z M2 => (z = -1 ∧ Hs = [] ∧ M2 = M) ∨ (∃ W Hs2, Hs = W :: Hs2 ∧ z = (Hs2.length : Int) ∧ mrel (M2 196) W ∧ mhst M2 Hs2 ∧ M2 195 10 = 0 ∧ mafr M M2))) := by
  refine x_met uX7_undo (by decide) (Nat.le_of_ble_eq_true rfl) ?_
  intro Γ G Rt _
  have G : xG Γ RX7 cX7_undo 1 1 23 0 0 := G
  have Rt : xRt Γ (xPI n T (fun z M2 => (z = -1 ∧ Hs = [] ∧ M2 = M) ∨ (∃ W Hs2, Hs = W :: Hs2 ∧ z = (Hs2.length : Int) ∧ mrel (M2 196) W ∧ mhst M2 Hs2 ∧ M2 195 10 = 0 ∧ mafr M M2))) (some .int) 0 0 := Rt
  show xX Γ 0 0 n T 0 [(0, xR 195)] [] M
  have hu := hH.1
  have hu2 := hH.2.1
  refine x_aload_n G 0 rfl rfl dX7_undo_0 ?_
  refine x_get G (xI (M 195 2)) xf7_2 lk_X7_209 (ly_n hY 195 (by decide)) (ly_k hY 195 (by decide)) (Or.inl ⟨rfl, rfl⟩) dX7_undo_1 ?_
  refine x_if_ne G 9 (by decide) dX7_undo_4 (fun c4 => ?_) (fun c4 => ?_)
  · skip
    obtain ⟨W, Hs2, rfl⟩ : ∃ W Hs2, Hs = W :: Hs2 := (by cases Hs with | nil => exact absurd hu c4 | cons W Hs2 => exact ⟨W, Hs2, rfl⟩)
    have hln : (W :: Hs2).length = Hs2.length + 1 := rfl
    have hr0 := hH.2.2 0 (by omega)
    refine x_aload_n G 0 rfl rfl dX7_undo_9 ?_
    refine x_dup G rfl dX7_undo_10 ?_
    refine x_get G (xI (M 195 2)) xf7_2 lk_X7_209 (ly_n hY 195 (by decide)) (ly_k hY 195 (by decide)) (Or.inl ⟨rfl, rfl⟩) dX7_undo_11 ?_
    refine x_iconst G (by decide) dX7_undo_14 ?_
    refine x_isub G (by omega) dX7_undo_15 ?_
    refine x_put G  xf7_2 lk_X7_209 (ly_n hY 195 (by decide)) (ly_k hY 195 (by decide)) rfl dX7_undo_16 ?_
    refine x_aload_n G 0 rfl rfl dX7_undo_19 ?_
    refine x_aload_n G 0 rfl rfl dX7_undo_20 ?_
    refine x_get G (xR 197) xf7_1 lk_X7_13 (ly_n hY 195 (by decide)) (ly_k hY 195 (by decide)) (Or.inr ⟨rfl, _, (ly_r hY 195 1 (by decide) (by decide)), rfl⟩) dX7_undo_21 ?_
    refine x_sipush G (by decide) dX7_undo_24 ?_
    refine x_aload_n G 0 rfl rfl dX7_undo_27 ?_
    refine x_get G (xI ((xst M 195 2 ((M 195 2) - 1)) 195 2)) xf7_2 lk_X7_209 (ly_n hY 195 (by decide)) (ly_k hY 195 (by decide)) (Or.inl ⟨rfl, rfl⟩) dX7_undo_28 ?_
    rw [show (xst M 195 2 ((M 195 2) - 1)) 195 2 = ((M 195 2) - 1) from (xst_same ..)]
    refine x_imul G (by omega) dX7_undo_31 ?_
    refine x_callVV G [] [xR 197, xI (511 * ((M 195 2) - 1))] rfl (by decide) (ly_n hY 195 (by decide)) (ly_k hY 195 (by decide)) hy_X7_exchanges hi_X7_exchanges hs_X7_exchanges ml_X7_205 rfl rfl (kX7_exchanges _ _ 197 5110 (511 * ((M 195 2) - 1)) hY (ly_n hY 197 (by decide)) (ly_k hY 197 (by decide)) (show _ = 5110 from ly_l hY 197 (by decide)) (by decide) (by omega)) (by decide) (by decide) (Nat.le_of_ble_eq_true rfl) dX7_undo_32 (fun M32 h32 => ?_)
    refine x_aload_n G 0 rfl rfl dX7_undo_35 ?_
    skip
    refine x_get G (xI (M32 195 2)) xf7_2 lk_X7_209 (ly_n hY 195 (by decide)) (ly_k hY 195 (by decide)) (Or.inl ⟨rfl, rfl⟩) dX7_undo_36 ?_
    rw [show M32 195 2 = (Hs2.length : Int) from by rw [h32.2.2.2.2 2 (by decide), xst_same]; omega]
    skip
    exact x_iret G Rt dX7_undo_39 ⟨rfl, rfl, _, rfl, Or.inr ⟨W, Hs2, rfl, rfl, mr_lt hr0.1 hr0.2 (fun k hk => by rw [h32.1 k hk, xst_row (by decide)]; show _ = M 197 (511 * ((W :: Hs2).length - 1 - 0) + k); congr 1; omega), mh_sub hH (by rw [h32.2.2.2.2 2 (by decide), xst_same]) (by rw [h32.2.2.2.1 197 (by decide) (by decide), xst_row (by decide)]), h32.2.2.1, maf_ex (maf_st (maf_refl _) (by decide)) h32.2.2.2⟩⟩
  · skip
    refine x_iconst G (by decide) dX7_undo_7 ?_
    exact x_iret G Rt dX7_undo_8 ⟨rfl, rfl, _, rfl, Or.inl ⟨rfl, by cases Hs with | nil => rfl | cons W Hs2 => (have : (W :: Hs2).length = Hs2.length + 1 := rfl; omega), rfl⟩⟩
set_option maxRecDepth 100000 in
set_option maxHeartbeats 4000000 in
theorem kX7_keep (D : xD) (l : Launch) {n : Nat} {T : xT} {M : xM} (V : xM) (sf : Int) (hY : LayOK n T) (hN : mrel (M 196) V) (hv : VOK V) : xC D l uX7_keep 1 25 0 0 [xR 195, xI sf] n T M (xPI n T (fun z M2 => (¬ (0 ≤ sf ∧ sf ≤ 1) ∧ z = -1 ∧ M2 = M) ∨ ((0 ≤ sf ∧ sf ≤ 1) ∧ z = V 0 10 ∧ (∀ j : Nat, j < 511 → M2 198 (511 * sf.toNat + j) = M 196 j) ∧ (∀ b : Nat, (b < 511 * sf.toNat ∨ 511 * sf.toNat + 511 ≤ b) → M2 198 b = M 198 b) ∧ M2 199 = xst M 199 sf.toNat 1 199 ∧ ∀ q, q ≠ 198 → q ≠ 199 → M2 q = M q))) := by
  refine x_met uX7_keep (by decide) (Nat.le_of_ble_eq_true rfl) ?_
  intro Γ G Rt _
  have G : xG Γ RX7 cX7_keep 3 1 25 0 0 := G
  have Rt : xRt Γ (xPI n T (fun z M2 => (¬ (0 ≤ sf ∧ sf ≤ 1) ∧ z = -1 ∧ M2 = M) ∨ ((0 ≤ sf ∧ sf ≤ 1) ∧ z = V 0 10 ∧ (∀ j : Nat, j < 511 → M2 198 (511 * sf.toNat + j) = M 196 j) ∧ (∀ b : Nat, (b < 511 * sf.toNat ∨ 511 * sf.toNat + 511 ≤ b) → M2 198 b = M 198 b) ∧ M2 199 = xst M 199 sf.toNat 1 199 ∧ ∀ q, q ≠ 198 → q ≠ 199 → M2 q = M q))) (some .int) 0 0 := Rt
  show xX Γ 0 0 n T 0 [(0, xR 195), (1, xI sf)] [] M
  have hc := ok_c hv
  refine x_iload_n G 1 rfl rfl dX7_keep_0 ?_
  refine x_i2l G dX7_keep_1 ?_
  refine x_lconst G dX7_keep_2 ?_
  show xX Γ 0 0 n T 3 [(0, xR 195), (1, xI sf)] [xL 0, xL sf] M
  refine x_lconst G dX7_keep_3 ?_
  show xX Γ 0 0 n T 4 [(0, xR 195), (1, xI sf)] [xL 1, xL 0, xL sf] M
  refine x_callSp G [] [xL sf, xL 0, xL 1] hy_X7_in ht_X7_in ml_X7_54 rfl rfl (kX7_in _ _ sf 0 1) (by decide) (by decide) (Nat.le_of_ble_eq_true rfl) dX7_keep_4 ?_
  refine x_if_ne G 12 (by decide) dX7_keep_7 (fun c7 => ?_) (fun c7 => ?_)
  · skip
    have c7 := b2i_ne0.mp c7
    refine x_iconst G (by decide) dX7_keep_12 ?_
    refine x_istore_n G [(2, xI 0), (0, xR 195), (1, xI sf)] rfl (by decide) rfl dX7_keep_13 ?_
    have loop14 : ∀ (d : Nat) (k : Int) (N1 : xM), (511 - k).toNat = d → (0 ≤ k ∧ k ≤ 511) → (∀ q, q ≠ 198 → N1 q = M q) → (∀ j : Nat, (j : Int) < k → N1 198 (511 * sf.toNat + j) = M 196 j) → (∀ b : Nat, (b < 511 * sf.toNat ∨ 511 * sf.toNat + 511 ≤ b) → N1 198 b = M 198 b) → xX Γ 0 0 n T 14 [(0, xR 195), (1, xI sf), (2, xI k)] [] N1 := by
      intro d
      induction d using Nat.strongRecOn with
      | ind d ih14 =>
      intro k N1 hd14 hk hfr hlo hhi
      skip
      refine x_iload_n G 2 rfl rfl dX7_keep_14 ?_
      refine x_sipush G (by decide) dX7_keep_15 ?_
      refine x_icmp_ge G 45 (by decide) dX7_keep_18 (fun c18 => ?_) (fun c18 => ?_)
      · skip
        refine x_aload_n G 0 rfl rfl dX7_keep_45 ?_
        refine x_get G (xR 199) xf7_4 lk_X7_19 (ly_n hY 195 (by decide)) (ly_k hY 195 (by decide)) (Or.inr ⟨rfl, _, (ly_r hY 195 4 (by decide) (by decide)), rfl⟩) dX7_keep_46 ?_
        refine x_iload_n G 1 rfl rfl dX7_keep_49 ?_
        refine x_iconst G (by decide) dX7_keep_50 ?_
        refine x_zast G (by omega) (ly_n hY 199 (by decide)) (ly_k hY 199 (by decide)) (show _ = 2 from ly_l hY 199 (by decide)) (by omega) (by omega) dX7_keep_51 ?_
        refine x_aload_n G 0 rfl rfl dX7_keep_52 ?_
        refine x_get G (xR 196) xf7_0 lk_X7_7 (ly_n hY 195 (by decide)) (ly_k hY 195 (by decide)) (Or.inr ⟨rfl, _, (ly_r hY 195 0 (by decide) (by decide)), rfl⟩) dX7_keep_53 ?_
        refine x_iconst G (by decide) dX7_keep_56 ?_
        refine x_iald G (ly_n hY 196 (by decide)) (ly_k hY 196 (by decide)) (show _ = 511 from ly_l hY 196 (by decide)) (by omega) (by omega) dX7_keep_57 ?_
        show xX Γ 0 0 n T 58 [(0, xR 195), (1, xI sf), (2, xI k)] [xI ((xst N1 199 sf.toNat 1) 196 2)] (xst N1 199 sf.toNat 1)
        rw [show (xst N1 199 sf.toNat 1) 196 2 = (V 0 10) from (mr_cg (mr_cg hN (hfr 196 (by decide))) (xst_row (by omega))).1.2.2]
        exact x_iret G Rt dX7_keep_58 ⟨rfl, rfl, _, rfl, Or.inr ⟨by omega, rfl, fun j hj => by rw [xst_row (by decide)]; exact hlo j (by omega), fun b hb => by rw [xst_row (by decide)]; exact hhi b hb, by funext b; rw [xst_eq, xst_eq, hfr 199 (by decide)], fun q h1 h2 => (xst_row h2).trans (hfr q h1)⟩⟩
      · skip
        refine x_aload_n G 0 rfl rfl dX7_keep_21 ?_
        refine x_get G (xR 198) xf7_3 lk_X7_16 (ly_n hY 195 (by decide)) (ly_k hY 195 (by decide)) (Or.inr ⟨rfl, _, (ly_r hY 195 3 (by decide) (by decide)), rfl⟩) dX7_keep_22 ?_
        refine x_sipush G (by decide) dX7_keep_25 ?_
        refine x_iload_n G 1 rfl rfl dX7_keep_28 ?_
        refine x_imul G (by omega) dX7_keep_29 ?_
        refine x_iload_n G 2 rfl rfl dX7_keep_30 ?_
        refine x_iadd G (by omega) dX7_keep_31 ?_
        refine x_aload_n G 0 rfl rfl dX7_keep_32 ?_
        refine x_get G (xR 196) xf7_0 lk_X7_7 (ly_n hY 195 (by decide)) (ly_k hY 195 (by decide)) (Or.inr ⟨rfl, _, (ly_r hY 195 0 (by decide) (by decide)), rfl⟩) dX7_keep_33 ?_
        refine x_iload_n G 2 rfl rfl dX7_keep_36 ?_
        refine x_iald G (ly_n hY 196 (by decide)) (ly_k hY 196 (by decide)) (show _ = 511 from ly_l hY 196 (by decide)) (by omega) (by omega) dX7_keep_37 ?_
        refine x_iast G (ly_n hY 198 (by decide)) (ly_k hY 198 (by decide)) (show _ = 1022 from ly_l hY 198 (by decide)) (by omega) (by omega) dX7_keep_38 ?_
        refine x_iinc G [(2, xI (k + 1)), (0, xR 195), (1, xI sf)] 2 rfl (by decide) (by omega) rfl dX7_keep_39 ?_
        refine x_goto G 14 (by decide) dX7_keep_42 ?_
        refine x_sub [(0, xR 195), (1, xI sf), (2, xI (k + 1))] [1, 2, 0] rfl ?_
        exact ih14 _ (by omega) (k + 1) (xst N1 198 ((511 * sf) + k).toNat (N1 196 k.toNat)) rfl (by omega) (fun q hq => (xst_row hq).trans (hfr q hq)) (by intro j hj; rw [xst_eq]; by_cases e : j = k.toNat; (rw [if_pos ⟨rfl, by omega⟩, hfr 196 (by decide), e]); (rw [if_neg (fun h => e (by have := h.2; omega))]; exact hlo j (by omega))) (fun b hb => (xst_nq (by omega)).trans (hhi b hb))
    refine x_sub [(0, xR 195), (1, xI sf), (2, xI 0)] [1, 2, 0] rfl ?_
    exact loop14 _ 0 M rfl (by omega) (fun _ _ => rfl) (fun j hj => by omega) (fun _ _ => rfl)
  · skip
    have c7 := b2i_eq0.mp c7
    refine x_iconst G (by decide) dX7_keep_10 ?_
    exact x_iret G Rt dX7_keep_11 ⟨rfl, rfl, _, rfl, Or.inl ⟨by omega, rfl, rfl⟩⟩
set_option maxRecDepth 100000 in
set_option maxHeartbeats 4000000 in
theorem kX7_back (D : xD) (l : Launch) {n : Nat} {T : xT} {M : xM} (V W : xM) (sf : Int) (hY : LayOK n T) (hN : mrel (M 196) V) (hv : VOK V) (hkb : (0 ≤ sf ∧ sf ≤ 1) → M 199 sf.toNat = 0 ∨ M 199 sf.toNat = 1) (hW : (0 ≤ sf ∧ sf ≤ 1) → M 199 sf.toNat = 1 → mrel (fun k => M 198 (511 * sf.toNat + k)) W ∧ VOK W) : xC D l uX7_back 1 25 0 0 [xR 195, xI sf] n T M (xPI n T (fun z M2 => (¬ (0 ≤ sf ∧ sf ≤ 1) ∧ z = -1 ∧ M2 = M) ∨ ((0 ≤ sf ∧ sf ≤ 1) ∧ M 199 sf.toNat = 0 ∧ z = -2 ∧ M2 = M) ∨ ((0 ≤ sf ∧ sf ≤ 1) ∧ M 199 sf.toNat = 1 ∧ z = W 0 10 ∧ mrel (M2 196) W ∧ mhst M2 [] ∧ M2 195 10 = 0 ∧ mafr M M2))) := by
  refine x_met uX7_back (by decide) (Nat.le_of_ble_eq_true rfl) ?_
  intro Γ G Rt _
  have G : xG Γ RX7 cX7_back 2 1 25 0 0 := G
  have Rt : xRt Γ (xPI n T (fun z M2 => (¬ (0 ≤ sf ∧ sf ≤ 1) ∧ z = -1 ∧ M2 = M) ∨ ((0 ≤ sf ∧ sf ≤ 1) ∧ M 199 sf.toNat = 0 ∧ z = -2 ∧ M2 = M) ∨ ((0 ≤ sf ∧ sf ≤ 1) ∧ M 199 sf.toNat = 1 ∧ z = W 0 10 ∧ mrel (M2 196) W ∧ mhst M2 [] ∧ M2 195 10 = 0 ∧ mafr M M2))) (some .int) 0 0 := Rt
  show xX Γ 0 0 n T 0 [(0, xR 195), (1, xI sf)] [] M
  have hc := ok_c hv
  refine x_iload_n G 1 rfl rfl dX7_back_0 ?_
  refine x_i2l G dX7_back_1 ?_
  refine x_lconst G dX7_back_2 ?_
  show xX Γ 0 0 n T 3 [(0, xR 195), (1, xI sf)] [xL 0, xL sf] M
  refine x_lconst G dX7_back_3 ?_
  show xX Γ 0 0 n T 4 [(0, xR 195), (1, xI sf)] [xL 1, xL 0, xL sf] M
  refine x_callSp G [] [xL sf, xL 0, xL 1] hy_X7_in ht_X7_in ml_X7_54 rfl rfl (kX7_in _ _ sf 0 1) (by decide) (by decide) (Nat.le_of_ble_eq_true rfl) dX7_back_4 ?_
  refine x_if_ne G 12 (by decide) dX7_back_7 (fun c7 => ?_) (fun c7 => ?_)
  · skip
    have c7 := b2i_ne0.mp c7
    refine x_aload_n G 0 rfl rfl dX7_back_12 ?_
    refine x_get G (xR 199) xf7_4 lk_X7_19 (ly_n hY 195 (by decide)) (ly_k hY 195 (by decide)) (Or.inr ⟨rfl, _, (ly_r hY 195 4 (by decide) (by decide)), rfl⟩) dX7_back_13 ?_
    refine x_iload_n G 1 rfl rfl dX7_back_16 ?_
    refine x_zald G (ly_n hY 199 (by decide)) (ly_k hY 199 (by decide)) (show _ = 2 from ly_l hY 199 (by decide)) (by omega) (by omega) dX7_back_17 ?_
    have hkb9 := hkb (by omega)
    refine x_if_ne G 24 (by decide) dX7_back_18 (fun c18 => ?_) (fun c18 => ?_)
    · skip
      obtain ⟨hWm, hWv⟩ := hW (by omega) (by omega)
      refine x_aload_n G 0 rfl rfl dX7_back_24 ?_
      refine x_aload_n G 0 rfl rfl dX7_back_25 ?_
      refine x_get G (xR 198) xf7_3 lk_X7_16 (ly_n hY 195 (by decide)) (ly_k hY 195 (by decide)) (Or.inr ⟨rfl, _, (ly_r hY 195 3 (by decide) (by decide)), rfl⟩) dX7_back_26 ?_
      refine x_sipush G (by decide) dX7_back_29 ?_
      refine x_iload_n G 1 rfl rfl dX7_back_32 ?_
      refine x_imul G (by omega) dX7_back_33 ?_
      refine x_callVV G [] [xR 198, xI (511 * sf)] rfl (by decide) (ly_n hY 195 (by decide)) (ly_k hY 195 (by decide)) hy_X7_exchanges hi_X7_exchanges hs_X7_exchanges ml_X7_205 rfl rfl (kX7_exchanges _ _ 198 1022 (511 * sf) hY (ly_n hY 198 (by decide)) (ly_k hY 198 (by decide)) (show _ = 1022 from ly_l hY 198 (by decide)) (by decide) (by omega)) (by decide) (by decide) (Nat.le_of_ble_eq_true rfl) dX7_back_34 (fun M34 h34 => ?_)
      have hmw : mrel (M34 196) W := mr_lt hWv hWm (fun k hk => by rw [h34.1 k hk, show (511 * sf).toNat = 511 * sf.toNat by omega])
      skip
      refine x_aload_n G 0 rfl rfl dX7_back_37 ?_
      refine x_iconst G (by decide) dX7_back_38 ?_
      refine x_put G  xf7_2 lk_X7_209 (ly_n hY 195 (by decide)) (ly_k hY 195 (by decide)) rfl dX7_back_39 ?_
      refine x_aload_n G 0 rfl rfl dX7_back_42 ?_
      refine x_get G (xR 196) xf7_0 lk_X7_7 (ly_n hY 195 (by decide)) (ly_k hY 195 (by decide)) (Or.inr ⟨rfl, _, (ly_r hY 195 0 (by decide) (by decide)), rfl⟩) dX7_back_43 ?_
      refine x_iconst G (by decide) dX7_back_46 ?_
      refine x_iald G (ly_n hY 196 (by decide)) (ly_k hY 196 (by decide)) (show _ = 511 from ly_l hY 196 (by decide)) (by omega) (by omega) dX7_back_47 ?_
      show xX Γ 0 0 n T 48 [(0, xR 195), (1, xI sf)] [xI ((xst M34 195 2 0) 196 2)] (xst M34 195 2 0)
      rw [show (xst M34 195 2 0) 196 2 = (W 0 10) from (mr_cg hmw (xst_row (by omega))).1.2.2]
      exact x_iret G Rt dX7_back_48 ⟨rfl, rfl, _, rfl, Or.inr (Or.inr ⟨by omega, by omega, rfl, mr_cg hmw (xst_row (by decide)), mh_nil (xst_same ..), (xst_nq (by omega)).trans h34.2.2.1, maf_st (maf_ex (maf_refl _) h34.2.2.2) (by decide)⟩)⟩
    · skip
      refine x_bipush G (by decide) dX7_back_21 ?_
      exact x_iret G Rt dX7_back_23 ⟨rfl, rfl, _, rfl, Or.inr (Or.inl ⟨by omega, by omega, rfl, rfl⟩)⟩
  · skip
    have c7 := b2i_eq0.mp c7
    refine x_iconst G (by decide) dX7_back_10 ?_
    exact x_iret G Rt dX7_back_11 ⟨rfl, rfl, _, rfl, Or.inl ⟨by omega, rfl, rfl⟩⟩
set_option maxRecDepth 100000 in
set_option maxHeartbeats 4000000 in
theorem kX7_digest (D : xD) (l : Launch) {n : Nat} {T : xT} {M : xM} (V : xM) (hY : LayOK n T) (hN : mrel (M 196) V) (hv : VOK V) : xC D l uX7_digest 3 64 0 0 [xR 195] n T M (xPL n T (fun z M2 => z = dig V (V 0 10).toNat ∧ M2 = M)) := by
  refine x_met uX7_digest (by decide) (Nat.le_of_ble_eq_true rfl) ?_
  intro Γ G Rt _
  have G : xG Γ RX7 cX7_digest 5 3 64 0 0 := G
  have Rt : xRt Γ (xPL n T (fun z M2 => z = dig V (V 0 10).toNat ∧ M2 = M)) (some .long) 0 0 := Rt
  show xX Γ 0 0 n T 0 [(0, xR 195)] [] M
  have hc := ok_c hv
  refine x_ldc2 G (z := 17) (by decide) kc_X7_278 dX7_digest_0 ?_
  refine x_lstore_n G [(1, xL 17), (0, xR 195)] rfl (by decide) rfl dX7_digest_3 ?_
  refine x_iconst G (by decide) dX7_digest_4 ?_
  refine x_istore_n G [(3, xI 0), (1, xL 17), (0, xR 195)] rfl (by decide) rfl dX7_digest_5 ?_
  have loop6 : ∀ (d : Nat) (k : Int) (d0 : Int), (V 0 10 - k).toNat = d → (0 ≤ k ∧ k ≤ V 0 10) → (d0 = dig V k.toNat) → xX Γ 0 0 n T 6 [(0, xR 195), (1, xL d0), (3, xI k)] [] M := by
    intro d
    induction d using Nat.strongRecOn with
    | ind d ih6 =>
    intro k d0 hd6 hk hd
    refine x_iload_n G 2 rfl rfl dX7_digest_6 ?_
    refine x_aload_n G 0 rfl rfl dX7_digest_7 ?_
    refine x_get G (xR 196) xf7_0 lk_X7_7 (ly_n hY 195 (by decide)) (ly_k hY 195 (by decide)) (Or.inr ⟨rfl, _, (ly_r hY 195 0 (by decide) (by decide)), rfl⟩) dX7_digest_8 ?_
    refine x_iconst G (by decide) dX7_digest_11 ?_
    refine x_iald G (ly_n hY 196 (by decide)) (ly_k hY 196 (by decide)) (show _ = 511 from ly_l hY 196 (by decide)) (by omega) (by omega) dX7_digest_12 ?_
    show xX Γ 0 0 n T 13 [(0, xR 195), (1, xL d0), (3, xI k)] [xI (M 196 2), xI k] M
    rw [show M 196 2 = (V 0 10) from hN.1.2.2]
    refine x_icmp_ge G 69 (by decide) dX7_digest_13 (fun c13 => ?_) (fun c13 => ?_)
    · skip
      refine x_lload_n G 1 rfl rfl dX7_digest_69 ?_
      exact x_lret G Rt dX7_digest_70 ⟨rfl, rfl, _, rfl, ⟨by rw [hd, show k = V 0 10 by omega], rfl⟩⟩
    · skip
      have hit := ok_i hv hk.1 (by omega)
      refine x_iconst G (by decide) dX7_digest_16 ?_
      refine x_istore G [(4, xI 0), (0, xR 195), (1, xL d0), (3, xI k)] (by decide) rfl dX7_digest_17 ?_
      refine x_iload G 0 rfl dX7_digest_19 ?_
      refine x_iconst G (by decide) dX7_digest_21 ?_
      refine x_icmp_ge G 63 (by decide) dX7_digest_22 (fun c22 => absurd c22 (by decide)) (fun _ => ?_)
      refine x_ldc2 G (z := 31) (by decide) kc_X7_280 dX7_digest_25 ?_
      refine x_lload_n G 2 rfl rfl dX7_digest_28 ?_
      refine x_lmulW G dX7_digest_29 ?_
      refine x_iload G 0 rfl dX7_digest_30 ?_
      refine x_if_ne G 47 (by decide) dX7_digest_32 (fun c32 => absurd c32 (by decide)) (fun _ => ?_)
      refine x_aload_n G 1 rfl rfl dX7_digest_35 ?_
      refine x_iload_n G 3 rfl rfl dX7_digest_36 ?_
      refine x_callVp G [xL (Int.bmod (31 * d0) 18446744073709551616)] [xI k] rfl (by decide) (ly_n hY 195 (by decide)) (ly_k hY 195 (by decide)) hy_X7_isDropped hi_X7_isDropped hs_X7_isDropped ml_X7_70 rfl rfl (kX7_isDropped _ _ V k hY hN hv (by omega)) (by decide) (by decide) (Nat.le_of_ble_eq_true rfl) dX7_digest_37 ?_
      refine x_if_eq G 47 (by decide) dX7_digest_40 (fun c40 => ?_) (fun c40 => ?_)
      · skip
        have c40 := b2i_eq0.mp c40
        refine x_aload_n G 1 rfl rfl dX7_digest_47 ?_
        refine x_iload_n G 3 rfl rfl dX7_digest_48 ?_
        refine x_iload G 0 rfl dX7_digest_49 ?_
        refine x_callVp G [xL (Int.bmod (31 * d0) 18446744073709551616)] [xI k, xI 0] rfl (by decide) (ly_n hY 195 (by decide)) (ly_k hY 195 (by decide)) hy_X7_item hi_X7_item hs_X7_item ml_X7_58 rfl rfl (kX7_item_0 _ _ V k hY hN hv (by omega)) (by decide) (by decide) (Nat.le_of_ble_eq_true rfl) dX7_digest_51 ?_
        refine x_i2l G dX7_digest_54 ?_
        refine x_laddW G dX7_digest_55 ?_
        refine x_lstore_n G [(1, xL (Int.bmod ((Int.bmod (31 * d0) 18446744073709551616) + (V 4 k.toNat + 4 * V 9 k.toNat)) 18446744073709551616)), (4, xI 0), (0, xR 195), (3, xI k)] rfl (by decide) rfl dX7_digest_56 ?_
        refine x_iinc G [(4, xI 1), (1, xL (Int.bmod ((Int.bmod (31 * d0) 18446744073709551616) + (V 4 k.toNat + 4 * V 9 k.toNat)) 18446744073709551616)), (0, xR 195), (3, xI k)] 1 rfl (by decide) (by omega) rfl dX7_digest_57 ?_
        refine x_goto G 19 (by decide) dX7_digest_60 ?_
        refine x_iload G 0 rfl dX7_digest_19 ?_
        refine x_iconst G (by decide) dX7_digest_21 ?_
        refine x_icmp_ge G 63 (by decide) dX7_digest_22 (fun c22 => absurd c22 (by decide)) (fun _ => ?_)
        refine x_ldc2 G (z := 31) (by decide) kc_X7_280 dX7_digest_25 ?_
        refine x_lload_n G 1 rfl rfl dX7_digest_28 ?_
        refine x_lmulW G dX7_digest_29 ?_
        refine x_iload G 0 rfl dX7_digest_30 ?_
        refine x_if_ne G 47 (by decide) dX7_digest_32 (fun _ => ?_) (fun c32 => absurd c32 (by decide))
        refine x_aload_n G 2 rfl rfl dX7_digest_47 ?_
        refine x_iload_n G 3 rfl rfl dX7_digest_48 ?_
        refine x_iload G 0 rfl dX7_digest_49 ?_
        refine x_callVp G [xL (Int.bmod (31 * (Int.bmod ((Int.bmod (31 * d0) 18446744073709551616) + (V 4 k.toNat + 4 * V 9 k.toNat)) 18446744073709551616)) 18446744073709551616)] [xI k, xI 1] rfl (by decide) (ly_n hY 195 (by decide)) (ly_k hY 195 (by decide)) hy_X7_item hi_X7_item hs_X7_item ml_X7_58 rfl rfl (kX7_item_1 _ _ V k hY hN hv (by omega)) (by decide) (by decide) (Nat.le_of_ble_eq_true rfl) dX7_digest_51 ?_
        refine x_i2l G dX7_digest_54 ?_
        refine x_laddW G dX7_digest_55 ?_
        refine x_lstore_n G [(1, xL (Int.bmod ((Int.bmod (31 * (Int.bmod ((Int.bmod (31 * d0) 18446744073709551616) + (V 4 k.toNat + 4 * V 9 k.toNat)) 18446744073709551616)) 18446744073709551616) + (V 5 k.toNat)) 18446744073709551616)), (4, xI 1), (0, xR 195), (3, xI k)] rfl (by decide) rfl dX7_digest_56 ?_
        refine x_iinc G [(4, xI 2), (1, xL (Int.bmod ((Int.bmod (31 * (Int.bmod ((Int.bmod (31 * d0) 18446744073709551616) + (V 4 k.toNat + 4 * V 9 k.toNat)) 18446744073709551616)) 18446744073709551616) + (V 5 k.toNat)) 18446744073709551616)), (0, xR 195), (3, xI k)] 1 rfl (by decide) (by omega) rfl dX7_digest_57 ?_
        refine x_goto G 19 (by decide) dX7_digest_60 ?_
        refine x_iload G 0 rfl dX7_digest_19 ?_
        refine x_iconst G (by decide) dX7_digest_21 ?_
        refine x_icmp_ge G 63 (by decide) dX7_digest_22 (fun c22 => absurd c22 (by decide)) (fun _ => ?_)
        refine x_ldc2 G (z := 31) (by decide) kc_X7_280 dX7_digest_25 ?_
        refine x_lload_n G 1 rfl rfl dX7_digest_28 ?_
        refine x_lmulW G dX7_digest_29 ?_
        refine x_iload G 0 rfl dX7_digest_30 ?_
        refine x_if_ne G 47 (by decide) dX7_digest_32 (fun _ => ?_) (fun c32 => absurd c32 (by decide))
        refine x_aload_n G 2 rfl rfl dX7_digest_47 ?_
        refine x_iload_n G 3 rfl rfl dX7_digest_48 ?_
        refine x_iload G 0 rfl dX7_digest_49 ?_
        refine x_callVp G [xL (Int.bmod (31 * (Int.bmod ((Int.bmod (31 * (Int.bmod ((Int.bmod (31 * d0) 18446744073709551616) + (V 4 k.toNat + 4 * V 9 k.toNat)) 18446744073709551616)) 18446744073709551616) + (V 5 k.toNat)) 18446744073709551616)) 18446744073709551616)] [xI k, xI 2] rfl (by decide) (ly_n hY 195 (by decide)) (ly_k hY 195 (by decide)) hy_X7_item hi_X7_item hs_X7_item ml_X7_58 rfl rfl (kX7_item_2 _ _ V k hY hN hv (by omega)) (by decide) (by decide) (Nat.le_of_ble_eq_true rfl) dX7_digest_51 ?_
        refine x_i2l G dX7_digest_54 ?_
        refine x_laddW G dX7_digest_55 ?_
        refine x_lstore_n G [(1, xL (Int.bmod ((Int.bmod (31 * (Int.bmod ((Int.bmod (31 * (Int.bmod ((Int.bmod (31 * d0) 18446744073709551616) + (V 4 k.toNat + 4 * V 9 k.toNat)) 18446744073709551616)) 18446744073709551616) + (V 5 k.toNat)) 18446744073709551616)) 18446744073709551616) + (V 6 k.toNat)) 18446744073709551616)), (4, xI 2), (0, xR 195), (3, xI k)] rfl (by decide) rfl dX7_digest_56 ?_
        refine x_iinc G [(4, xI 3), (1, xL (Int.bmod ((Int.bmod (31 * (Int.bmod ((Int.bmod (31 * (Int.bmod ((Int.bmod (31 * d0) 18446744073709551616) + (V 4 k.toNat + 4 * V 9 k.toNat)) 18446744073709551616)) 18446744073709551616) + (V 5 k.toNat)) 18446744073709551616)) 18446744073709551616) + (V 6 k.toNat)) 18446744073709551616)), (0, xR 195), (3, xI k)] 1 rfl (by decide) (by omega) rfl dX7_digest_57 ?_
        refine x_goto G 19 (by decide) dX7_digest_60 ?_
        refine x_iload G 0 rfl dX7_digest_19 ?_
        refine x_iconst G (by decide) dX7_digest_21 ?_
        refine x_icmp_ge G 63 (by decide) dX7_digest_22 (fun c22 => absurd c22 (by decide)) (fun _ => ?_)
        refine x_ldc2 G (z := 31) (by decide) kc_X7_280 dX7_digest_25 ?_
        refine x_lload_n G 1 rfl rfl dX7_digest_28 ?_
        refine x_lmulW G dX7_digest_29 ?_
        refine x_iload G 0 rfl dX7_digest_30 ?_
        refine x_if_ne G 47 (by decide) dX7_digest_32 (fun _ => ?_) (fun c32 => absurd c32 (by decide))
        refine x_aload_n G 2 rfl rfl dX7_digest_47 ?_
        refine x_iload_n G 3 rfl rfl dX7_digest_48 ?_
        refine x_iload G 0 rfl dX7_digest_49 ?_
        refine x_callVp G [xL (Int.bmod (31 * (Int.bmod ((Int.bmod (31 * (Int.bmod ((Int.bmod (31 * (Int.bmod ((Int.bmod (31 * d0) 18446744073709551616) + (V 4 k.toNat + 4 * V 9 k.toNat)) 18446744073709551616)) 18446744073709551616) + (V 5 k.toNat)) 18446744073709551616)) 18446744073709551616) + (V 6 k.toNat)) 18446744073709551616)) 18446744073709551616)] [xI k, xI 3] rfl (by decide) (ly_n hY 195 (by decide)) (ly_k hY 195 (by decide)) hy_X7_item hi_X7_item hs_X7_item ml_X7_58 rfl rfl (kX7_item_3 _ _ V k hY hN hv (by omega)) (by decide) (by decide) (Nat.le_of_ble_eq_true rfl) dX7_digest_51 ?_
        refine x_i2l G dX7_digest_54 ?_
        refine x_laddW G dX7_digest_55 ?_
        refine x_lstore_n G [(1, xL (Int.bmod ((Int.bmod (31 * (Int.bmod ((Int.bmod (31 * (Int.bmod ((Int.bmod (31 * (Int.bmod ((Int.bmod (31 * d0) 18446744073709551616) + (V 4 k.toNat + 4 * V 9 k.toNat)) 18446744073709551616)) 18446744073709551616) + (V 5 k.toNat)) 18446744073709551616)) 18446744073709551616) + (V 6 k.toNat)) 18446744073709551616)) 18446744073709551616) + (V 7 k.toNat)) 18446744073709551616)), (4, xI 3), (0, xR 195), (3, xI k)] rfl (by decide) rfl dX7_digest_56 ?_
        refine x_iinc G [(4, xI 4), (1, xL (Int.bmod ((Int.bmod (31 * (Int.bmod ((Int.bmod (31 * (Int.bmod ((Int.bmod (31 * (Int.bmod ((Int.bmod (31 * d0) 18446744073709551616) + (V 4 k.toNat + 4 * V 9 k.toNat)) 18446744073709551616)) 18446744073709551616) + (V 5 k.toNat)) 18446744073709551616)) 18446744073709551616) + (V 6 k.toNat)) 18446744073709551616)) 18446744073709551616) + (V 7 k.toNat)) 18446744073709551616)), (0, xR 195), (3, xI k)] 1 rfl (by decide) (by omega) rfl dX7_digest_57 ?_
        refine x_goto G 19 (by decide) dX7_digest_60 ?_
        refine x_iload G 0 rfl dX7_digest_19 ?_
        refine x_iconst G (by decide) dX7_digest_21 ?_
        refine x_icmp_ge G 63 (by decide) dX7_digest_22 (fun c22 => absurd c22 (by decide)) (fun _ => ?_)
        refine x_ldc2 G (z := 31) (by decide) kc_X7_280 dX7_digest_25 ?_
        refine x_lload_n G 1 rfl rfl dX7_digest_28 ?_
        refine x_lmulW G dX7_digest_29 ?_
        refine x_iload G 0 rfl dX7_digest_30 ?_
        refine x_if_ne G 47 (by decide) dX7_digest_32 (fun _ => ?_) (fun c32 => absurd c32 (by decide))
        refine x_aload_n G 2 rfl rfl dX7_digest_47 ?_
        refine x_iload_n G 3 rfl rfl dX7_digest_48 ?_
        refine x_iload G 0 rfl dX7_digest_49 ?_
        refine x_callVp G [xL (Int.bmod (31 * (Int.bmod ((Int.bmod (31 * (Int.bmod ((Int.bmod (31 * (Int.bmod ((Int.bmod (31 * (Int.bmod ((Int.bmod (31 * d0) 18446744073709551616) + (V 4 k.toNat + 4 * V 9 k.toNat)) 18446744073709551616)) 18446744073709551616) + (V 5 k.toNat)) 18446744073709551616)) 18446744073709551616) + (V 6 k.toNat)) 18446744073709551616)) 18446744073709551616) + (V 7 k.toNat)) 18446744073709551616)) 18446744073709551616)] [xI k, xI 4] rfl (by decide) (ly_n hY 195 (by decide)) (ly_k hY 195 (by decide)) hy_X7_item hi_X7_item hs_X7_item ml_X7_58 rfl rfl (kX7_item_4 _ _ V k hY hN hv (by omega)) (by decide) (by decide) (Nat.le_of_ble_eq_true rfl) dX7_digest_51 ?_
        refine x_i2l G dX7_digest_54 ?_
        refine x_laddW G dX7_digest_55 ?_
        refine x_lstore_n G [(1, xL (Int.bmod ((Int.bmod (31 * (Int.bmod ((Int.bmod (31 * (Int.bmod ((Int.bmod (31 * (Int.bmod ((Int.bmod (31 * (Int.bmod ((Int.bmod (31 * d0) 18446744073709551616) + (V 4 k.toNat + 4 * V 9 k.toNat)) 18446744073709551616)) 18446744073709551616) + (V 5 k.toNat)) 18446744073709551616)) 18446744073709551616) + (V 6 k.toNat)) 18446744073709551616)) 18446744073709551616) + (V 7 k.toNat)) 18446744073709551616)) 18446744073709551616) + (V 8 k.toNat)) 18446744073709551616)), (4, xI 4), (0, xR 195), (3, xI k)] rfl (by decide) rfl dX7_digest_56 ?_
        refine x_iinc G [(4, xI 5), (1, xL (Int.bmod ((Int.bmod (31 * (Int.bmod ((Int.bmod (31 * (Int.bmod ((Int.bmod (31 * (Int.bmod ((Int.bmod (31 * (Int.bmod ((Int.bmod (31 * d0) 18446744073709551616) + (V 4 k.toNat + 4 * V 9 k.toNat)) 18446744073709551616)) 18446744073709551616) + (V 5 k.toNat)) 18446744073709551616)) 18446744073709551616) + (V 6 k.toNat)) 18446744073709551616)) 18446744073709551616) + (V 7 k.toNat)) 18446744073709551616)) 18446744073709551616) + (V 8 k.toNat)) 18446744073709551616)), (0, xR 195), (3, xI k)] 1 rfl (by decide) (by omega) rfl dX7_digest_57 ?_
        refine x_goto G 19 (by decide) dX7_digest_60 ?_
        refine x_iload G 0 rfl dX7_digest_19 ?_
        refine x_iconst G (by decide) dX7_digest_21 ?_
        refine x_icmp_ge G 63 (by decide) dX7_digest_22 (fun _ => ?_) (fun c22 => absurd c22 (by decide))
        refine x_iinc G [(3, xI (k + 1)), (4, xI 5), (1, xL (Int.bmod ((Int.bmod (31 * (Int.bmod ((Int.bmod (31 * (Int.bmod ((Int.bmod (31 * (Int.bmod ((Int.bmod (31 * (Int.bmod ((Int.bmod (31 * d0) 18446744073709551616) + (V 4 k.toNat + 4 * V 9 k.toNat)) 18446744073709551616)) 18446744073709551616) + (V 5 k.toNat)) 18446744073709551616)) 18446744073709551616) + (V 6 k.toNat)) 18446744073709551616)) 18446744073709551616) + (V 7 k.toNat)) 18446744073709551616)) 18446744073709551616) + (V 8 k.toNat)) 18446744073709551616)), (0, xR 195)] 3 rfl (by decide) (by omega) rfl dX7_digest_63 ?_
        refine x_goto G 6 (by decide) dX7_digest_66 ?_
        refine x_sub [(0, xR 195), (1, xL (Int.bmod ((Int.bmod (31 * (Int.bmod ((Int.bmod (31 * (Int.bmod ((Int.bmod (31 * (Int.bmod ((Int.bmod (31 * (Int.bmod ((Int.bmod (31 * d0) 18446744073709551616) + (V 4 k.toNat + 4 * V 9 k.toNat)) 18446744073709551616)) 18446744073709551616) + (V 5 k.toNat)) 18446744073709551616)) 18446744073709551616) + (V 6 k.toNat)) 18446744073709551616)) 18446744073709551616) + (V 7 k.toNat)) 18446744073709551616)) 18446744073709551616) + (V 8 k.toNat)) 18446744073709551616)), (3, xI (k + 1))] [3, 2, 0] rfl ?_
        exact ih6 _ (by omega) (k + 1) (Int.bmod ((Int.bmod (31 * (Int.bmod ((Int.bmod (31 * (Int.bmod ((Int.bmod (31 * (Int.bmod ((Int.bmod (31 * (Int.bmod ((Int.bmod (31 * d0) 18446744073709551616) + (V 4 k.toNat + 4 * V 9 k.toNat)) 18446744073709551616)) 18446744073709551616) + (V 5 k.toNat)) 18446744073709551616)) 18446744073709551616) + (V 6 k.toNat)) 18446744073709551616)) 18446744073709551616) + (V 7 k.toNat)) 18446744073709551616)) 18446744073709551616) + (V 8 k.toNat)) 18446744073709551616) rfl (by omega) (by rw [show (k + 1).toNat = k.toNat + 1 by omega]; unfold dig; rw [← hd]; first | (rw [if_pos (by omega), show V 4 k.toNat + 4 * V 9 k.toNat = V 4 k.toNat by omega]; rfl) | (rw [if_neg (by omega)]; rfl))
      · skip
        have c40 := b2i_ne0.mp c40
        refine x_iconst G (by decide) dX7_digest_43 ?_
        refine x_goto G 54 (by decide) dX7_digest_44 ?_
        refine x_i2l G dX7_digest_54 ?_
        refine x_laddW G dX7_digest_55 ?_
        refine x_lstore_n G [(1, xL (Int.bmod ((Int.bmod (31 * d0) 18446744073709551616) + 4) 18446744073709551616)), (4, xI 0), (0, xR 195), (3, xI k)] rfl (by decide) rfl dX7_digest_56 ?_
        refine x_iinc G [(4, xI 1), (1, xL (Int.bmod ((Int.bmod (31 * d0) 18446744073709551616) + 4) 18446744073709551616)), (0, xR 195), (3, xI k)] 1 rfl (by decide) (by omega) rfl dX7_digest_57 ?_
        refine x_goto G 19 (by decide) dX7_digest_60 ?_
        refine x_iload G 0 rfl dX7_digest_19 ?_
        refine x_iconst G (by decide) dX7_digest_21 ?_
        refine x_icmp_ge G 63 (by decide) dX7_digest_22 (fun c22 => absurd c22 (by decide)) (fun _ => ?_)
        refine x_ldc2 G (z := 31) (by decide) kc_X7_280 dX7_digest_25 ?_
        refine x_lload_n G 1 rfl rfl dX7_digest_28 ?_
        refine x_lmulW G dX7_digest_29 ?_
        refine x_iload G 0 rfl dX7_digest_30 ?_
        refine x_if_ne G 47 (by decide) dX7_digest_32 (fun _ => ?_) (fun c32 => absurd c32 (by decide))
        refine x_aload_n G 2 rfl rfl dX7_digest_47 ?_
        refine x_iload_n G 3 rfl rfl dX7_digest_48 ?_
        refine x_iload G 0 rfl dX7_digest_49 ?_
        refine x_callVp G [xL (Int.bmod (31 * (Int.bmod ((Int.bmod (31 * d0) 18446744073709551616) + 4) 18446744073709551616)) 18446744073709551616)] [xI k, xI 1] rfl (by decide) (ly_n hY 195 (by decide)) (ly_k hY 195 (by decide)) hy_X7_item hi_X7_item hs_X7_item ml_X7_58 rfl rfl (kX7_item_1 _ _ V k hY hN hv (by omega)) (by decide) (by decide) (Nat.le_of_ble_eq_true rfl) dX7_digest_51 ?_
        refine x_i2l G dX7_digest_54 ?_
        refine x_laddW G dX7_digest_55 ?_
        refine x_lstore_n G [(1, xL (Int.bmod ((Int.bmod (31 * (Int.bmod ((Int.bmod (31 * d0) 18446744073709551616) + 4) 18446744073709551616)) 18446744073709551616) + (V 5 k.toNat)) 18446744073709551616)), (4, xI 1), (0, xR 195), (3, xI k)] rfl (by decide) rfl dX7_digest_56 ?_
        refine x_iinc G [(4, xI 2), (1, xL (Int.bmod ((Int.bmod (31 * (Int.bmod ((Int.bmod (31 * d0) 18446744073709551616) + 4) 18446744073709551616)) 18446744073709551616) + (V 5 k.toNat)) 18446744073709551616)), (0, xR 195), (3, xI k)] 1 rfl (by decide) (by omega) rfl dX7_digest_57 ?_
        refine x_goto G 19 (by decide) dX7_digest_60 ?_
        refine x_iload G 0 rfl dX7_digest_19 ?_
        refine x_iconst G (by decide) dX7_digest_21 ?_
        refine x_icmp_ge G 63 (by decide) dX7_digest_22 (fun c22 => absurd c22 (by decide)) (fun _ => ?_)
        refine x_ldc2 G (z := 31) (by decide) kc_X7_280 dX7_digest_25 ?_
        refine x_lload_n G 1 rfl rfl dX7_digest_28 ?_
        refine x_lmulW G dX7_digest_29 ?_
        refine x_iload G 0 rfl dX7_digest_30 ?_
        refine x_if_ne G 47 (by decide) dX7_digest_32 (fun _ => ?_) (fun c32 => absurd c32 (by decide))
        refine x_aload_n G 2 rfl rfl dX7_digest_47 ?_
        refine x_iload_n G 3 rfl rfl dX7_digest_48 ?_
        refine x_iload G 0 rfl dX7_digest_49 ?_
        refine x_callVp G [xL (Int.bmod (31 * (Int.bmod ((Int.bmod (31 * (Int.bmod ((Int.bmod (31 * d0) 18446744073709551616) + 4) 18446744073709551616)) 18446744073709551616) + (V 5 k.toNat)) 18446744073709551616)) 18446744073709551616)] [xI k, xI 2] rfl (by decide) (ly_n hY 195 (by decide)) (ly_k hY 195 (by decide)) hy_X7_item hi_X7_item hs_X7_item ml_X7_58 rfl rfl (kX7_item_2 _ _ V k hY hN hv (by omega)) (by decide) (by decide) (Nat.le_of_ble_eq_true rfl) dX7_digest_51 ?_
        refine x_i2l G dX7_digest_54 ?_
        refine x_laddW G dX7_digest_55 ?_
        refine x_lstore_n G [(1, xL (Int.bmod ((Int.bmod (31 * (Int.bmod ((Int.bmod (31 * (Int.bmod ((Int.bmod (31 * d0) 18446744073709551616) + 4) 18446744073709551616)) 18446744073709551616) + (V 5 k.toNat)) 18446744073709551616)) 18446744073709551616) + (V 6 k.toNat)) 18446744073709551616)), (4, xI 2), (0, xR 195), (3, xI k)] rfl (by decide) rfl dX7_digest_56 ?_
        refine x_iinc G [(4, xI 3), (1, xL (Int.bmod ((Int.bmod (31 * (Int.bmod ((Int.bmod (31 * (Int.bmod ((Int.bmod (31 * d0) 18446744073709551616) + 4) 18446744073709551616)) 18446744073709551616) + (V 5 k.toNat)) 18446744073709551616)) 18446744073709551616) + (V 6 k.toNat)) 18446744073709551616)), (0, xR 195), (3, xI k)] 1 rfl (by decide) (by omega) rfl dX7_digest_57 ?_
        refine x_goto G 19 (by decide) dX7_digest_60 ?_
        refine x_iload G 0 rfl dX7_digest_19 ?_
        refine x_iconst G (by decide) dX7_digest_21 ?_
        refine x_icmp_ge G 63 (by decide) dX7_digest_22 (fun c22 => absurd c22 (by decide)) (fun _ => ?_)
        refine x_ldc2 G (z := 31) (by decide) kc_X7_280 dX7_digest_25 ?_
        refine x_lload_n G 1 rfl rfl dX7_digest_28 ?_
        refine x_lmulW G dX7_digest_29 ?_
        refine x_iload G 0 rfl dX7_digest_30 ?_
        refine x_if_ne G 47 (by decide) dX7_digest_32 (fun _ => ?_) (fun c32 => absurd c32 (by decide))
        refine x_aload_n G 2 rfl rfl dX7_digest_47 ?_
        refine x_iload_n G 3 rfl rfl dX7_digest_48 ?_
        refine x_iload G 0 rfl dX7_digest_49 ?_
        refine x_callVp G [xL (Int.bmod (31 * (Int.bmod ((Int.bmod (31 * (Int.bmod ((Int.bmod (31 * (Int.bmod ((Int.bmod (31 * d0) 18446744073709551616) + 4) 18446744073709551616)) 18446744073709551616) + (V 5 k.toNat)) 18446744073709551616)) 18446744073709551616) + (V 6 k.toNat)) 18446744073709551616)) 18446744073709551616)] [xI k, xI 3] rfl (by decide) (ly_n hY 195 (by decide)) (ly_k hY 195 (by decide)) hy_X7_item hi_X7_item hs_X7_item ml_X7_58 rfl rfl (kX7_item_3 _ _ V k hY hN hv (by omega)) (by decide) (by decide) (Nat.le_of_ble_eq_true rfl) dX7_digest_51 ?_
        refine x_i2l G dX7_digest_54 ?_
        refine x_laddW G dX7_digest_55 ?_
        refine x_lstore_n G [(1, xL (Int.bmod ((Int.bmod (31 * (Int.bmod ((Int.bmod (31 * (Int.bmod ((Int.bmod (31 * (Int.bmod ((Int.bmod (31 * d0) 18446744073709551616) + 4) 18446744073709551616)) 18446744073709551616) + (V 5 k.toNat)) 18446744073709551616)) 18446744073709551616) + (V 6 k.toNat)) 18446744073709551616)) 18446744073709551616) + (V 7 k.toNat)) 18446744073709551616)), (4, xI 3), (0, xR 195), (3, xI k)] rfl (by decide) rfl dX7_digest_56 ?_
        refine x_iinc G [(4, xI 4), (1, xL (Int.bmod ((Int.bmod (31 * (Int.bmod ((Int.bmod (31 * (Int.bmod ((Int.bmod (31 * (Int.bmod ((Int.bmod (31 * d0) 18446744073709551616) + 4) 18446744073709551616)) 18446744073709551616) + (V 5 k.toNat)) 18446744073709551616)) 18446744073709551616) + (V 6 k.toNat)) 18446744073709551616)) 18446744073709551616) + (V 7 k.toNat)) 18446744073709551616)), (0, xR 195), (3, xI k)] 1 rfl (by decide) (by omega) rfl dX7_digest_57 ?_
        refine x_goto G 19 (by decide) dX7_digest_60 ?_
        refine x_iload G 0 rfl dX7_digest_19 ?_
        refine x_iconst G (by decide) dX7_digest_21 ?_
        refine x_icmp_ge G 63 (by decide) dX7_digest_22 (fun c22 => absurd c22 (by decide)) (fun _ => ?_)
        refine x_ldc2 G (z := 31) (by decide) kc_X7_280 dX7_digest_25 ?_
        refine x_lload_n G 1 rfl rfl dX7_digest_28 ?_
        refine x_lmulW G dX7_digest_29 ?_
        refine x_iload G 0 rfl dX7_digest_30 ?_
        refine x_if_ne G 47 (by decide) dX7_digest_32 (fun _ => ?_) (fun c32 => absurd c32 (by decide))
        refine x_aload_n G 2 rfl rfl dX7_digest_47 ?_
        refine x_iload_n G 3 rfl rfl dX7_digest_48 ?_
        refine x_iload G 0 rfl dX7_digest_49 ?_
        refine x_callVp G [xL (Int.bmod (31 * (Int.bmod ((Int.bmod (31 * (Int.bmod ((Int.bmod (31 * (Int.bmod ((Int.bmod (31 * (Int.bmod ((Int.bmod (31 * d0) 18446744073709551616) + 4) 18446744073709551616)) 18446744073709551616) + (V 5 k.toNat)) 18446744073709551616)) 18446744073709551616) + (V 6 k.toNat)) 18446744073709551616)) 18446744073709551616) + (V 7 k.toNat)) 18446744073709551616)) 18446744073709551616)] [xI k, xI 4] rfl (by decide) (ly_n hY 195 (by decide)) (ly_k hY 195 (by decide)) hy_X7_item hi_X7_item hs_X7_item ml_X7_58 rfl rfl (kX7_item_4 _ _ V k hY hN hv (by omega)) (by decide) (by decide) (Nat.le_of_ble_eq_true rfl) dX7_digest_51 ?_
        refine x_i2l G dX7_digest_54 ?_
        refine x_laddW G dX7_digest_55 ?_
        refine x_lstore_n G [(1, xL (Int.bmod ((Int.bmod (31 * (Int.bmod ((Int.bmod (31 * (Int.bmod ((Int.bmod (31 * (Int.bmod ((Int.bmod (31 * (Int.bmod ((Int.bmod (31 * d0) 18446744073709551616) + 4) 18446744073709551616)) 18446744073709551616) + (V 5 k.toNat)) 18446744073709551616)) 18446744073709551616) + (V 6 k.toNat)) 18446744073709551616)) 18446744073709551616) + (V 7 k.toNat)) 18446744073709551616)) 18446744073709551616) + (V 8 k.toNat)) 18446744073709551616)), (4, xI 4), (0, xR 195), (3, xI k)] rfl (by decide) rfl dX7_digest_56 ?_
        refine x_iinc G [(4, xI 5), (1, xL (Int.bmod ((Int.bmod (31 * (Int.bmod ((Int.bmod (31 * (Int.bmod ((Int.bmod (31 * (Int.bmod ((Int.bmod (31 * (Int.bmod ((Int.bmod (31 * d0) 18446744073709551616) + 4) 18446744073709551616)) 18446744073709551616) + (V 5 k.toNat)) 18446744073709551616)) 18446744073709551616) + (V 6 k.toNat)) 18446744073709551616)) 18446744073709551616) + (V 7 k.toNat)) 18446744073709551616)) 18446744073709551616) + (V 8 k.toNat)) 18446744073709551616)), (0, xR 195), (3, xI k)] 1 rfl (by decide) (by omega) rfl dX7_digest_57 ?_
        refine x_goto G 19 (by decide) dX7_digest_60 ?_
        refine x_iload G 0 rfl dX7_digest_19 ?_
        refine x_iconst G (by decide) dX7_digest_21 ?_
        refine x_icmp_ge G 63 (by decide) dX7_digest_22 (fun _ => ?_) (fun c22 => absurd c22 (by decide))
        refine x_iinc G [(3, xI (k + 1)), (4, xI 5), (1, xL (Int.bmod ((Int.bmod (31 * (Int.bmod ((Int.bmod (31 * (Int.bmod ((Int.bmod (31 * (Int.bmod ((Int.bmod (31 * (Int.bmod ((Int.bmod (31 * d0) 18446744073709551616) + 4) 18446744073709551616)) 18446744073709551616) + (V 5 k.toNat)) 18446744073709551616)) 18446744073709551616) + (V 6 k.toNat)) 18446744073709551616)) 18446744073709551616) + (V 7 k.toNat)) 18446744073709551616)) 18446744073709551616) + (V 8 k.toNat)) 18446744073709551616)), (0, xR 195)] 3 rfl (by decide) (by omega) rfl dX7_digest_63 ?_
        refine x_goto G 6 (by decide) dX7_digest_66 ?_
        refine x_sub [(0, xR 195), (1, xL (Int.bmod ((Int.bmod (31 * (Int.bmod ((Int.bmod (31 * (Int.bmod ((Int.bmod (31 * (Int.bmod ((Int.bmod (31 * (Int.bmod ((Int.bmod (31 * d0) 18446744073709551616) + 4) 18446744073709551616)) 18446744073709551616) + (V 5 k.toNat)) 18446744073709551616)) 18446744073709551616) + (V 6 k.toNat)) 18446744073709551616)) 18446744073709551616) + (V 7 k.toNat)) 18446744073709551616)) 18446744073709551616) + (V 8 k.toNat)) 18446744073709551616)), (3, xI (k + 1))] [3, 2, 0] rfl ?_
        exact ih6 _ (by omega) (k + 1) (Int.bmod ((Int.bmod (31 * (Int.bmod ((Int.bmod (31 * (Int.bmod ((Int.bmod (31 * (Int.bmod ((Int.bmod (31 * (Int.bmod ((Int.bmod (31 * d0) 18446744073709551616) + 4) 18446744073709551616)) 18446744073709551616) + (V 5 k.toNat)) 18446744073709551616)) 18446744073709551616) + (V 6 k.toNat)) 18446744073709551616)) 18446744073709551616) + (V 7 k.toNat)) 18446744073709551616)) 18446744073709551616) + (V 8 k.toNat)) 18446744073709551616) rfl (by omega) (by rw [show (k + 1).toNat = k.toNat + 1 by omega]; unfold dig; rw [← hd]; first | (rw [if_pos (by omega), show V 4 k.toNat + 4 * V 9 k.toNat = V 4 k.toNat by omega]; rfl) | (rw [if_neg (by omega)]; rfl))
  refine x_sub [(0, xR 195), (1, xL 17), (3, xI 0)] [2, 1, 0] rfl ?_
  exact loop6 _ 0 17 rfl (by omega) (rfl)
theorem kp_0 {kp : Int} (h : 0 ≤ kp ∧ kp ≤ 3) : bit kp 0 ↔ kp % 2 = 1 := by
  have : kp = 0 ∨ kp = 1 ∨ kp = 2 ∨ kp = 3 := by omega
  rcases this with rfl | rfl | rfl | rfl <;> decide
theorem kp_1 {kp : Int} (h : 0 ≤ kp ∧ kp ≤ 3) : bit kp 1 ↔ kp / 2 = 1 := by
  have : kp = 0 ∨ kp = 1 ∨ kp = 2 ∨ kp = 3 := by omega
  rcases this with rfl | rfl | rfl | rfl <;> decide
set_option maxRecDepth 100000 in
set_option maxHeartbeats 4000000 in
theorem kX7_count (D : xD) (l : Launch) {n : Nat} {T : xT} {M : xM} (V : xM) (kp what : Int) (hY : LayOK n T) (hN : mrel (M 196) V) (hv : VOK V) (hkp : 0 ≤ kp ∧ kp ≤ 3) (hk0 : M 199 0 = b2i (bit kp 0)) (hk1 : M 199 1 = b2i (bit kp 1)) : xC D l uX7_count 4 85 0 0 [xR 195, xI what] n T M (xPI n T (fun z M2 => z = qCount V (M 195 2) (M 195 18) kp what ∧ M2 = M)) := by
  refine x_met uX7_count (by decide) (Nat.le_of_ble_eq_true rfl) ?_
  intro Γ G Rt _
  have G : xG Γ RX7 cX7_count 5 4 85 0 0 := G
  have Rt : xRt Γ (xPI n T (fun z M2 => z = qCount V (M 195 2) (M 195 18) kp what ∧ M2 = M)) (some .int) 0 0 := Rt
  show xX Γ 0 0 n T 0 [(0, xR 195), (1, xI what)] [] M
  have hc := ok_c hv
  have hb0 := kp_0 hkp
  have hb1 := kp_1 hkp
  refine x_iconst G (by decide) dX7_count_0 ?_
  refine x_istore_n G [(2, xI 0), (0, xR 195), (1, xI what)] rfl (by decide) rfl dX7_count_1 ?_
  refine x_iconst G (by decide) dX7_count_2 ?_
  refine x_istore_n G [(3, xI 0), (2, xI 0), (0, xR 195), (1, xI what)] rfl (by decide) rfl dX7_count_3 ?_
  refine x_iconst G (by decide) dX7_count_4 ?_
  refine x_istore G [(4, xI 0), (3, xI 0), (2, xI 0), (0, xR 195), (1, xI what)] (by decide) rfl dX7_count_5 ?_
  have loop7 : ∀ (d : Nat) (k : Int) (q : Int) (p : Int), (V 0 10 - k).toNat = d → (0 ≤ k ∧ k ≤ V 0 10) → (q = fb_si (fun j => b2i (und V j (-1) (-1))) k.toNat) → (p = fb_si (fun j => b2i (und V j (-1) (-1) ∧ alv V j (V 0 11))) k.toNat) → xX Γ 0 0 n T 7 [(0, xR 195), (1, xI what), (2, xI q), (3, xI p), (4, xI k)] [] M := by
    intro d
    induction d using Nat.strongRecOn with
    | ind d ih7 =>
    intro k q p hd7 hk hn1 hn2
    have hbq := si_b (fun j => und V j (-1) (-1)) k.toNat
    have hbp := si_b (fun j => und V j (-1) (-1) ∧ alv V j (V 0 11)) k.toNat
    refine x_iload G 4 rfl dX7_count_7 ?_
    refine x_aload_n G 0 rfl rfl dX7_count_9 ?_
    refine x_get G (xR 196) xf7_0 lk_X7_7 (ly_n hY 195 (by decide)) (ly_k hY 195 (by decide)) (Or.inr ⟨rfl, _, (ly_r hY 195 0 (by decide) (by decide)), rfl⟩) dX7_count_10 ?_
    refine x_iconst G (by decide) dX7_count_13 ?_
    refine x_iald G (ly_n hY 196 (by decide)) (ly_k hY 196 (by decide)) (show _ = 511 from ly_l hY 196 (by decide)) (by omega) (by omega) dX7_count_14 ?_
    show xX Γ 0 0 n T 15 [(0, xR 195), (1, xI what), (2, xI q), (3, xI p), (4, xI k)] [xI (M 196 2), xI k] M
    rw [show M 196 2 = (V 0 10) from hN.1.2.2]
    refine x_icmp_ge G 58 (by decide) dX7_count_15 (fun c15 => ?_) (fun c15 => ?_)
    · skip
      have hqe : q = cntU V (-1) (-1) := by (unfold cntU; rw [hn1, show k = V 0 10 by omega])
      have hpe : p = cntA V (-1) (-1) := by (unfold cntA; rw [hn2, show k = V 0 10 by omega])
      refine x_iload_n G 1 rfl rfl dX7_count_58 ?_
      by_cases k59_0 : what = 0
      · refine x_tabIn G 104 (by omega) (by omega) (by rw [k59_0]; rfl) (by decide) dX7_count_59 ?_
        refine x_aload_n G 0 rfl rfl dX7_count_104 ?_
        refine x_get G (xR 196) xf7_0 lk_X7_7 (ly_n hY 195 (by decide)) (ly_k hY 195 (by decide)) (Or.inr ⟨rfl, _, (ly_r hY 195 0 (by decide) (by decide)), rfl⟩) dX7_count_105 ?_
        refine x_iconst G (by decide) dX7_count_108 ?_
        refine x_iald G (ly_n hY 196 (by decide)) (ly_k hY 196 (by decide)) (show _ = 511 from ly_l hY 196 (by decide)) (by omega) (by omega) dX7_count_109 ?_
        show xX Γ 0 0 n T 110 [(0, xR 195), (1, xI what), (2, xI q), (3, xI p), (4, xI k)] [xI (M 196 2)] M
        rw [show M 196 2 = (V 0 10) from hN.1.2.2]
        exact x_iret G Rt dX7_count_110 ⟨rfl, rfl, _, rfl, ⟨(by unfold qCount; (repeat (first | rw [if_pos (by omega)] | rw [if_neg (by omega)])) <;> try rfl), rfl⟩⟩
      by_cases k59_1 : what = 1
      · refine x_tabIn G 111 (by omega) (by omega) (by rw [k59_1]; rfl) (by decide) dX7_count_59 ?_
        refine x_iload_n G 2 rfl rfl dX7_count_111 ?_
        exact x_iret G Rt dX7_count_112 ⟨rfl, rfl, _, rfl, ⟨(by unfold qCount; rw [if_neg (by omega), if_pos (by omega)]; exact hqe), rfl⟩⟩
      by_cases k59_2 : what = 2
      · refine x_tabIn G 113 (by omega) (by omega) (by rw [k59_2]; rfl) (by decide) dX7_count_59 ?_
        refine x_aload_n G 0 rfl rfl dX7_count_113 ?_
        refine x_get G (xR 196) xf7_0 lk_X7_7 (ly_n hY 195 (by decide)) (ly_k hY 195 (by decide)) (Or.inr ⟨rfl, _, (ly_r hY 195 0 (by decide) (by decide)), rfl⟩) dX7_count_114 ?_
        refine x_iconst G (by decide) dX7_count_117 ?_
        refine x_iald G (ly_n hY 196 (by decide)) (ly_k hY 196 (by decide)) (show _ = 511 from ly_l hY 196 (by decide)) (by omega) (by omega) dX7_count_118 ?_
        show xX Γ 0 0 n T 119 [(0, xR 195), (1, xI what), (2, xI q), (3, xI p), (4, xI k)] [xI (M 196 0)] M
        rw [show M 196 0 = (V 0 11) from hN.1.1]
        exact x_iret G Rt dX7_count_119 ⟨rfl, rfl, _, rfl, ⟨(by unfold qCount; (repeat (first | rw [if_pos (by omega)] | rw [if_neg (by omega)])) <;> try rfl), rfl⟩⟩
      by_cases k59_3 : what = 3
      · refine x_tabIn G 120 (by omega) (by omega) (by rw [k59_3]; rfl) (by decide) dX7_count_59 ?_
        refine x_aload_n G 0 rfl rfl dX7_count_120 ?_
        refine x_get G (xR 196) xf7_0 lk_X7_7 (ly_n hY 195 (by decide)) (ly_k hY 195 (by decide)) (Or.inr ⟨rfl, _, (ly_r hY 195 0 (by decide) (by decide)), rfl⟩) dX7_count_121 ?_
        refine x_iconst G (by decide) dX7_count_124 ?_
        refine x_iald G (ly_n hY 196 (by decide)) (ly_k hY 196 (by decide)) (show _ = 511 from ly_l hY 196 (by decide)) (by omega) (by omega) dX7_count_125 ?_
        show xX Γ 0 0 n T 126 [(0, xR 195), (1, xI what), (2, xI q), (3, xI p), (4, xI k)] [xI (M 196 1)] M
        rw [show M 196 1 = (V 0 12) from hN.1.2.1]
        exact x_iret G Rt dX7_count_126 ⟨rfl, rfl, _, rfl, ⟨(by unfold qCount; (repeat (first | rw [if_pos (by omega)] | rw [if_neg (by omega)])) <;> try rfl), rfl⟩⟩
      by_cases k59_4 : what = 4
      · refine x_tabIn G 127 (by omega) (by omega) (by rw [k59_4]; rfl) (by decide) dX7_count_59 ?_
        refine x_aload_n G 0 rfl rfl dX7_count_127 ?_
        refine x_get G (xI (M 195 2)) xf7_2 lk_X7_209 (ly_n hY 195 (by decide)) (ly_k hY 195 (by decide)) (Or.inl ⟨rfl, rfl⟩) dX7_count_128 ?_
        exact x_iret G Rt dX7_count_131 ⟨rfl, rfl, _, rfl, ⟨(by unfold qCount; (repeat (first | rw [if_pos (by omega)] | rw [if_neg (by omega)])) <;> try rfl), rfl⟩⟩
      by_cases k59_5 : what = 5
      · refine x_tabIn G 132 (by omega) (by omega) (by rw [k59_5]; rfl) (by decide) dX7_count_59 ?_
        refine x_aload_n G 0 rfl rfl dX7_count_132 ?_
        refine x_get G (xI (M 195 18)) xf7_18 lk_X7_282 (ly_n hY 195 (by decide)) (ly_k hY 195 (by decide)) (Or.inl ⟨rfl, rfl⟩) dX7_count_133 ?_
        exact x_iret G Rt dX7_count_136 ⟨rfl, rfl, _, rfl, ⟨(by unfold qCount; (repeat (first | rw [if_pos (by omega)] | rw [if_neg (by omega)])) <;> try rfl), rfl⟩⟩
      by_cases k59_6 : what = 6
      · refine x_tabIn G 137 (by omega) (by omega) (by rw [k59_6]; rfl) (by decide) dX7_count_59 ?_
        refine x_aload_n G 0 rfl rfl dX7_count_137 ?_
        refine x_get G (xR 199) xf7_4 lk_X7_19 (ly_n hY 195 (by decide)) (ly_k hY 195 (by decide)) (Or.inr ⟨rfl, _, (ly_r hY 195 4 (by decide) (by decide)), rfl⟩) dX7_count_138 ?_
        refine x_iconst G (by decide) dX7_count_141 ?_
        refine x_zald G (ly_n hY 199 (by decide)) (ly_k hY 199 (by decide)) (show _ = 2 from ly_l hY 199 (by decide)) (by omega) (by omega) dX7_count_142 ?_
        show xX Γ 0 0 n T 143 [(0, xR 195), (1, xI what), (2, xI q), (3, xI p), (4, xI k)] [xI (M 199 0)] M
        rw [hk0]
        skip
        refine x_if_eq G 150 (by decide) dX7_count_143 (fun c143 => ?_) (fun c143 => ?_)
        · skip
          have c143 := b2i_eq0.mp c143
          refine x_iconst G (by decide) dX7_count_150 ?_
          refine x_aload_n G 0 rfl rfl dX7_count_151 ?_
          refine x_get G (xR 199) xf7_4 lk_X7_19 (ly_n hY 195 (by decide)) (ly_k hY 195 (by decide)) (Or.inr ⟨rfl, _, (ly_r hY 195 4 (by decide) (by decide)), rfl⟩) dX7_count_152 ?_
          refine x_iconst G (by decide) dX7_count_155 ?_
          refine x_zald G (ly_n hY 199 (by decide)) (ly_k hY 199 (by decide)) (show _ = 2 from ly_l hY 199 (by decide)) (by omega) (by omega) dX7_count_156 ?_
          show xX Γ 0 0 n T 157 [(0, xR 195), (1, xI what), (2, xI q), (3, xI p), (4, xI k)] [xI (M 199 1), xI 0] M
          rw [hk1]
          skip
          refine x_if_eq G 164 (by decide) dX7_count_157 (fun c157 => ?_) (fun c157 => ?_)
          · skip
            have c157 := b2i_eq0.mp c157
            refine x_iconst G (by decide) dX7_count_164 ?_
            refine x_iadd G (by decide) dX7_count_165 ?_
            show xX Γ 0 0 n T 166 [(0, xR 195), (1, xI what), (2, xI q), (3, xI p), (4, xI k)] [xI 0] M
            exact x_iret G Rt dX7_count_166 ⟨rfl, rfl, _, rfl, ⟨(by unfold qCount; (repeat (first | rw [if_pos (by omega)] | rw [if_neg (by omega)])); omega), rfl⟩⟩
          · skip
            have c157 := b2i_ne0.mp c157
            refine x_iconst G (by decide) dX7_count_160 ?_
            refine x_goto G 165 (by decide) dX7_count_161 ?_
            refine x_iadd G (by decide) dX7_count_165 ?_
            show xX Γ 0 0 n T 166 [(0, xR 195), (1, xI what), (2, xI q), (3, xI p), (4, xI k)] [xI 2] M
            exact x_iret G Rt dX7_count_166 ⟨rfl, rfl, _, rfl, ⟨(by unfold qCount; (repeat (first | rw [if_pos (by omega)] | rw [if_neg (by omega)])); omega), rfl⟩⟩
        · skip
          have c143 := b2i_ne0.mp c143
          refine x_iconst G (by decide) dX7_count_146 ?_
          refine x_goto G 151 (by decide) dX7_count_147 ?_
          refine x_aload_n G 0 rfl rfl dX7_count_151 ?_
          refine x_get G (xR 199) xf7_4 lk_X7_19 (ly_n hY 195 (by decide)) (ly_k hY 195 (by decide)) (Or.inr ⟨rfl, _, (ly_r hY 195 4 (by decide) (by decide)), rfl⟩) dX7_count_152 ?_
          refine x_iconst G (by decide) dX7_count_155 ?_
          refine x_zald G (ly_n hY 199 (by decide)) (ly_k hY 199 (by decide)) (show _ = 2 from ly_l hY 199 (by decide)) (by omega) (by omega) dX7_count_156 ?_
          show xX Γ 0 0 n T 157 [(0, xR 195), (1, xI what), (2, xI q), (3, xI p), (4, xI k)] [xI (M 199 1), xI 1] M
          rw [hk1]
          skip
          refine x_if_eq G 164 (by decide) dX7_count_157 (fun c157 => ?_) (fun c157 => ?_)
          · skip
            have c157 := b2i_eq0.mp c157
            refine x_iconst G (by decide) dX7_count_164 ?_
            refine x_iadd G (by decide) dX7_count_165 ?_
            show xX Γ 0 0 n T 166 [(0, xR 195), (1, xI what), (2, xI q), (3, xI p), (4, xI k)] [xI 1] M
            exact x_iret G Rt dX7_count_166 ⟨rfl, rfl, _, rfl, ⟨(by unfold qCount; (repeat (first | rw [if_pos (by omega)] | rw [if_neg (by omega)])); omega), rfl⟩⟩
          · skip
            have c157 := b2i_ne0.mp c157
            refine x_iconst G (by decide) dX7_count_160 ?_
            refine x_goto G 165 (by decide) dX7_count_161 ?_
            refine x_iadd G (by decide) dX7_count_165 ?_
            show xX Γ 0 0 n T 166 [(0, xR 195), (1, xI what), (2, xI q), (3, xI p), (4, xI k)] [xI 3] M
            exact x_iret G Rt dX7_count_166 ⟨rfl, rfl, _, rfl, ⟨(by unfold qCount; (repeat (first | rw [if_pos (by omega)] | rw [if_neg (by omega)])); omega), rfl⟩⟩
      by_cases k59_7 : what = 7
      · refine x_tabIn G 167 (by omega) (by omega) (by rw [k59_7]; rfl) (by decide) dX7_count_59 ?_
        refine x_iload_n G 3 rfl rfl dX7_count_167 ?_
        exact x_iret G Rt dX7_count_168 ⟨rfl, rfl, _, rfl, ⟨(by unfold qCount; (repeat (first | rw [if_pos (by omega)] | rw [if_neg (by omega)])); exact hpe), rfl⟩⟩
      refine x_tabOut G 169 (by omega) (by decide) dX7_count_59 ?_
      refine x_iconst G (by decide) dX7_count_169 ?_
      exact x_iret G Rt dX7_count_170 ⟨rfl, rfl, _, rfl, ⟨(by unfold qCount; (repeat (first | rw [if_pos (by omega)] | rw [if_neg (by omega)])) <;> try rfl), rfl⟩⟩
    · skip
      have hit := ok_i hv hk.1 (by omega)
      refine x_iload_n G 2 rfl rfl dX7_count_18 ?_
      refine x_aload_n G 0 rfl rfl dX7_count_19 ?_
      refine x_iload G 4 rfl dX7_count_20 ?_
      refine x_callVp G [xI q] [xI k] rfl (by decide) (ly_n hY 195 (by decide)) (ly_k hY 195 (by decide)) hy_X7_isDropped hi_X7_isDropped hs_X7_isDropped ml_X7_70 rfl rfl (kX7_isDropped _ _ V k hY hN hv (by omega)) (by decide) (by decide) (Nat.le_of_ble_eq_true rfl) dX7_count_22 ?_
      refine x_if_eq G 32 (by decide) dX7_count_25 (fun c25 => ?_) (fun c25 => ?_)
      · skip
        have c25 := b2i_eq0.mp c25
        refine x_iconst G (by decide) dX7_count_32 ?_
        refine x_iadd G (by omega) dX7_count_33 ?_
        refine x_istore_n G [(2, xI (q + 1)), (0, xR 195), (1, xI what), (3, xI p), (4, xI k)] rfl (by decide) rfl dX7_count_34 ?_
        refine x_iload_n G 3 rfl rfl dX7_count_35 ?_
        refine x_aload_n G 1 rfl rfl dX7_count_36 ?_
        refine x_iload G 4 rfl dX7_count_37 ?_
        refine x_callVp G [xI p] [xI k] rfl (by decide) (ly_n hY 195 (by decide)) (ly_k hY 195 (by decide)) hy_X7_isAlive hi_X7_isAlive hs_X7_isAlive ml_X7_134 rfl rfl (kX7_isAlive _ _ V k hY hN hv (by omega)) (by decide) (by decide) (Nat.le_of_ble_eq_true rfl) dX7_count_39 ?_
        refine x_if_eq G 49 (by decide) dX7_count_42 (fun c42 => ?_) (fun c42 => ?_)
        · skip
          have c42 := b2i_eq0.mp c42
          refine x_iconst G (by decide) dX7_count_49 ?_
          refine x_iadd G (by omega) dX7_count_50 ?_
          refine x_istore_n G [(3, xI (p + 0)), (2, xI (q + 1)), (0, xR 195), (1, xI what), (4, xI k)] rfl (by decide) rfl dX7_count_51 ?_
          refine x_iinc G [(4, xI (k + 1)), (3, xI (p + 0)), (2, xI (q + 1)), (0, xR 195), (1, xI what)] 4 rfl (by decide) (by omega) rfl dX7_count_52 ?_
          refine x_goto G 7 (by decide) dX7_count_55 ?_
          refine x_sub [(0, xR 195), (1, xI what), (2, xI (q + 1)), (3, xI (p + 0)), (4, xI (k + 1))] [3, 4, 2, 1, 0] rfl ?_
          exact ih7 _ (by omega) (k + 1) (q + 1) (p + 0) rfl (by omega) (by first | exact si_y hk.1 hn1 ((⟨by omega, Or.inl rfl, Or.inl rfl⟩ : und V k.toNat (-1) (-1))) | (have h8 := si_n (p := fun j => und V j (-1) (-1)) hk.1 hn1 (fun h => by first | exact c42 h.2 | (have h1 := h.1; omega)); omega)) (by first | exact si_y hk.1 hn2 (⟨(⟨by omega, Or.inl rfl, Or.inl rfl⟩ : und V k.toNat (-1) (-1)), c42⟩) | (have h8 := si_n (p := fun j => und V j (-1) (-1) ∧ alv V j (V 0 11)) hk.1 hn2 (fun h => by first | exact c42 h.2 | (have h1 := h.1; omega)); omega))
        · skip
          have c42 := b2i_ne0.mp c42
          refine x_iconst G (by decide) dX7_count_45 ?_
          refine x_goto G 50 (by decide) dX7_count_46 ?_
          refine x_iadd G (by omega) dX7_count_50 ?_
          refine x_istore_n G [(3, xI (p + 1)), (2, xI (q + 1)), (0, xR 195), (1, xI what), (4, xI k)] rfl (by decide) rfl dX7_count_51 ?_
          refine x_iinc G [(4, xI (k + 1)), (3, xI (p + 1)), (2, xI (q + 1)), (0, xR 195), (1, xI what)] 4 rfl (by decide) (by omega) rfl dX7_count_52 ?_
          refine x_goto G 7 (by decide) dX7_count_55 ?_
          refine x_sub [(0, xR 195), (1, xI what), (2, xI (q + 1)), (3, xI (p + 1)), (4, xI (k + 1))] [3, 4, 2, 1, 0] rfl ?_
          exact ih7 _ (by omega) (k + 1) (q + 1) (p + 1) rfl (by omega) (by first | exact si_y hk.1 hn1 ((⟨by omega, Or.inl rfl, Or.inl rfl⟩ : und V k.toNat (-1) (-1))) | (have h8 := si_n (p := fun j => und V j (-1) (-1)) hk.1 hn1 (fun h => by first | exact c42 h.2 | (have h1 := h.1; omega)); omega)) (by first | exact si_y hk.1 hn2 (⟨(⟨by omega, Or.inl rfl, Or.inl rfl⟩ : und V k.toNat (-1) (-1)), c42⟩) | (have h8 := si_n (p := fun j => und V j (-1) (-1) ∧ alv V j (V 0 11)) hk.1 hn2 (fun h => by first | exact c42 h.2 | (have h1 := h.1; omega)); omega))
      · skip
        have c25 := b2i_ne0.mp c25
        refine x_iconst G (by decide) dX7_count_28 ?_
        refine x_goto G 33 (by decide) dX7_count_29 ?_
        refine x_iadd G (by omega) dX7_count_33 ?_
        refine x_istore_n G [(2, xI (q + 0)), (0, xR 195), (1, xI what), (3, xI p), (4, xI k)] rfl (by decide) rfl dX7_count_34 ?_
        refine x_iload_n G 3 rfl rfl dX7_count_35 ?_
        refine x_aload_n G 1 rfl rfl dX7_count_36 ?_
        refine x_iload G 4 rfl dX7_count_37 ?_
        refine x_callVp G [xI p] [xI k] rfl (by decide) (ly_n hY 195 (by decide)) (ly_k hY 195 (by decide)) hy_X7_isAlive hi_X7_isAlive hs_X7_isAlive ml_X7_134 rfl rfl (kX7_isAlive _ _ V k hY hN hv (by omega)) (by decide) (by decide) (Nat.le_of_ble_eq_true rfl) dX7_count_39 ?_
        refine x_if_eq G 49 (by decide) dX7_count_42 (fun c42 => ?_) (fun c42 => ?_)
        · skip
          have c42 := b2i_eq0.mp c42
          refine x_iconst G (by decide) dX7_count_49 ?_
          refine x_iadd G (by omega) dX7_count_50 ?_
          refine x_istore_n G [(3, xI (p + 0)), (2, xI (q + 0)), (0, xR 195), (1, xI what), (4, xI k)] rfl (by decide) rfl dX7_count_51 ?_
          refine x_iinc G [(4, xI (k + 1)), (3, xI (p + 0)), (2, xI (q + 0)), (0, xR 195), (1, xI what)] 4 rfl (by decide) (by omega) rfl dX7_count_52 ?_
          refine x_goto G 7 (by decide) dX7_count_55 ?_
          refine x_sub [(0, xR 195), (1, xI what), (2, xI (q + 0)), (3, xI (p + 0)), (4, xI (k + 1))] [3, 4, 2, 1, 0] rfl ?_
          exact ih7 _ (by omega) (k + 1) (q + 0) (p + 0) rfl (by omega) (by first | exact si_y hk.1 hn1 ((⟨by omega, Or.inl rfl, Or.inl rfl⟩ : und V k.toNat (-1) (-1))) | (have h8 := si_n (p := fun j => und V j (-1) (-1)) hk.1 hn1 (fun h => by first | exact c42 h.2 | (have h1 := h.1; omega)); omega)) (by first | exact si_y hk.1 hn2 (⟨(⟨by omega, Or.inl rfl, Or.inl rfl⟩ : und V k.toNat (-1) (-1)), c42⟩) | (have h8 := si_n (p := fun j => und V j (-1) (-1) ∧ alv V j (V 0 11)) hk.1 hn2 (fun h => by first | exact c42 h.2 | (have h1 := h.1; omega)); omega))
        · skip
          have c42 := b2i_ne0.mp c42
          refine x_iconst G (by decide) dX7_count_45 ?_
          refine x_goto G 50 (by decide) dX7_count_46 ?_
          refine x_iadd G (by omega) dX7_count_50 ?_
          refine x_istore_n G [(3, xI (p + 1)), (2, xI (q + 0)), (0, xR 195), (1, xI what), (4, xI k)] rfl (by decide) rfl dX7_count_51 ?_
          refine x_iinc G [(4, xI (k + 1)), (3, xI (p + 1)), (2, xI (q + 0)), (0, xR 195), (1, xI what)] 4 rfl (by decide) (by omega) rfl dX7_count_52 ?_
          refine x_goto G 7 (by decide) dX7_count_55 ?_
          refine x_sub [(0, xR 195), (1, xI what), (2, xI (q + 0)), (3, xI (p + 1)), (4, xI (k + 1))] [3, 4, 2, 1, 0] rfl ?_
          exact ih7 _ (by omega) (k + 1) (q + 0) (p + 1) rfl (by omega) (by first | exact si_y hk.1 hn1 ((⟨by omega, Or.inl rfl, Or.inl rfl⟩ : und V k.toNat (-1) (-1))) | (have h8 := si_n (p := fun j => und V j (-1) (-1)) hk.1 hn1 (fun h => by first | exact c42 h.2 | (have h1 := h.1; omega)); omega)) (by first | exact si_y hk.1 hn2 (⟨(⟨by omega, Or.inl rfl, Or.inl rfl⟩ : und V k.toNat (-1) (-1)), c42⟩) | (have h8 := si_n (p := fun j => und V j (-1) (-1) ∧ alv V j (V 0 11)) hk.1 hn2 (fun h => by first | exact c42 h.2 | (have h1 := h.1; omega)); omega))
  refine x_sub [(0, xR 195), (1, xI what), (2, xI 0), (3, xI 0), (4, xI 0)] [3, 4, 2, 1, 0] rfl ?_
  exact loop7 _ 0 0 0 rfl (by omega) (rfl) (rfl)
