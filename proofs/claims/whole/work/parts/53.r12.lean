theorem mpk_s {V : xM} {fd k : Nat} {P : Nat → Prop} [DecidablePred P] {f : Nat → Int} (h : P k → f k = V fd k) : mpk V fd k P f = mpk V fd (k + 1) P f := by
  funext q j
  unfold mpk
  by_cases e : q = fd
  · rw [if_pos e, if_pos e]
    by_cases e2 : j = k
    · subst e2
      rw [if_neg (by omega)]
      by_cases g : P j
      · rw [if_pos ⟨by omega, g⟩, h g, e]
      · rw [if_neg (fun h9 => g h9.2)]
    · by_cases e3 : j < k ∧ P j
      · rw [if_pos e3, if_pos ⟨by omega, e3.2⟩]
      · rw [if_neg e3, if_neg (fun g => e3 ⟨by omega, g.2⟩)]
  · rw [if_neg e, if_neg e]
theorem exp_cnt (V : xM) : ∀ n, fb_si (fun j => b2i (V 9 j = 0 ∧ ¬ alv V j (V 0 11))) n = fb_si (fun j => b2i (und V j (-1) (-1))) n - fb_si (fun j => b2i (und V j (-1) (-1) ∧ alv V j (V 0 11))) n := fun n => by
  induction n with
  | zero => rfl
  | succ n ih =>
    rw [fb_si_succ, fb_si_succ, fb_si_succ, ih]
    by_cases g : V 9 n = 0
    · have u : und V n (-1) (-1) := ⟨g, Or.inl rfl, Or.inl rfl⟩
      rw [b2i_t u]
      by_cases a : alv V n (V 0 11)
      · rw [b2i_f (p := V 9 n = 0 ∧ ¬ alv V n (V 0 11)) (fun h => h.2 a), b2i_t (p := und V n (-1) (-1) ∧ alv V n (V 0 11)) ⟨u, a⟩]; omega
      · rw [b2i_t (p := V 9 n = 0 ∧ ¬ alv V n (V 0 11)) ⟨g, a⟩, b2i_f (p := und V n (-1) (-1) ∧ alv V n (V 0 11)) (fun h => a h.2)]; omega
    · rw [b2i_f (p := V 9 n = 0 ∧ ¬ alv V n (V 0 11)) (fun h => g h.1), b2i_f (p := und V n (-1) (-1)) (fun h => g h.1), b2i_f (p := und V n (-1) (-1) ∧ alv V n (V 0 11)) (fun h => g h.1.1)]; omega
theorem mul_w {w m : Int} (hw : 1 ≤ w ∧ w ≤ 20) (hm : 2 ≤ m ∧ m ≤ 20) : 2 ≤ w * m ∧ w * m ≤ 400 := by
  have h1 := Int.mul_le_mul hw.1 hm.1 (by decide) (by omega)
  have h2 := Int.mul_le_mul hw.2 hm.2 (by omega) (by decide)
  omega
set_option maxRecDepth 100000 in
set_option maxHeartbeats 4000000 in
theorem kX7_merge (D : xD) (l : Launch) {n : Nat} {T : xT} {M : xM} (V : xM) (Hs : List xM) (fr to : Int) (hY : LayOK n T) (hN : mrel (M 196) V) (hv : VOK V) (hs : Srt V (V 10) (V 0 10).toNat) (hR : Rk M V) (hH : mhst M Hs) : xC D l uX7_merge 3 66 0 0 [xR 195, xI fr, xI to] n T M (xPI n T (fun z M2 => z = (aMerge V fr to).1 ∧ mrel (M2 196) (nxV V (aMerge V fr to)) ∧ mhst M2 (nxH V Hs (aMerge V fr to)) ∧ Rk M2 (nxV V (aMerge V fr to)) ∧ mafr M M2)) := by
  refine x_met uX7_merge (by decide) (Nat.le_of_ble_eq_true rfl) ?_
  intro Γ G Rt _
  have G : xG Γ RX7 cX7_merge 5 3 66 0 0 := G
  have Rt : xRt Γ (xPI n T (fun z M2 => z = (aMerge V fr to).1 ∧ mrel (M2 196) (nxV V (aMerge V fr to)) ∧ mhst M2 (nxH V Hs (aMerge V fr to)) ∧ Rk M2 (nxV V (aMerge V fr to)) ∧ mafr M M2)) (some .int) 0 0 := Rt
  show xX Γ 0 0 n T 0 [(0, xR 195), (1, xI fr), (2, xI to)] [] M
  have hc := ok_c hv
  refine x_iload_n G 1 rfl rfl dX7_merge_0 ?_
  refine x_callSp G [] [xI fr] hy_X7_isShard ht_X7_isShard ml_X7_143 rfl rfl (kX7_isShard _ _ fr) (by decide) (by decide) (Nat.le_of_ble_eq_true rfl) dX7_merge_1 ?_
  refine x_if_eq G 19 (by decide) dX7_merge_4 (fun c4 => ?_) (fun c4 => ?_)
  · skip
    have c4 := b2i_eq0.mp c4
    refine x_iconst G (by decide) dX7_merge_19 ?_
    exact x_iret G Rt dX7_merge_20 ⟨rfl, rfl, _, rfl, (by
        have e9 : aMerge V fr to = ((-1), none) := (by unfold aMerge; (repeat (first | rw [if_pos (by omega)] | rw [if_neg (by omega)])) <;> try rfl)
        rw [e9]
        exact ⟨rfl, hN, hH, hR, (maf_refl _)⟩)⟩
  · skip
    have c4 := b2i_ne0.mp c4
    refine x_iload_n G 2 rfl rfl dX7_merge_7 ?_
    refine x_callSp G [] [xI to] hy_X7_isShard ht_X7_isShard ml_X7_143 rfl rfl (kX7_isShard _ _ to) (by decide) (by decide) (Nat.le_of_ble_eq_true rfl) dX7_merge_8 ?_
    refine x_if_eq G 19 (by decide) dX7_merge_11 (fun c11 => ?_) (fun c11 => ?_)
    · skip
      have c11 := b2i_eq0.mp c11
      refine x_iconst G (by decide) dX7_merge_19 ?_
      exact x_iret G Rt dX7_merge_20 ⟨rfl, rfl, _, rfl, (by
        have e9 : aMerge V fr to = ((-1), none) := (by unfold aMerge; (repeat (first | rw [if_pos (by omega)] | rw [if_neg (by omega)])) <;> try rfl)
        rw [e9]
        exact ⟨rfl, hN, hH, hR, (maf_refl _)⟩)⟩
    · skip
      have c11 := b2i_ne0.mp c11
      refine x_iload_n G 1 rfl rfl dX7_merge_14 ?_
      refine x_iload_n G 2 rfl rfl dX7_merge_15 ?_
      refine x_icmp_ne G 21 (by decide) dX7_merge_16 (fun c16 => ?_) (fun c16 => ?_)
      · skip
        refine x_aload_n G 0 rfl rfl dX7_merge_21 ?_
        refine x_iload_n G 1 rfl rfl dX7_merge_22 ?_
        refine x_callVp G [] [xI fr] rfl (by decide) (ly_n hY 195 (by decide)) (ly_k hY 195 (by decide)) hy_X7_thereIn hi_X7_thereIn hs_X7_thereIn ml_X7_199 rfl rfl (kX7_thereIn _ _ V fr hY hN hv (by omega)) (by decide) (by decide) (Nat.le_of_ble_eq_true rfl) dX7_merge_23 ?_
        refine x_istore_n G [(3, xI (cntU V fr (-1))), (0, xR 195), (1, xI fr), (2, xI to)] rfl (by decide) rfl dX7_merge_26 ?_
        refine x_iload_n G 0 rfl rfl dX7_merge_27 ?_
        refine x_if_ne G 34 (by decide) dX7_merge_28 (fun c28 => ?_) (fun c28 => ?_)
        · skip
          refine x_aload_n G 1 rfl rfl dX7_merge_34 ?_
          refine x_callVV G [] [] rfl (by decide) (ly_n hY 195 (by decide)) (ly_k hY 195 (by decide)) hy_X7_keepsAct hi_X7_keepsAct hs_X7_keepsAct ml_X7_216 rfl rfl (kX7_keepsAct _ _ V Hs hY hN hv hH) (by decide) (by decide) (Nat.le_of_ble_eq_true rfl) dX7_merge_35 (fun M35 h35 => ?_)
          refine x_iconst G (by decide) dX7_merge_38 ?_
          refine x_istore G [(4, xI 0), (3, xI (cntU V fr (-1))), (0, xR 195), (1, xI fr), (2, xI to)] (by decide) rfl dX7_merge_39 ?_
          have loop41 : ∀ (d : Nat) (k : Int) (N1 : xM), (V 0 10 - k).toNat = d → (0 ≤ k ∧ k ≤ V 0 10) → (mrel (N1 196) (mpk V 4 k.toNat (fun j => und V j fr (-1)) (fun _ => to))) → (mhst N1 ((V :: Hs).take 10)) → (N1 195 10 = 0) → (mafr M N1) → xX Γ 0 0 n T 41 [(0, xR 195), (1, xI fr), (2, xI to), (3, xI (cntU V fr (-1))), (4, xI k)] [] N1 := by
            intro d
            induction d using Nat.strongRecOn with
            | ind d ih41 =>
            intro k N1 hd41 hk hNk hh hr0 hma
            have hvk : VOK (mpk V 4 k.toNat (fun j => und V j fr (-1)) (fun _ => to)) := mpk_ok hv (by decide) (fun j hj => by have g := hv.2.2.1 j hj; simp [itm, xst_eq]; omega)
            have hmc : (mpk V 4 k.toNat (fun j => und V j fr (-1)) (fun _ => to)) 0 10 = V 0 10 := rfl
            have e4 : (mpk V 4 k.toNat (fun j => und V j fr (-1)) (fun _ => to)) 4 k.toNat = V 4 k.toNat := mpk_at (Nat.le_refl _)
            have e5 : (mpk V 4 k.toNat (fun j => und V j fr (-1)) (fun _ => to)) 5 k.toNat = V 5 k.toNat := mpk_at (Nat.le_refl _)
            have e6 : (mpk V 4 k.toNat (fun j => und V j fr (-1)) (fun _ => to)) 6 k.toNat = V 6 k.toNat := mpk_at (Nat.le_refl _)
            have e8 : (mpk V 4 k.toNat (fun j => und V j fr (-1)) (fun _ => to)) 8 k.toNat = V 8 k.toNat := mpk_at (Nat.le_refl _)
            have e9 : (mpk V 4 k.toNat (fun j => und V j fr (-1)) (fun _ => to)) 9 k.toNat = V 9 k.toNat := mpk_at (Nat.le_refl _)
            refine x_iload G 4 rfl dX7_merge_41 ?_
            refine x_aload_n G 0 rfl rfl dX7_merge_43 ?_
            refine x_get G (xR 196) xf7_0 lk_X7_7 (ly_n hY 195 (by decide)) (ly_k hY 195 (by decide)) (Or.inr ⟨rfl, _, (ly_r hY 195 0 (by decide) (by decide)), rfl⟩) dX7_merge_44 ?_
            refine x_iconst G (by decide) dX7_merge_47 ?_
            refine x_iald G (ly_n hY 196 (by decide)) (ly_k hY 196 (by decide)) (show _ = 511 from ly_l hY 196 (by decide)) (by omega) (by omega) dX7_merge_48 ?_
            show xX Γ 0 0 n T 49 [(0, xR 195), (1, xI fr), (2, xI to), (3, xI (cntU V fr (-1))), (4, xI k)] [xI (N1 196 2), xI k] N1
            rw [show N1 196 2 = ((mpk V 4 k.toNat (fun j => und V j fr (-1)) (fun _ => to)) 0 10) from hNk.1.2.2]
            refine x_icmp_ge G 76 (by decide) dX7_merge_49 (fun c49 => ?_) (fun c49 => ?_)
            · skip
              refine x_iload_n G 3 rfl rfl dX7_merge_76 ?_
              exact x_iret G Rt dX7_merge_77 ⟨rfl, rfl, _, rfl, (by
        have e9 : aMerge V fr to = ((cntU V fr (-1)), some (mpk V 4 (V 0 10).toNat (fun j => und V j fr (-1)) (fun _ => to))) := (by unfold aMerge aMvA; rw [if_pos (by omega), if_neg (by omega)])
        rw [e9]
        exact ⟨rfl, (by have h9 := hNk; rw [show k = V 0 10 by omega] at h9; exact h9), hh, Or.inl hr0, hma⟩)⟩
            · skip
              have hit := ok_i hv hk.1 (by omega)
              refine x_aload_n G 0 rfl rfl dX7_merge_52 ?_
              refine x_iload G 4 rfl dX7_merge_53 ?_
              refine x_callVp G [] [xI k] rfl (by decide) (ly_n hY 195 (by decide)) (ly_k hY 195 (by decide)) hy_X7_shardOf hi_X7_shardOf hs_X7_shardOf ml_X7_62 rfl rfl (kX7_shardOf _ _ (mpk V 4 k.toNat (fun j => und V j fr (-1)) (fun _ => to)) k hY hNk hvk (by omega)) (by decide) (by decide) (Nat.le_of_ble_eq_true rfl) dX7_merge_55 ?_
              refine x_iload_n G 1 rfl rfl dX7_merge_58 ?_
              refine x_icmp_ne G 70 (by decide) dX7_merge_59 (fun c59 => ?_) (fun c59 => ?_)
              · skip
                refine x_iinc G [(4, xI (k + 1)), (0, xR 195), (1, xI fr), (2, xI to), (3, xI (cntU V fr (-1)))] 4 rfl (by decide) (by omega) rfl dX7_merge_70 ?_
                refine x_goto G 41 (by decide) dX7_merge_73 ?_
                refine x_sub [(0, xR 195), (1, xI fr), (2, xI to), (3, xI (cntU V fr (-1))), (4, xI (k + 1))] [1, 2, 3, 4, 0] rfl ?_
                exact ih41 _ (by omega) (k + 1) N1 rfl (by omega) (by rw [show (k + 1).toNat = k.toNat + 1 by omega, ← mpk_n (fun h => by have h1 := h.1; have h2 := h.2.1; omega)]; exact hNk) (hh) (hr0) (hma)
              · skip
                refine x_aload_n G 0 rfl rfl dX7_merge_62 ?_
                refine x_iload G 4 rfl dX7_merge_63 ?_
                refine x_iconst G (by decide) dX7_merge_65 ?_
                refine x_iload_n G 2 rfl rfl dX7_merge_66 ?_
                refine x_callVV G [] [xI k, xI 0, xI to] rfl (by decide) (ly_n hY 195 (by decide)) (ly_k hY 195 (by decide)) hy_X7_sets hi_X7_sets hs_X7_sets ml_X7_212 rfl rfl (kX7_sets _ _ k 0 to hY (by omega) (by decide)) (by decide) (by decide) (Nat.le_of_ble_eq_true rfl) dX7_merge_67 (fun M67 h67 => ?_)
                subst h67
                show xX Γ 0 0 n T 70 [(0, xR 195), (1, xI fr), (2, xI to), (3, xI (cntU V fr (-1))), (4, xI k)] [] (xst N1 196 ((11 + (5 * k)) + 0).toNat to)
                refine x_iinc G [(4, xI (k + 1)), (0, xR 195), (1, xI fr), (2, xI to), (3, xI (cntU V fr (-1)))] 4 rfl (by decide) (by omega) rfl dX7_merge_70 ?_
                refine x_goto G 41 (by decide) dX7_merge_73 ?_
                refine x_sub [(0, xR 195), (1, xI fr), (2, xI to), (3, xI (cntU V fr (-1))), (4, xI (k + 1))] [1, 2, 3, 4, 0] rfl ?_
                exact ih41 _ (by omega) (k + 1) (xst N1 196 ((11 + (5 * k)) + 0).toNat to) rfl (by omega) (by rw [show (k + 1).toNat = k.toNat + 1 by omega, ← mpk_y (⟨by omega, Or.inr (by omega), Or.inl rfl⟩)]; exact (mr_set4 hNk (by omega) (by omega))) ((mh_cg hh (xst_nq (by omega)) (xst_row (by omega)))) (((xst_nq (by omega)).trans hr0)) ((maf_st hma (by omega)))
          refine x_sub [(0, xR 195), (1, xI fr), (2, xI to), (3, xI (cntU V fr (-1))), (4, xI 0)] [2, 3, 4, 1, 0] rfl ?_
          exact loop41 _ 0 M35 rfl (by omega) ((by show mrel _ (mpk V 4 0 _ _); rw [mpk_0]; exact (mr_cg hN (h35.2.2.1 196 (by omega) (by omega))))) (h35.1) (h35.2.1) ((maf_ka (maf_refl _) h35.2.2))
        · skip
          refine x_bipush G (by decide) dX7_merge_31 ?_
          exact x_iret G Rt dX7_merge_33 ⟨rfl, rfl, _, rfl, (by
        have e9 : aMerge V fr to = ((-2), none) := (by unfold aMerge aMvA; rw [if_pos (by omega), if_pos (by omega)])
        rw [e9]
        exact ⟨rfl, hN, hH, hR, (maf_refl _)⟩)⟩
      · skip
        refine x_iconst G (by decide) dX7_merge_19 ?_
        exact x_iret G Rt dX7_merge_20 ⟨rfl, rfl, _, rfl, (by
        have e9 : aMerge V fr to = ((-1), none) := (by unfold aMerge; (repeat (first | rw [if_pos (by omega)] | rw [if_neg (by omega)])) <;> try rfl)
        rw [e9]
        exact ⟨rfl, hN, hH, hR, (maf_refl _)⟩)⟩
set_option maxRecDepth 100000 in
set_option maxHeartbeats 4000000 in
theorem kX7_rename (D : xD) (l : Launch) {n : Nat} {T : xT} {M : xM} (V : xM) (Hs : List xM) (lab ot : Int) (hY : LayOK n T) (hN : mrel (M 196) V) (hv : VOK V) (hs : Srt V (V 10) (V 0 10).toNat) (hR : Rk M V) (hH : mhst M Hs) : xC D l uX7_rename 3 64 0 0 [xR 195, xI lab, xI ot] n T M (xPI n T (fun z M2 => z = (aRen V lab ot).1 ∧ mrel (M2 196) (nxV V (aRen V lab ot)) ∧ mhst M2 (nxH V Hs (aRen V lab ot)) ∧ Rk M2 (nxV V (aRen V lab ot)) ∧ mafr M M2)) := by
  refine x_met uX7_rename (by decide) (Nat.le_of_ble_eq_true rfl) ?_
  intro Γ G Rt _
  have G : xG Γ RX7 cX7_rename 5 3 64 0 0 := G
  have Rt : xRt Γ (xPI n T (fun z M2 => z = (aRen V lab ot).1 ∧ mrel (M2 196) (nxV V (aRen V lab ot)) ∧ mhst M2 (nxH V Hs (aRen V lab ot)) ∧ Rk M2 (nxV V (aRen V lab ot)) ∧ mafr M M2)) (some .int) 0 0 := Rt
  show xX Γ 0 0 n T 0 [(0, xR 195), (1, xI lab), (2, xI ot)] [] M
  have hc := ok_c hv
  refine x_iload_n G 1 rfl rfl dX7_rename_0 ?_
  refine x_i2l G dX7_rename_1 ?_
  refine x_lconst G dX7_rename_2 ?_
  show xX Γ 0 0 n T 3 [(0, xR 195), (1, xI lab), (2, xI ot)] [xL 0, xL lab] M
  refine x_ldc2 G (z := 25) (by decide) kc_X7_194 dX7_rename_3 ?_
  refine x_callSp G [] [xL lab, xL 0, xL 25] hy_X7_in ht_X7_in ml_X7_54 rfl rfl (kX7_in _ _ lab 0 25) (by decide) (by decide) (Nat.le_of_ble_eq_true rfl) dX7_rename_6 ?_
  refine x_if_eq G 29 (by decide) dX7_rename_9 (fun c9 => ?_) (fun c9 => ?_)
  · skip
    have c9 := b2i_eq0.mp c9
    refine x_iconst G (by decide) dX7_rename_29 ?_
    exact x_iret G Rt dX7_rename_30 ⟨rfl, rfl, _, rfl, (by
        have e9 : aRen V lab ot = ((-1), none) := (by unfold aRen; (repeat (first | rw [if_pos (by omega)] | rw [if_neg (by omega)])) <;> try rfl)
        rw [e9]
        exact ⟨rfl, hN, hH, hR, (maf_refl _)⟩)⟩
  · skip
    have c9 := b2i_ne0.mp c9
    refine x_iload_n G 2 rfl rfl dX7_rename_12 ?_
    refine x_i2l G dX7_rename_13 ?_
    refine x_lconst G dX7_rename_14 ?_
    show xX Γ 0 0 n T 15 [(0, xR 195), (1, xI lab), (2, xI ot)] [xL 0, xL ot] M
    refine x_ldc2 G (z := 25) (by decide) kc_X7_194 dX7_rename_15 ?_
    refine x_callSp G [] [xL ot, xL 0, xL 25] hy_X7_in ht_X7_in ml_X7_54 rfl rfl (kX7_in _ _ ot 0 25) (by decide) (by decide) (Nat.le_of_ble_eq_true rfl) dX7_rename_18 ?_
    refine x_if_eq G 29 (by decide) dX7_rename_21 (fun c21 => ?_) (fun c21 => ?_)
    · skip
      have c21 := b2i_eq0.mp c21
      refine x_iconst G (by decide) dX7_rename_29 ?_
      exact x_iret G Rt dX7_rename_30 ⟨rfl, rfl, _, rfl, (by
        have e9 : aRen V lab ot = ((-1), none) := (by unfold aRen; (repeat (first | rw [if_pos (by omega)] | rw [if_neg (by omega)])) <;> try rfl)
        rw [e9]
        exact ⟨rfl, hN, hH, hR, (maf_refl _)⟩)⟩
    · skip
      have c21 := b2i_ne0.mp c21
      refine x_iload_n G 1 rfl rfl dX7_rename_24 ?_
      refine x_iload_n G 2 rfl rfl dX7_rename_25 ?_
      refine x_icmp_ne G 31 (by decide) dX7_rename_26 (fun c26 => ?_) (fun c26 => ?_)
      · skip
        refine x_iconst G (by decide) dX7_rename_31 ?_
        refine x_istore_n G [(3, xI 0), (0, xR 195), (1, xI lab), (2, xI ot)] rfl (by decide) rfl dX7_rename_32 ?_
        refine x_iconst G (by decide) dX7_rename_33 ?_
        refine x_istore G [(4, xI 0), (3, xI 0), (0, xR 195), (1, xI lab), (2, xI ot)] (by decide) rfl dX7_rename_34 ?_
        have loop36 : ∀ (d : Nat) (k : Int) (q : Int), (V 0 10 - k).toNat = d → (0 ≤ k ∧ k ≤ V 0 10) → (q = fb_si (fun j => b2i (und V j (-1) lab)) k.toNat) → xX Γ 0 0 n T 36 [(0, xR 195), (1, xI lab), (2, xI ot), (3, xI q), (4, xI k)] [] M := by
          intro d
          induction d using Nat.strongRecOn with
          | ind d ih36 =>
          intro k q hd36 hk hn
          have hb := si_b (fun j => und V j (-1) lab) k.toNat
          refine x_iload G 4 rfl dX7_rename_36 ?_
          refine x_aload_n G 0 rfl rfl dX7_rename_38 ?_
          refine x_get G (xR 196) xf7_0 lk_X7_7 (ly_n hY 195 (by decide)) (ly_k hY 195 (by decide)) (Or.inr ⟨rfl, _, (ly_r hY 195 0 (by decide) (by decide)), rfl⟩) dX7_rename_39 ?_
          refine x_iconst G (by decide) dX7_rename_42 ?_
          refine x_iald G (ly_n hY 196 (by decide)) (ly_k hY 196 (by decide)) (show _ = 511 from ly_l hY 196 (by decide)) (by omega) (by omega) dX7_rename_43 ?_
          show xX Γ 0 0 n T 44 [(0, xR 195), (1, xI lab), (2, xI ot), (3, xI q), (4, xI k)] [xI (M 196 2), xI k] M
          rw [show M 196 2 = (V 0 10) from hN.1.2.2]
          refine x_icmp_ge G 81 (by decide) dX7_rename_44 (fun c44 => ?_) (fun c44 => ?_)
          · skip
            have hq9 : q = cntU V (-1) lab := by (unfold cntU; rw [hn, show k = V 0 10 by omega])
            refine x_iload_n G 3 rfl rfl dX7_rename_81 ?_
            refine x_if_ne G 88 (by decide) dX7_rename_82 (fun c82 => ?_) (fun c82 => ?_)
            · skip
              refine x_aload_n G 0 rfl rfl dX7_rename_88 ?_
              refine x_callVV G [] [] rfl (by decide) (ly_n hY 195 (by decide)) (ly_k hY 195 (by decide)) hy_X7_keepsAct hi_X7_keepsAct hs_X7_keepsAct ml_X7_216 rfl rfl (kX7_keepsAct _ _ V Hs hY hN hv hH) (by decide) (by decide) (Nat.le_of_ble_eq_true rfl) dX7_rename_89 (fun M89 h89 => ?_)
              refine x_iconst G (by decide) dX7_rename_92 ?_
              refine x_istore G [(4, xI 0), (0, xR 195), (1, xI lab), (2, xI ot), (3, xI q)] (by decide) rfl dX7_rename_93 ?_
              have loop95 : ∀ (d : Nat) (k : Int) (N1 : xM), (V 0 10 - k).toNat = d → (0 ≤ k ∧ k ≤ V 0 10) → (mrel (N1 196) (mpk V 5 k.toNat (fun j => und V j (-1) lab) (fun _ => ot))) → (mhst N1 ((V :: Hs).take 10)) → (N1 195 10 = 0) → (mafr M N1) → xX Γ 0 0 n T 95 [(0, xR 195), (1, xI lab), (2, xI ot), (3, xI q), (4, xI k)] [] N1 := by
                intro d
                induction d using Nat.strongRecOn with
                | ind d ih95 =>
                intro k N1 hd95 hk hNk hh hr0 hma
                have hvk : VOK (mpk V 5 k.toNat (fun j => und V j (-1) lab) (fun _ => ot)) := mpk_ok hv (by decide) (fun j hj => by have g := hv.2.2.1 j hj; simp [itm, xst_eq]; omega)
                have hmc : (mpk V 5 k.toNat (fun j => und V j (-1) lab) (fun _ => ot)) 0 10 = V 0 10 := rfl
                have e4 : (mpk V 5 k.toNat (fun j => und V j (-1) lab) (fun _ => ot)) 4 k.toNat = V 4 k.toNat := mpk_at (Nat.le_refl _)
                have e5 : (mpk V 5 k.toNat (fun j => und V j (-1) lab) (fun _ => ot)) 5 k.toNat = V 5 k.toNat := mpk_at (Nat.le_refl _)
                have e6 : (mpk V 5 k.toNat (fun j => und V j (-1) lab) (fun _ => ot)) 6 k.toNat = V 6 k.toNat := mpk_at (Nat.le_refl _)
                have e8 : (mpk V 5 k.toNat (fun j => und V j (-1) lab) (fun _ => ot)) 8 k.toNat = V 8 k.toNat := mpk_at (Nat.le_refl _)
                have e9 : (mpk V 5 k.toNat (fun j => und V j (-1) lab) (fun _ => ot)) 9 k.toNat = V 9 k.toNat := mpk_at (Nat.le_refl _)
                refine x_iload G 4 rfl dX7_rename_95 ?_
                refine x_aload_n G 0 rfl rfl dX7_rename_97 ?_
                refine x_get G (xR 196) xf7_0 lk_X7_7 (ly_n hY 195 (by decide)) (ly_k hY 195 (by decide)) (Or.inr ⟨rfl, _, (ly_r hY 195 0 (by decide) (by decide)), rfl⟩) dX7_rename_98 ?_
                refine x_iconst G (by decide) dX7_rename_101 ?_
                refine x_iald G (ly_n hY 196 (by decide)) (ly_k hY 196 (by decide)) (show _ = 511 from ly_l hY 196 (by decide)) (by omega) (by omega) dX7_rename_102 ?_
                show xX Γ 0 0 n T 103 [(0, xR 195), (1, xI lab), (2, xI ot), (3, xI q), (4, xI k)] [xI (N1 196 2), xI k] N1
                rw [show N1 196 2 = ((mpk V 5 k.toNat (fun j => und V j (-1) lab) (fun _ => ot)) 0 10) from hNk.1.2.2]
                refine x_icmp_ge G 140 (by decide) dX7_rename_103 (fun c103 => ?_) (fun c103 => ?_)
                · skip
                  refine x_iload_n G 3 rfl rfl dX7_rename_140 ?_
                  exact x_iret G Rt dX7_rename_141 ⟨rfl, rfl, _, rfl, (by
        have e9 : aRen V lab ot = (q, some (mpk V 5 (V 0 10).toNat (fun j => und V j (-1) lab) (fun _ => ot))) := (by unfold aRen; rw [if_pos (by omega), if_neg (by omega), ← hq9])
        rw [e9]
        exact ⟨rfl, (by have h9 := hNk; rw [show k = V 0 10 by omega] at h9; exact h9), hh, Or.inl hr0, hma⟩)⟩
                · skip
                  have hit := ok_i hv hk.1 (by omega)
                  refine x_aload_n G 0 rfl rfl dX7_rename_106 ?_
                  refine x_iload G 4 rfl dX7_rename_107 ?_
                  refine x_callVp G [] [xI k] rfl (by decide) (ly_n hY 195 (by decide)) (ly_k hY 195 (by decide)) hy_X7_isDropped hi_X7_isDropped hs_X7_isDropped ml_X7_70 rfl rfl (kX7_isDropped _ _ (mpk V 5 k.toNat (fun j => und V j (-1) lab) (fun _ => ot)) k hY hNk hvk (by omega)) (by decide) (by decide) (Nat.le_of_ble_eq_true rfl) dX7_rename_109 ?_
                  refine x_if_ne G 134 (by decide) dX7_rename_112 (fun c112 => ?_) (fun c112 => ?_)
                  · skip
                    have c112 := b2i_ne0.mp c112
                    refine x_iinc G [(4, xI (k + 1)), (0, xR 195), (1, xI lab), (2, xI ot), (3, xI q)] 4 rfl (by decide) (by omega) rfl dX7_rename_134 ?_
                    refine x_goto G 95 (by decide) dX7_rename_137 ?_
                    refine x_sub [(0, xR 195), (1, xI lab), (2, xI ot), (3, xI q), (4, xI (k + 1))] [1, 2, 3, 4, 0] rfl ?_
                    exact ih95 _ (by omega) (k + 1) N1 rfl (by omega) (by rw [show (k + 1).toNat = k.toNat + 1 by omega, ← mpk_n (fun h => by have h1 := h.1; have h2 := h.2.2; omega)]; exact hNk) (hh) (hr0) (hma)
                  · skip
                    have c112 := b2i_eq0.mp c112
                    refine x_aload_n G 0 rfl rfl dX7_rename_115 ?_
                    refine x_iload G 4 rfl dX7_rename_116 ?_
                    refine x_iconst G (by decide) dX7_rename_118 ?_
                    refine x_callVp G [] [xI k, xI 1] rfl (by decide) (ly_n hY 195 (by decide)) (ly_k hY 195 (by decide)) hy_X7_item hi_X7_item hs_X7_item ml_X7_58 rfl rfl (kX7_item_1 _ _ (mpk V 5 k.toNat (fun j => und V j (-1) lab) (fun _ => ot)) k hY hNk hvk (by omega)) (by decide) (by decide) (Nat.le_of_ble_eq_true rfl) dX7_rename_119 ?_
                    refine x_iload_n G 1 rfl rfl dX7_rename_122 ?_
                    refine x_icmp_ne G 134 (by decide) dX7_rename_123 (fun c123 => ?_) (fun c123 => ?_)
                    · skip
                      refine x_iinc G [(4, xI (k + 1)), (0, xR 195), (1, xI lab), (2, xI ot), (3, xI q)] 4 rfl (by decide) (by omega) rfl dX7_rename_134 ?_
                      refine x_goto G 95 (by decide) dX7_rename_137 ?_
                      refine x_sub [(0, xR 195), (1, xI lab), (2, xI ot), (3, xI q), (4, xI (k + 1))] [1, 2, 3, 4, 0] rfl ?_
                      exact ih95 _ (by omega) (k + 1) N1 rfl (by omega) (by rw [show (k + 1).toNat = k.toNat + 1 by omega, ← mpk_n (fun h => by have h1 := h.1; have h2 := h.2.2; omega)]; exact hNk) (hh) (hr0) (hma)
                    · skip
                      refine x_aload_n G 0 rfl rfl dX7_rename_126 ?_
                      refine x_iload G 4 rfl dX7_rename_127 ?_
                      refine x_iconst G (by decide) dX7_rename_129 ?_
                      refine x_iload_n G 2 rfl rfl dX7_rename_130 ?_
                      refine x_callVV G [] [xI k, xI 1, xI ot] rfl (by decide) (ly_n hY 195 (by decide)) (ly_k hY 195 (by decide)) hy_X7_sets hi_X7_sets hs_X7_sets ml_X7_212 rfl rfl (kX7_sets _ _ k 1 ot hY (by omega) (by decide)) (by decide) (by decide) (Nat.le_of_ble_eq_true rfl) dX7_rename_131 (fun M131 h131 => ?_)
                      subst h131
                      show xX Γ 0 0 n T 134 [(0, xR 195), (1, xI lab), (2, xI ot), (3, xI q), (4, xI k)] [] (xst N1 196 ((11 + (5 * k)) + 1).toNat ot)
                      refine x_iinc G [(4, xI (k + 1)), (0, xR 195), (1, xI lab), (2, xI ot), (3, xI q)] 4 rfl (by decide) (by omega) rfl dX7_rename_134 ?_
                      refine x_goto G 95 (by decide) dX7_rename_137 ?_
                      refine x_sub [(0, xR 195), (1, xI lab), (2, xI ot), (3, xI q), (4, xI (k + 1))] [1, 2, 3, 4, 0] rfl ?_
                      exact ih95 _ (by omega) (k + 1) (xst N1 196 ((11 + (5 * k)) + 1).toNat ot) rfl (by omega) (by rw [show (k + 1).toNat = k.toNat + 1 by omega, ← mpk_y (⟨by omega, Or.inl rfl, Or.inr (by omega)⟩)]; exact (mr_set (w := 1) hNk (by decide) (by omega))) ((mh_cg hh (xst_nq (by omega)) (xst_row (by omega)))) (((xst_nq (by omega)).trans hr0)) ((maf_st hma (by omega)))
              refine x_sub [(0, xR 195), (1, xI lab), (2, xI ot), (3, xI q), (4, xI 0)] [1, 2, 3, 4, 0] rfl ?_
              exact loop95 _ 0 M89 rfl (by omega) ((by show mrel _ (mpk V 5 0 _ _); rw [mpk_0]; exact (mr_cg hN (h89.2.2.1 196 (by omega) (by omega))))) (h89.1) (h89.2.1) ((maf_ka (maf_refl _) h89.2.2))
            · skip
              refine x_bipush G (by decide) dX7_rename_85 ?_
              exact x_iret G Rt dX7_rename_87 ⟨rfl, rfl, _, rfl, (by
        have e9 : aRen V lab ot = ((-2), none) := (by unfold aRen; rw [if_pos (by omega), if_pos (by omega)])
        rw [e9]
        exact ⟨rfl, hN, hH, hR, (maf_refl _)⟩)⟩
          · skip
            have hit := ok_i hv hk.1 (by omega)
            refine x_iload_n G 3 rfl rfl dX7_rename_47 ?_
            refine x_aload_n G 0 rfl rfl dX7_rename_48 ?_
            refine x_iload G 4 rfl dX7_rename_49 ?_
            refine x_callVp G [xI q] [xI k] rfl (by decide) (ly_n hY 195 (by decide)) (ly_k hY 195 (by decide)) hy_X7_isDropped hi_X7_isDropped hs_X7_isDropped ml_X7_70 rfl rfl (kX7_isDropped _ _ V k hY hN hv (by omega)) (by decide) (by decide) (Nat.le_of_ble_eq_true rfl) dX7_rename_51 ?_
            refine x_if_ne G 72 (by decide) dX7_rename_54 (fun c54 => ?_) (fun c54 => ?_)
            · skip
              have c54 := b2i_ne0.mp c54
              refine x_iconst G (by decide) dX7_rename_72 ?_
              refine x_iadd G (by omega) dX7_rename_73 ?_
              refine x_istore_n G [(3, xI (q + 0)), (0, xR 195), (1, xI lab), (2, xI ot), (4, xI k)] rfl (by decide) rfl dX7_rename_74 ?_
              refine x_iinc G [(4, xI (k + 1)), (3, xI (q + 0)), (0, xR 195), (1, xI lab), (2, xI ot)] 4 rfl (by decide) (by omega) rfl dX7_rename_75 ?_
              refine x_goto G 36 (by decide) dX7_rename_78 ?_
              refine x_sub [(0, xR 195), (1, xI lab), (2, xI ot), (3, xI (q + 0)), (4, xI (k + 1))] [2, 3, 4, 1, 0] rfl ?_
              exact ih36 _ (by omega) (k + 1) (q + 0) rfl (by omega) (by first | exact si_y hk.1 hn (⟨by omega, Or.inl rfl, Or.inr (by omega)⟩) | (have h8 := si_n hk.1 hn (fun h => by have h1 := h.1; have h2 := h.2.2; omega); omega))
            · skip
              have c54 := b2i_eq0.mp c54
              refine x_aload_n G 0 rfl rfl dX7_rename_57 ?_
              refine x_iload G 4 rfl dX7_rename_58 ?_
              refine x_iconst G (by decide) dX7_rename_60 ?_
              refine x_callVp G [xI q] [xI k, xI 1] rfl (by decide) (ly_n hY 195 (by decide)) (ly_k hY 195 (by decide)) hy_X7_item hi_X7_item hs_X7_item ml_X7_58 rfl rfl (kX7_item_1 _ _ V k hY hN hv (by omega)) (by decide) (by decide) (Nat.le_of_ble_eq_true rfl) dX7_rename_61 ?_
              refine x_iload_n G 1 rfl rfl dX7_rename_64 ?_
              refine x_icmp_ne G 72 (by decide) dX7_rename_65 (fun c65 => ?_) (fun c65 => ?_)
              · skip
                refine x_iconst G (by decide) dX7_rename_72 ?_
                refine x_iadd G (by omega) dX7_rename_73 ?_
                refine x_istore_n G [(3, xI (q + 0)), (0, xR 195), (1, xI lab), (2, xI ot), (4, xI k)] rfl (by decide) rfl dX7_rename_74 ?_
                refine x_iinc G [(4, xI (k + 1)), (3, xI (q + 0)), (0, xR 195), (1, xI lab), (2, xI ot)] 4 rfl (by decide) (by omega) rfl dX7_rename_75 ?_
                refine x_goto G 36 (by decide) dX7_rename_78 ?_
                refine x_sub [(0, xR 195), (1, xI lab), (2, xI ot), (3, xI (q + 0)), (4, xI (k + 1))] [2, 3, 4, 1, 0] rfl ?_
                exact ih36 _ (by omega) (k + 1) (q + 0) rfl (by omega) (by first | exact si_y hk.1 hn (⟨by omega, Or.inl rfl, Or.inr (by omega)⟩) | (have h8 := si_n hk.1 hn (fun h => by have h1 := h.1; have h2 := h.2.2; omega); omega))
              · skip
                refine x_iconst G (by decide) dX7_rename_68 ?_
                refine x_goto G 73 (by decide) dX7_rename_69 ?_
                refine x_iadd G (by omega) dX7_rename_73 ?_
                refine x_istore_n G [(3, xI (q + 1)), (0, xR 195), (1, xI lab), (2, xI ot), (4, xI k)] rfl (by decide) rfl dX7_rename_74 ?_
                refine x_iinc G [(4, xI (k + 1)), (3, xI (q + 1)), (0, xR 195), (1, xI lab), (2, xI ot)] 4 rfl (by decide) (by omega) rfl dX7_rename_75 ?_
                refine x_goto G 36 (by decide) dX7_rename_78 ?_
                refine x_sub [(0, xR 195), (1, xI lab), (2, xI ot), (3, xI (q + 1)), (4, xI (k + 1))] [2, 3, 4, 1, 0] rfl ?_
                exact ih36 _ (by omega) (k + 1) (q + 1) rfl (by omega) (by first | exact si_y hk.1 hn (⟨by omega, Or.inl rfl, Or.inr (by omega)⟩) | (have h8 := si_n hk.1 hn (fun h => by have h1 := h.1; have h2 := h.2.2; omega); omega))
        refine x_sub [(0, xR 195), (1, xI lab), (2, xI ot), (3, xI 0), (4, xI 0)] [2, 3, 4, 1, 0] rfl ?_
        exact loop36 _ 0 0 rfl (by omega) (rfl)
      · skip
        refine x_iconst G (by decide) dX7_rename_29 ?_
        exact x_iret G Rt dX7_rename_30 ⟨rfl, rfl, _, rfl, (by
        have e9 : aRen V lab ot = ((-1), none) := (by unfold aRen; (repeat (first | rw [if_pos (by omega)] | rw [if_neg (by omega)])) <;> try rfl)
        rw [e9]
        exact ⟨rfl, hN, hH, hR, (maf_refl _)⟩)⟩
set_option maxRecDepth 100000 in
set_option maxHeartbeats 4000000 in
theorem kX7_split (D : xD) (l : Launch) {n : Nat} {T : xT} {M : xM} (V : xM) (Hs : List xM) (fr lab to : Int) (hY : LayOK n T) (hN : mrel (M 196) V) (hv : VOK V) (hs : Srt V (V 10) (V 0 10).toNat) (hR : Rk M V) (hH : mhst M Hs) : xC D l uX7_split 2 45 0 0 [xR 195, xI fr, xI lab, xI to] n T M (xPI n T (fun z M2 => z = (aSplit V fr lab to).1 ∧ mrel (M2 196) (nxV V (aSplit V fr lab to)) ∧ mhst M2 (nxH V Hs (aSplit V fr lab to)) ∧ Rk M2 (nxV V (aSplit V fr lab to)) ∧ mafr M M2)) := by
  refine x_met uX7_split (by decide) (Nat.le_of_ble_eq_true rfl) ?_
  intro Γ G Rt _
  have G : xG Γ RX7 cX7_split 6 2 45 0 0 := G
  have Rt : xRt Γ (xPI n T (fun z M2 => z = (aSplit V fr lab to).1 ∧ mrel (M2 196) (nxV V (aSplit V fr lab to)) ∧ mhst M2 (nxH V Hs (aSplit V fr lab to)) ∧ Rk M2 (nxV V (aSplit V fr lab to)) ∧ mafr M M2)) (some .int) 0 0 := Rt
  show xX Γ 0 0 n T 0 [(0, xR 195), (1, xI fr), (2, xI lab), (3, xI to)] [] M
  have hc := ok_c hv
  refine x_iload_n G 1 rfl rfl dX7_split_0 ?_
  refine x_callSp G [] [xI fr] hy_X7_isShard ht_X7_isShard ml_X7_143 rfl rfl (kX7_isShard _ _ fr) (by decide) (by decide) (Nat.le_of_ble_eq_true rfl) dX7_split_1 ?_
  refine x_if_eq G 31 (by decide) dX7_split_4 (fun c4 => ?_) (fun c4 => ?_)
  · skip
    have c4 := b2i_eq0.mp c4
    refine x_iconst G (by decide) dX7_split_31 ?_
    exact x_iret G Rt dX7_split_32 ⟨rfl, rfl, _, rfl, (by
        have e9 : aSplit V fr lab to = ((-1), none) := (by unfold aSplit; (repeat (first | rw [if_pos (by omega)] | rw [if_neg (by omega)])) <;> try rfl)
        rw [e9]
        exact ⟨rfl, hN, hH, hR, (maf_refl _)⟩)⟩
  · skip
    have c4 := b2i_ne0.mp c4
    refine x_iload_n G 3 rfl rfl dX7_split_7 ?_
    refine x_callSp G [] [xI to] hy_X7_isShard ht_X7_isShard ml_X7_143 rfl rfl (kX7_isShard _ _ to) (by decide) (by decide) (Nat.le_of_ble_eq_true rfl) dX7_split_8 ?_
    refine x_if_eq G 31 (by decide) dX7_split_11 (fun c11 => ?_) (fun c11 => ?_)
    · skip
      have c11 := b2i_eq0.mp c11
      refine x_iconst G (by decide) dX7_split_31 ?_
      exact x_iret G Rt dX7_split_32 ⟨rfl, rfl, _, rfl, (by
        have e9 : aSplit V fr lab to = ((-1), none) := (by unfold aSplit; (repeat (first | rw [if_pos (by omega)] | rw [if_neg (by omega)])) <;> try rfl)
        rw [e9]
        exact ⟨rfl, hN, hH, hR, (maf_refl _)⟩)⟩
    · skip
      have c11 := b2i_ne0.mp c11
      refine x_iload_n G 1 rfl rfl dX7_split_14 ?_
      refine x_iload_n G 3 rfl rfl dX7_split_15 ?_
      refine x_icmp_eq G 31 (by decide) dX7_split_16 (fun c16 => ?_) (fun c16 => ?_)
      · skip
        refine x_iconst G (by decide) dX7_split_31 ?_
        exact x_iret G Rt dX7_split_32 ⟨rfl, rfl, _, rfl, (by
        have e9 : aSplit V fr lab to = ((-1), none) := (by unfold aSplit; (repeat (first | rw [if_pos (by omega)] | rw [if_neg (by omega)])) <;> try rfl)
        rw [e9]
        exact ⟨rfl, hN, hH, hR, (maf_refl _)⟩)⟩
      · skip
        refine x_iload_n G 2 rfl rfl dX7_split_19 ?_
        refine x_i2l G dX7_split_20 ?_
        refine x_lconst G dX7_split_21 ?_
        show xX Γ 0 0 n T 22 [(0, xR 195), (1, xI fr), (2, xI lab), (3, xI to)] [xL 0, xL lab] M
        refine x_ldc2 G (z := 25) (by decide) kc_X7_194 dX7_split_22 ?_
        refine x_callSp G [] [xL lab, xL 0, xL 25] hy_X7_in ht_X7_in ml_X7_54 rfl rfl (kX7_in _ _ lab 0 25) (by decide) (by decide) (Nat.le_of_ble_eq_true rfl) dX7_split_25 ?_
        refine x_if_ne G 33 (by decide) dX7_split_28 (fun c28 => ?_) (fun c28 => ?_)
        · skip
          have c28 := b2i_ne0.mp c28
          refine x_iconst G (by decide) dX7_split_33 ?_
          refine x_istore G [(4, xI 0), (0, xR 195), (1, xI fr), (2, xI lab), (3, xI to)] (by decide) rfl dX7_split_34 ?_
          refine x_iconst G (by decide) dX7_split_36 ?_
          refine x_istore G [(5, xI 0), (4, xI 0), (0, xR 195), (1, xI fr), (2, xI lab), (3, xI to)] (by decide) rfl dX7_split_37 ?_
          have loop39 : ∀ (d : Nat) (k : Int) (q : Int), (V 0 10 - k).toNat = d → (0 ≤ k ∧ k ≤ V 0 10) → (q = fb_si (fun j => b2i (und V j fr lab)) k.toNat) → xX Γ 0 0 n T 39 [(0, xR 195), (1, xI fr), (2, xI lab), (3, xI to), (4, xI q), (5, xI k)] [] M := by
            intro d
            induction d using Nat.strongRecOn with
            | ind d ih39 =>
            intro k q hd39 hk hn
            have hb := si_b (fun j => und V j fr lab) k.toNat
            refine x_iload G 5 rfl dX7_split_39 ?_
            refine x_aload_n G 0 rfl rfl dX7_split_41 ?_
            refine x_get G (xR 196) xf7_0 lk_X7_7 (ly_n hY 195 (by decide)) (ly_k hY 195 (by decide)) (Or.inr ⟨rfl, _, (ly_r hY 195 0 (by decide) (by decide)), rfl⟩) dX7_split_42 ?_
            refine x_iconst G (by decide) dX7_split_45 ?_
            refine x_iald G (ly_n hY 196 (by decide)) (ly_k hY 196 (by decide)) (show _ = 511 from ly_l hY 196 (by decide)) (by omega) (by omega) dX7_split_46 ?_
            show xX Γ 0 0 n T 47 [(0, xR 195), (1, xI fr), (2, xI lab), (3, xI to), (4, xI q), (5, xI k)] [xI (M 196 2), xI k] M
            rw [show M 196 2 = (V 0 10) from hN.1.2.2]
            refine x_icmp_ge G 87 (by decide) dX7_split_47 (fun c47 => ?_) (fun c47 => ?_)
            · skip
              have hq9 : q = cntU V fr lab := by (unfold cntU; rw [hn, show k = V 0 10 by omega])
              refine x_iload G 4 rfl dX7_split_87 ?_
              refine x_if_ne G 95 (by decide) dX7_split_89 (fun c89 => ?_) (fun c89 => ?_)
              · skip
                refine x_aload_n G 0 rfl rfl dX7_split_95 ?_
                refine x_callVV G [] [] rfl (by decide) (ly_n hY 195 (by decide)) (ly_k hY 195 (by decide)) hy_X7_keepsAct hi_X7_keepsAct hs_X7_keepsAct ml_X7_216 rfl rfl (kX7_keepsAct _ _ V Hs hY hN hv hH) (by decide) (by decide) (Nat.le_of_ble_eq_true rfl) dX7_split_96 (fun M96 h96 => ?_)
                refine x_iconst G (by decide) dX7_split_99 ?_
                refine x_istore G [(5, xI 0), (0, xR 195), (1, xI fr), (2, xI lab), (3, xI to), (4, xI q)] (by decide) rfl dX7_split_100 ?_
                have loop102 : ∀ (d : Nat) (k : Int) (N1 : xM), (V 0 10 - k).toNat = d → (0 ≤ k ∧ k ≤ V 0 10) → (mrel (N1 196) (mpk V 4 k.toNat (fun j => und V j fr lab) (fun _ => to))) → (mhst N1 ((V :: Hs).take 10)) → (N1 195 10 = 0) → (mafr M N1) → xX Γ 0 0 n T 102 [(0, xR 195), (1, xI fr), (2, xI lab), (3, xI to), (4, xI q), (5, xI k)] [] N1 := by
                  intro d
                  induction d using Nat.strongRecOn with
                  | ind d ih102 =>
                  intro k N1 hd102 hk hNk hh hr0 hma
                  have hvk : VOK (mpk V 4 k.toNat (fun j => und V j fr lab) (fun _ => to)) := mpk_ok hv (by decide) (fun j hj => by have g := hv.2.2.1 j hj; simp [itm, xst_eq]; omega)
                  have hmc : (mpk V 4 k.toNat (fun j => und V j fr lab) (fun _ => to)) 0 10 = V 0 10 := rfl
                  have e4 : (mpk V 4 k.toNat (fun j => und V j fr lab) (fun _ => to)) 4 k.toNat = V 4 k.toNat := mpk_at (Nat.le_refl _)
                  have e5 : (mpk V 4 k.toNat (fun j => und V j fr lab) (fun _ => to)) 5 k.toNat = V 5 k.toNat := mpk_at (Nat.le_refl _)
                  have e6 : (mpk V 4 k.toNat (fun j => und V j fr lab) (fun _ => to)) 6 k.toNat = V 6 k.toNat := mpk_at (Nat.le_refl _)
                  have e8 : (mpk V 4 k.toNat (fun j => und V j fr lab) (fun _ => to)) 8 k.toNat = V 8 k.toNat := mpk_at (Nat.le_refl _)
                  have e9 : (mpk V 4 k.toNat (fun j => und V j fr lab) (fun _ => to)) 9 k.toNat = V 9 k.toNat := mpk_at (Nat.le_refl _)
                  refine x_iload G 5 rfl dX7_split_102 ?_
                  refine x_aload_n G 0 rfl rfl dX7_split_104 ?_
                  refine x_get G (xR 196) xf7_0 lk_X7_7 (ly_n hY 195 (by decide)) (ly_k hY 195 (by decide)) (Or.inr ⟨rfl, _, (ly_r hY 195 0 (by decide) (by decide)), rfl⟩) dX7_split_105 ?_
                  refine x_iconst G (by decide) dX7_split_108 ?_
                  refine x_iald G (ly_n hY 196 (by decide)) (ly_k hY 196 (by decide)) (show _ = 511 from ly_l hY 196 (by decide)) (by omega) (by omega) dX7_split_109 ?_
                  show xX Γ 0 0 n T 110 [(0, xR 195), (1, xI fr), (2, xI lab), (3, xI to), (4, xI q), (5, xI k)] [xI (N1 196 2), xI k] N1
                  rw [show N1 196 2 = ((mpk V 4 k.toNat (fun j => und V j fr lab) (fun _ => to)) 0 10) from hNk.1.2.2]
                  refine x_icmp_ge G 148 (by decide) dX7_split_110 (fun c110 => ?_) (fun c110 => ?_)
                  · skip
                    refine x_iload G 4 rfl dX7_split_148 ?_
                    exact x_iret G Rt dX7_split_150 ⟨rfl, rfl, _, rfl, (by
        have e9 : aSplit V fr lab to = (q, some (mpk V 4 (V 0 10).toNat (fun j => und V j fr lab) (fun _ => to))) := (by unfold aSplit aMvA; rw [if_pos (by omega), if_neg (by omega), ← hq9])
        rw [e9]
        exact ⟨rfl, (by have h9 := hNk; rw [show k = V 0 10 by omega] at h9; exact h9), hh, Or.inl hr0, hma⟩)⟩
                  · skip
                    have hit := ok_i hv hk.1 (by omega)
                    refine x_aload_n G 0 rfl rfl dX7_split_113 ?_
                    refine x_iload G 5 rfl dX7_split_114 ?_
                    refine x_callVp G [] [xI k] rfl (by decide) (ly_n hY 195 (by decide)) (ly_k hY 195 (by decide)) hy_X7_shardOf hi_X7_shardOf hs_X7_shardOf ml_X7_62 rfl rfl (kX7_shardOf _ _ (mpk V 4 k.toNat (fun j => und V j fr lab) (fun _ => to)) k hY hNk hvk (by omega)) (by decide) (by decide) (Nat.le_of_ble_eq_true rfl) dX7_split_116 ?_
                    refine x_iload_n G 1 rfl rfl dX7_split_119 ?_
                    refine x_icmp_ne G 142 (by decide) dX7_split_120 (fun c120 => ?_) (fun c120 => ?_)
                    · skip
                      refine x_iinc G [(5, xI (k + 1)), (0, xR 195), (1, xI fr), (2, xI lab), (3, xI to), (4, xI q)] 5 rfl (by decide) (by omega) rfl dX7_split_142 ?_
                      refine x_goto G 102 (by decide) dX7_split_145 ?_
                      refine x_sub [(0, xR 195), (1, xI fr), (2, xI lab), (3, xI to), (4, xI q), (5, xI (k + 1))] [1, 2, 3, 4, 5, 0] rfl ?_
                      exact ih102 _ (by omega) (k + 1) N1 rfl (by omega) (by rw [show (k + 1).toNat = k.toNat + 1 by omega, ← mpk_n (fun h => by have h1 := h.1; have h2 := h.2.1; have h3 := h.2.2; omega)]; exact hNk) (hh) (hr0) (hma)
                    · skip
                      refine x_aload_n G 0 rfl rfl dX7_split_123 ?_
                      refine x_iload G 5 rfl dX7_split_124 ?_
                      refine x_iconst G (by decide) dX7_split_126 ?_
                      refine x_callVp G [] [xI k, xI 1] rfl (by decide) (ly_n hY 195 (by decide)) (ly_k hY 195 (by decide)) hy_X7_item hi_X7_item hs_X7_item ml_X7_58 rfl rfl (kX7_item_1 _ _ (mpk V 4 k.toNat (fun j => und V j fr lab) (fun _ => to)) k hY hNk hvk (by omega)) (by decide) (by decide) (Nat.le_of_ble_eq_true rfl) dX7_split_127 ?_
                      refine x_iload_n G 2 rfl rfl dX7_split_130 ?_
                      refine x_icmp_ne G 142 (by decide) dX7_split_131 (fun c131 => ?_) (fun c131 => ?_)
                      · skip
                        refine x_iinc G [(5, xI (k + 1)), (0, xR 195), (1, xI fr), (2, xI lab), (3, xI to), (4, xI q)] 5 rfl (by decide) (by omega) rfl dX7_split_142 ?_
                        refine x_goto G 102 (by decide) dX7_split_145 ?_
                        refine x_sub [(0, xR 195), (1, xI fr), (2, xI lab), (3, xI to), (4, xI q), (5, xI (k + 1))] [1, 2, 3, 4, 5, 0] rfl ?_
                        exact ih102 _ (by omega) (k + 1) N1 rfl (by omega) (by rw [show (k + 1).toNat = k.toNat + 1 by omega, ← mpk_n (fun h => by have h1 := h.1; have h2 := h.2.1; have h3 := h.2.2; omega)]; exact hNk) (hh) (hr0) (hma)
                      · skip
                        refine x_aload_n G 0 rfl rfl dX7_split_134 ?_
                        refine x_iload G 5 rfl dX7_split_135 ?_
                        refine x_iconst G (by decide) dX7_split_137 ?_
                        refine x_iload_n G 3 rfl rfl dX7_split_138 ?_
                        refine x_callVV G [] [xI k, xI 0, xI to] rfl (by decide) (ly_n hY 195 (by decide)) (ly_k hY 195 (by decide)) hy_X7_sets hi_X7_sets hs_X7_sets ml_X7_212 rfl rfl (kX7_sets _ _ k 0 to hY (by omega) (by decide)) (by decide) (by decide) (Nat.le_of_ble_eq_true rfl) dX7_split_139 (fun M139 h139 => ?_)
                        subst h139
                        show xX Γ 0 0 n T 142 [(0, xR 195), (1, xI fr), (2, xI lab), (3, xI to), (4, xI q), (5, xI k)] [] (xst N1 196 ((11 + (5 * k)) + 0).toNat to)
                        refine x_iinc G [(5, xI (k + 1)), (0, xR 195), (1, xI fr), (2, xI lab), (3, xI to), (4, xI q)] 5 rfl (by decide) (by omega) rfl dX7_split_142 ?_
                        refine x_goto G 102 (by decide) dX7_split_145 ?_
                        refine x_sub [(0, xR 195), (1, xI fr), (2, xI lab), (3, xI to), (4, xI q), (5, xI (k + 1))] [1, 2, 3, 4, 5, 0] rfl ?_
                        exact ih102 _ (by omega) (k + 1) (xst N1 196 ((11 + (5 * k)) + 0).toNat to) rfl (by omega) (by rw [show (k + 1).toNat = k.toNat + 1 by omega, ← mpk_y (⟨by omega, Or.inr (by omega), Or.inr (by omega)⟩)]; exact (mr_set4 hNk (by omega) (by omega))) ((mh_cg hh (xst_nq (by omega)) (xst_row (by omega)))) (((xst_nq (by omega)).trans hr0)) ((maf_st hma (by omega)))
                refine x_sub [(0, xR 195), (1, xI fr), (2, xI lab), (3, xI to), (4, xI q), (5, xI 0)] [1, 2, 3, 4, 5, 0] rfl ?_
                exact loop102 _ 0 M96 rfl (by omega) ((by show mrel _ (mpk V 4 0 _ _); rw [mpk_0]; exact (mr_cg hN (h96.2.2.1 196 (by omega) (by omega))))) (h96.1) (h96.2.1) ((maf_ka (maf_refl _) h96.2.2))
              · skip
                refine x_bipush G (by decide) dX7_split_92 ?_
                exact x_iret G Rt dX7_split_94 ⟨rfl, rfl, _, rfl, (by
        have e9 : aSplit V fr lab to = ((-2), none) := (by unfold aSplit aMvA; rw [if_pos (by omega), if_pos (by omega)])
        rw [e9]
        exact ⟨rfl, hN, hH, hR, (maf_refl _)⟩)⟩
            · skip
              have hit := ok_i hv hk.1 (by omega)
              refine x_iload G 4 rfl dX7_split_50 ?_
              refine x_aload_n G 0 rfl rfl dX7_split_52 ?_
              refine x_iload G 5 rfl dX7_split_53 ?_
              refine x_callVp G [xI q] [xI k] rfl (by decide) (ly_n hY 195 (by decide)) (ly_k hY 195 (by decide)) hy_X7_shardOf hi_X7_shardOf hs_X7_shardOf ml_X7_62 rfl rfl (kX7_shardOf _ _ V k hY hN hv (by omega)) (by decide) (by decide) (Nat.le_of_ble_eq_true rfl) dX7_split_55 ?_
              refine x_iload_n G 1 rfl rfl dX7_split_58 ?_
              refine x_icmp_ne G 77 (by decide) dX7_split_59 (fun c59 => ?_) (fun c59 => ?_)
              · skip
                refine x_iconst G (by decide) dX7_split_77 ?_
                refine x_iadd G (by omega) dX7_split_78 ?_
                refine x_istore G [(4, xI (q + 0)), (0, xR 195), (1, xI fr), (2, xI lab), (3, xI to), (5, xI k)] (by decide) rfl dX7_split_79 ?_
                refine x_iinc G [(5, xI (k + 1)), (4, xI (q + 0)), (0, xR 195), (1, xI fr), (2, xI lab), (3, xI to)] 5 rfl (by decide) (by omega) rfl dX7_split_81 ?_
                refine x_goto G 39 (by decide) dX7_split_84 ?_
                refine x_sub [(0, xR 195), (1, xI fr), (2, xI lab), (3, xI to), (4, xI (q + 0)), (5, xI (k + 1))] [2, 3, 4, 5, 1, 0] rfl ?_
                exact ih39 _ (by omega) (k + 1) (q + 0) rfl (by omega) (by first | exact si_y hk.1 hn (⟨by omega, Or.inr (by omega), Or.inr (by omega)⟩) | (have h8 := si_n hk.1 hn (fun h => by have h1 := h.1; have h2 := h.2.1; have h3 := h.2.2; omega); omega))
              · skip
                refine x_aload_n G 0 rfl rfl dX7_split_62 ?_
                refine x_iload G 5 rfl dX7_split_63 ?_
                refine x_iconst G (by decide) dX7_split_65 ?_
                refine x_callVp G [xI q] [xI k, xI 1] rfl (by decide) (ly_n hY 195 (by decide)) (ly_k hY 195 (by decide)) hy_X7_item hi_X7_item hs_X7_item ml_X7_58 rfl rfl (kX7_item_1 _ _ V k hY hN hv (by omega)) (by decide) (by decide) (Nat.le_of_ble_eq_true rfl) dX7_split_66 ?_
                refine x_iload_n G 2 rfl rfl dX7_split_69 ?_
                refine x_icmp_ne G 77 (by decide) dX7_split_70 (fun c70 => ?_) (fun c70 => ?_)
                · skip
                  refine x_iconst G (by decide) dX7_split_77 ?_
                  refine x_iadd G (by omega) dX7_split_78 ?_
                  refine x_istore G [(4, xI (q + 0)), (0, xR 195), (1, xI fr), (2, xI lab), (3, xI to), (5, xI k)] (by decide) rfl dX7_split_79 ?_
                  refine x_iinc G [(5, xI (k + 1)), (4, xI (q + 0)), (0, xR 195), (1, xI fr), (2, xI lab), (3, xI to)] 5 rfl (by decide) (by omega) rfl dX7_split_81 ?_
                  refine x_goto G 39 (by decide) dX7_split_84 ?_
                  refine x_sub [(0, xR 195), (1, xI fr), (2, xI lab), (3, xI to), (4, xI (q + 0)), (5, xI (k + 1))] [2, 3, 4, 5, 1, 0] rfl ?_
                  exact ih39 _ (by omega) (k + 1) (q + 0) rfl (by omega) (by first | exact si_y hk.1 hn (⟨by omega, Or.inr (by omega), Or.inr (by omega)⟩) | (have h8 := si_n hk.1 hn (fun h => by have h1 := h.1; have h2 := h.2.1; have h3 := h.2.2; omega); omega))
                · skip
                  refine x_iconst G (by decide) dX7_split_73 ?_
                  refine x_goto G 78 (by decide) dX7_split_74 ?_
                  refine x_iadd G (by omega) dX7_split_78 ?_
                  refine x_istore G [(4, xI (q + 1)), (0, xR 195), (1, xI fr), (2, xI lab), (3, xI to), (5, xI k)] (by decide) rfl dX7_split_79 ?_
                  refine x_iinc G [(5, xI (k + 1)), (4, xI (q + 1)), (0, xR 195), (1, xI fr), (2, xI lab), (3, xI to)] 5 rfl (by decide) (by omega) rfl dX7_split_81 ?_
                  refine x_goto G 39 (by decide) dX7_split_84 ?_
                  refine x_sub [(0, xR 195), (1, xI fr), (2, xI lab), (3, xI to), (4, xI (q + 1)), (5, xI (k + 1))] [2, 3, 4, 5, 1, 0] rfl ?_
                  exact ih39 _ (by omega) (k + 1) (q + 1) rfl (by omega) (by first | exact si_y hk.1 hn (⟨by omega, Or.inr (by omega), Or.inr (by omega)⟩) | (have h8 := si_n hk.1 hn (fun h => by have h1 := h.1; have h2 := h.2.1; have h3 := h.2.2; omega); omega))
          refine x_sub [(0, xR 195), (1, xI fr), (2, xI lab), (3, xI to), (4, xI 0), (5, xI 0)] [2, 3, 4, 5, 1, 0] rfl ?_
          exact loop39 _ 0 0 rfl (by omega) (rfl)
        · skip
          have c28 := b2i_eq0.mp c28
          refine x_iconst G (by decide) dX7_split_31 ?_
          exact x_iret G Rt dX7_split_32 ⟨rfl, rfl, _, rfl, (by
        have e9 : aSplit V fr lab to = ((-1), none) := (by unfold aSplit; (repeat (first | rw [if_pos (by omega)] | rw [if_neg (by omega)])) <;> try rfl)
        rw [e9]
        exact ⟨rfl, hN, hH, hR, (maf_refl _)⟩)⟩
set_option maxRecDepth 100000 in
set_option maxHeartbeats 4000000 in
theorem kX7_heavier (D : xD) (l : Launch) {n : Nat} {T : xT} {M : xM} (w m : Int) (hw : 1 ≤ w ∧ w ≤ 20) (hm : 2 ≤ m ∧ m ≤ 20) : xC D l uX7_heavier 0 0 0 0 [xI w, xI m] n T M (xPp n T M (if 20 < w * m then 20 else w * m)) := by
  refine x_met uX7_heavier (by decide) (Nat.le_of_ble_eq_true rfl) ?_
  intro Γ G Rt _
  have G : xG Γ RX7 cX7_heavier 2 0 0 0 0 := G
  have Rt : xRt Γ (xPp n T M (if 20 < w * m then 20 else w * m)) (some .int) 0 0 := Rt
  show xX Γ 0 0 n T 0 [(0, xI w), (1, xI m)] [] M
  have hmw := mul_w hw hm
  refine x_iload_n G 0 rfl rfl dX7_heavier_0 ?_
  refine x_iload_n G 1 rfl rfl dX7_heavier_1 ?_
  refine x_imul G (by omega) dX7_heavier_2 ?_
  refine x_bipush G (by decide) dX7_heavier_3 ?_
  refine x_icmp_le G 13 (by decide) dX7_heavier_5 (fun c5 => ?_) (fun c5 => ?_)
  · skip
    refine x_iload_n G 0 rfl rfl dX7_heavier_13 ?_
    refine x_iload_n G 1 rfl rfl dX7_heavier_14 ?_
    refine x_imul G (by omega) dX7_heavier_15 ?_
    exact x_iret G Rt dX7_heavier_16 ⟨rfl, rfl, congrArg (fun z => some (xI z)) (by first | rw [if_pos (by omega)] | rw [if_neg (by omega)]), rfl⟩
  · skip
    refine x_bipush G (by decide) dX7_heavier_8 ?_
    refine x_goto G 16 (by decide) dX7_heavier_10 ?_
    exact x_iret G Rt dX7_heavier_16 ⟨rfl, rfl, congrArg (fun z => some (xI z)) (by first | rw [if_pos (by omega)] | rw [if_neg (by omega)]), rfl⟩
set_option maxRecDepth 100000 in
set_option maxHeartbeats 4000000 in
theorem kX7_weighAll (D : xD) (l : Launch) {n : Nat} {T : xT} {M : xM} (V : xM) (Hs : List xM) (sh m : Int) (hY : LayOK n T) (hN : mrel (M 196) V) (hv : VOK V) (hs : Srt V (V 10) (V 0 10).toNat) (hR : Rk M V) (hH : mhst M Hs) : xC D l uX7_weighAll 2 45 0 0 [xR 195, xI sh, xI m] n T M (xPI n T (fun z M2 => z = (aWAll V sh m).1 ∧ mrel (M2 196) (nxV V (aWAll V sh m)) ∧ mhst M2 (nxH V Hs (aWAll V sh m)) ∧ Rk M2 (nxV V (aWAll V sh m)) ∧ mafr M M2)) := by
  refine x_met uX7_weighAll (by decide) (Nat.le_of_ble_eq_true rfl) ?_
  intro Γ G Rt _
  have G : xG Γ RX7 cX7_weighAll 5 2 45 0 0 := G
  have Rt : xRt Γ (xPI n T (fun z M2 => z = (aWAll V sh m).1 ∧ mrel (M2 196) (nxV V (aWAll V sh m)) ∧ mhst M2 (nxH V Hs (aWAll V sh m)) ∧ Rk M2 (nxV V (aWAll V sh m)) ∧ mafr M M2)) (some .int) 0 0 := Rt
  show xX Γ 0 0 n T 0 [(0, xR 195), (1, xI sh), (2, xI m)] [] M
  have hc := ok_c hv
  refine x_iload_n G 1 rfl rfl dX7_weighAll_0 ?_
  refine x_callSp G [] [xI sh] hy_X7_isShard ht_X7_isShard ml_X7_143 rfl rfl (kX7_isShard _ _ sh) (by decide) (by decide) (Nat.le_of_ble_eq_true rfl) dX7_weighAll_1 ?_
  refine x_if_eq G 21 (by decide) dX7_weighAll_4 (fun c4 => ?_) (fun c4 => ?_)
  · skip
    have c4 := b2i_eq0.mp c4
    refine x_iconst G (by decide) dX7_weighAll_21 ?_
    exact x_iret G Rt dX7_weighAll_22 ⟨rfl, rfl, _, rfl, (by
        have e9 : aWAll V sh m = ((-1), none) := (by unfold aWAll; (repeat (first | rw [if_pos (by omega)] | rw [if_neg (by omega)])) <;> try rfl)
        rw [e9]
        exact ⟨rfl, hN, hH, hR, (maf_refl _)⟩)⟩
  · skip
    have c4 := b2i_ne0.mp c4
    refine x_iload_n G 2 rfl rfl dX7_weighAll_7 ?_
    refine x_i2l G dX7_weighAll_8 ?_
    refine x_ldc2 G (z := 2) (by decide) kc_X7_350 dX7_weighAll_9 ?_
    refine x_ldc2 G (z := 20) (by decide) kc_X7_161 dX7_weighAll_12 ?_
    refine x_callSp G [] [xL m, xL 2, xL 20] hy_X7_in ht_X7_in ml_X7_54 rfl rfl (kX7_in _ _ m 2 20) (by decide) (by decide) (Nat.le_of_ble_eq_true rfl) dX7_weighAll_15 ?_
    refine x_if_ne G 23 (by decide) dX7_weighAll_18 (fun c18 => ?_) (fun c18 => ?_)
    · skip
      have c18 := b2i_ne0.mp c18
      refine x_iconst G (by decide) dX7_weighAll_23 ?_
      refine x_istore_n G [(3, xI 0), (0, xR 195), (1, xI sh), (2, xI m)] rfl (by decide) rfl dX7_weighAll_24 ?_
      refine x_iconst G (by decide) dX7_weighAll_25 ?_
      refine x_istore G [(4, xI 0), (3, xI 0), (0, xR 195), (1, xI sh), (2, xI m)] (by decide) rfl dX7_weighAll_26 ?_
      have loop28 : ∀ (d : Nat) (k : Int) (q : Int), (V 0 10 - k).toNat = d → (0 ≤ k ∧ k ≤ V 0 10) → (q = fb_si (fun j => b2i (und V j sh (-1) ∧ V 6 j < 20)) k.toNat) → xX Γ 0 0 n T 28 [(0, xR 195), (1, xI sh), (2, xI m), (3, xI q), (4, xI k)] [] M := by
        intro d
        induction d using Nat.strongRecOn with
        | ind d ih28 =>
        intro k q hd28 hk hn
        have hb := si_b (fun j => und V j sh (-1) ∧ V 6 j < 20) k.toNat
        refine x_iload G 4 rfl dX7_weighAll_28 ?_
        refine x_aload_n G 0 rfl rfl dX7_weighAll_30 ?_
        refine x_get G (xR 196) xf7_0 lk_X7_7 (ly_n hY 195 (by decide)) (ly_k hY 195 (by decide)) (Or.inr ⟨rfl, _, (ly_r hY 195 0 (by decide) (by decide)), rfl⟩) dX7_weighAll_31 ?_
        refine x_iconst G (by decide) dX7_weighAll_34 ?_
        refine x_iald G (ly_n hY 196 (by decide)) (ly_k hY 196 (by decide)) (show _ = 511 from ly_l hY 196 (by decide)) (by omega) (by omega) dX7_weighAll_35 ?_
        show xX Γ 0 0 n T 36 [(0, xR 195), (1, xI sh), (2, xI m), (3, xI q), (4, xI k)] [xI (M 196 2), xI k] M
        rw [show M 196 2 = (V 0 10) from hN.1.2.2]
        refine x_icmp_ge G 75 (by decide) dX7_weighAll_36 (fun c36 => ?_) (fun c36 => ?_)
        · skip
          have hq9 : q = wAC V sh := by (unfold wAC; rw [hn, show k = V 0 10 by omega])
          refine x_iload_n G 3 rfl rfl dX7_weighAll_75 ?_
          refine x_if_ne G 82 (by decide) dX7_weighAll_76 (fun c76 => ?_) (fun c76 => ?_)
          · skip
            refine x_aload_n G 0 rfl rfl dX7_weighAll_82 ?_
            refine x_callVV G [] [] rfl (by decide) (ly_n hY 195 (by decide)) (ly_k hY 195 (by decide)) hy_X7_keepsAct hi_X7_keepsAct hs_X7_keepsAct ml_X7_216 rfl rfl (kX7_keepsAct _ _ V Hs hY hN hv hH) (by decide) (by decide) (Nat.le_of_ble_eq_true rfl) dX7_weighAll_83 (fun M83 h83 => ?_)
            refine x_iconst G (by decide) dX7_weighAll_86 ?_
            refine x_istore G [(4, xI 0), (0, xR 195), (1, xI sh), (2, xI m), (3, xI q)] (by decide) rfl dX7_weighAll_87 ?_
            have loop89 : ∀ (d : Nat) (k : Int) (N1 : xM), (V 0 10 - k).toNat = d → (0 ≤ k ∧ k ≤ V 0 10) → (mrel (N1 196) (mpk V 6 k.toNat (fun j => und V j sh (-1)) (fun j => if 20 < V 6 j * m then 20 else V 6 j * m))) → (mhst N1 ((V :: Hs).take 10)) → (N1 195 10 = 0) → (mafr M N1) → xX Γ 0 0 n T 89 [(0, xR 195), (1, xI sh), (2, xI m), (3, xI q), (4, xI k)] [] N1 := by
              intro d
              induction d using Nat.strongRecOn with
              | ind d ih89 =>
              intro k N1 hd89 hk hNk hh hr0 hma
              have hvk : VOK (mpk V 6 k.toNat (fun j => und V j sh (-1)) (fun j => if 20 < V 6 j * m then 20 else V 6 j * m)) := mpk_ok hv (by decide) (fun j hj => by have g := hv.2.2.1 j hj; have hmw := mul_w (w := V 6 j) (m := m) (by omega) (by omega); simp [itm, xst_eq]; refine ⟨g.1, g.2.1, ?_, g.2.2.2.1, g.2.2.2.2.1, g.2.2.2.2.2⟩; split <;> omega)
              have hmc : (mpk V 6 k.toNat (fun j => und V j sh (-1)) (fun j => if 20 < V 6 j * m then 20 else V 6 j * m)) 0 10 = V 0 10 := rfl
              have e4 : (mpk V 6 k.toNat (fun j => und V j sh (-1)) (fun j => if 20 < V 6 j * m then 20 else V 6 j * m)) 4 k.toNat = V 4 k.toNat := mpk_at (Nat.le_refl _)
              have e5 : (mpk V 6 k.toNat (fun j => und V j sh (-1)) (fun j => if 20 < V 6 j * m then 20 else V 6 j * m)) 5 k.toNat = V 5 k.toNat := mpk_at (Nat.le_refl _)
              have e6 : (mpk V 6 k.toNat (fun j => und V j sh (-1)) (fun j => if 20 < V 6 j * m then 20 else V 6 j * m)) 6 k.toNat = V 6 k.toNat := mpk_at (Nat.le_refl _)
              have e8 : (mpk V 6 k.toNat (fun j => und V j sh (-1)) (fun j => if 20 < V 6 j * m then 20 else V 6 j * m)) 8 k.toNat = V 8 k.toNat := mpk_at (Nat.le_refl _)
              have e9 : (mpk V 6 k.toNat (fun j => und V j sh (-1)) (fun j => if 20 < V 6 j * m then 20 else V 6 j * m)) 9 k.toNat = V 9 k.toNat := mpk_at (Nat.le_refl _)
              refine x_iload G 4 rfl dX7_weighAll_89 ?_
              refine x_aload_n G 0 rfl rfl dX7_weighAll_91 ?_
              refine x_get G (xR 196) xf7_0 lk_X7_7 (ly_n hY 195 (by decide)) (ly_k hY 195 (by decide)) (Or.inr ⟨rfl, _, (ly_r hY 195 0 (by decide) (by decide)), rfl⟩) dX7_weighAll_92 ?_
              refine x_iconst G (by decide) dX7_weighAll_95 ?_
              refine x_iald G (ly_n hY 196 (by decide)) (ly_k hY 196 (by decide)) (show _ = 511 from ly_l hY 196 (by decide)) (by omega) (by omega) dX7_weighAll_96 ?_
              show xX Γ 0 0 n T 97 [(0, xR 195), (1, xI sh), (2, xI m), (3, xI q), (4, xI k)] [xI (N1 196 2), xI k] N1
              rw [show N1 196 2 = ((mpk V 6 k.toNat (fun j => und V j sh (-1)) (fun j => if 20 < V 6 j * m then 20 else V 6 j * m)) 0 10) from hNk.1.2.2]
              refine x_icmp_ge G 134 (by decide) dX7_weighAll_97 (fun c97 => ?_) (fun c97 => ?_)
              · skip
                refine x_iload_n G 3 rfl rfl dX7_weighAll_134 ?_
                exact x_iret G Rt dX7_weighAll_135 ⟨rfl, rfl, _, rfl, (by
        have e9 : aWAll V sh m = (q, some (mpk V 6 (V 0 10).toNat (fun j => und V j sh (-1)) (fun j => if 20 < V 6 j * m then 20 else V 6 j * m))) := (by unfold aWAll; rw [if_pos (by omega), if_neg (by omega), ← hq9])
        rw [e9]
        exact ⟨rfl, (by have h9 := hNk; rw [show k = V 0 10 by omega] at h9; exact h9), hh, Or.inl hr0, hma⟩)⟩
              · skip
                have hit := ok_i hv hk.1 (by omega)
                refine x_aload_n G 0 rfl rfl dX7_weighAll_100 ?_
                refine x_iload G 4 rfl dX7_weighAll_101 ?_
                refine x_callVp G [] [xI k] rfl (by decide) (ly_n hY 195 (by decide)) (ly_k hY 195 (by decide)) hy_X7_shardOf hi_X7_shardOf hs_X7_shardOf ml_X7_62 rfl rfl (kX7_shardOf _ _ (mpk V 6 k.toNat (fun j => und V j sh (-1)) (fun j => if 20 < V 6 j * m then 20 else V 6 j * m)) k hY hNk hvk (by omega)) (by decide) (by decide) (Nat.le_of_ble_eq_true rfl) dX7_weighAll_103 ?_
                refine x_iload_n G 1 rfl rfl dX7_weighAll_106 ?_
                refine x_icmp_ne G 128 (by decide) dX7_weighAll_107 (fun c107 => ?_) (fun c107 => ?_)
                · skip
                  refine x_iinc G [(4, xI (k + 1)), (0, xR 195), (1, xI sh), (2, xI m), (3, xI q)] 4 rfl (by decide) (by omega) rfl dX7_weighAll_128 ?_
                  refine x_goto G 89 (by decide) dX7_weighAll_131 ?_
                  refine x_sub [(0, xR 195), (1, xI sh), (2, xI m), (3, xI q), (4, xI (k + 1))] [1, 2, 3, 4, 0] rfl ?_
                  exact ih89 _ (by omega) (k + 1) N1 rfl (by omega) (by rw [show (k + 1).toNat = k.toNat + 1 by omega, ← mpk_n (fun h => by have h1 := h.1; have h2 := h.2.1; omega)]; exact hNk) (hh) (hr0) (hma)
                · skip
                  refine x_aload_n G 0 rfl rfl dX7_weighAll_110 ?_
                  refine x_iload G 4 rfl dX7_weighAll_111 ?_
                  refine x_iconst G (by decide) dX7_weighAll_113 ?_
                  refine x_aload_n G 0 rfl rfl dX7_weighAll_114 ?_
                  refine x_iload G 4 rfl dX7_weighAll_115 ?_
                  refine x_iconst G (by decide) dX7_weighAll_117 ?_
                  refine x_callVp G [xI 2, xI k, xR 195] [xI k, xI 2] rfl (by decide) (ly_n hY 195 (by decide)) (ly_k hY 195 (by decide)) hy_X7_item hi_X7_item hs_X7_item ml_X7_58 rfl rfl (kX7_item_2 _ _ (mpk V 6 k.toNat (fun j => und V j sh (-1)) (fun j => if 20 < V 6 j * m then 20 else V 6 j * m)) k hY hNk hvk (by omega)) (by decide) (by decide) (Nat.le_of_ble_eq_true rfl) dX7_weighAll_118 ?_
                  rw [e6]
                  skip
                  refine x_iload_n G 2 rfl rfl dX7_weighAll_121 ?_
                  refine x_callSp G [xI 2, xI k, xR 195] [xI (V 6 k.toNat), xI m] hy_X7_heavier ht_X7_heavier ml_X7_352 rfl rfl (kX7_heavier _ _ (V 6 k.toNat) m (by omega) (by omega)) (by decide) (by decide) (Nat.le_of_ble_eq_true rfl) dX7_weighAll_122 ?_
                  refine x_callVV G [] [xI k, xI 2, xI (if 20 < (V 6 k.toNat) * m then 20 else (V 6 k.toNat) * m)] rfl (by decide) (ly_n hY 195 (by decide)) (ly_k hY 195 (by decide)) hy_X7_sets hi_X7_sets hs_X7_sets ml_X7_212 rfl rfl (kX7_sets _ _ k 2 (if 20 < (V 6 k.toNat) * m then 20 else (V 6 k.toNat) * m) hY (by omega) (by decide)) (by decide) (by decide) (Nat.le_of_ble_eq_true rfl) dX7_weighAll_125 (fun M125 h125 => ?_)
                  subst h125
                  show xX Γ 0 0 n T 128 [(0, xR 195), (1, xI sh), (2, xI m), (3, xI q), (4, xI k)] [] (xst N1 196 ((11 + (5 * k)) + 2).toNat (if 20 < (V 6 k.toNat) * m then 20 else (V 6 k.toNat) * m))
                  refine x_iinc G [(4, xI (k + 1)), (0, xR 195), (1, xI sh), (2, xI m), (3, xI q)] 4 rfl (by decide) (by omega) rfl dX7_weighAll_128 ?_
                  refine x_goto G 89 (by decide) dX7_weighAll_131 ?_
                  refine x_sub [(0, xR 195), (1, xI sh), (2, xI m), (3, xI q), (4, xI (k + 1))] [1, 2, 3, 4, 0] rfl ?_
                  exact ih89 _ (by omega) (k + 1) (xst N1 196 ((11 + (5 * k)) + 2).toNat (if 20 < (V 6 k.toNat) * m then 20 else (V 6 k.toNat) * m)) rfl (by omega) (by rw [show (k + 1).toNat = k.toNat + 1 by omega, ← mpk_y (⟨by omega, Or.inr (by omega), Or.inl rfl⟩)]; exact (mr_set (w := 2) hNk (by decide) (by omega))) ((mh_cg hh (xst_nq (by omega)) (xst_row (by omega)))) (((xst_nq (by omega)).trans hr0)) ((maf_st hma (by omega)))
            refine x_sub [(0, xR 195), (1, xI sh), (2, xI m), (3, xI q), (4, xI 0)] [1, 2, 3, 4, 0] rfl ?_
            exact loop89 _ 0 M83 rfl (by omega) ((by show mrel _ (mpk V 6 0 _ _); rw [mpk_0]; exact (mr_cg hN (h83.2.2.1 196 (by omega) (by omega))))) (h83.1) (h83.2.1) ((maf_ka (maf_refl _) h83.2.2))
          · skip
            refine x_bipush G (by decide) dX7_weighAll_79 ?_
            exact x_iret G Rt dX7_weighAll_81 ⟨rfl, rfl, _, rfl, (by
        have e9 : aWAll V sh m = ((-2), none) := (by unfold aWAll; rw [if_pos (by omega), if_pos (by omega)])
        rw [e9]
        exact ⟨rfl, hN, hH, hR, (maf_refl _)⟩)⟩
        · skip
          have hit := ok_i hv hk.1 (by omega)
          refine x_iload_n G 3 rfl rfl dX7_weighAll_39 ?_
          refine x_aload_n G 0 rfl rfl dX7_weighAll_40 ?_
          refine x_iload G 4 rfl dX7_weighAll_41 ?_
          refine x_callVp G [xI q] [xI k] rfl (by decide) (ly_n hY 195 (by decide)) (ly_k hY 195 (by decide)) hy_X7_shardOf hi_X7_shardOf hs_X7_shardOf ml_X7_62 rfl rfl (kX7_shardOf _ _ V k hY hN hv (by omega)) (by decide) (by decide) (Nat.le_of_ble_eq_true rfl) dX7_weighAll_43 ?_
          refine x_iload_n G 1 rfl rfl dX7_weighAll_46 ?_
          refine x_icmp_ne G 66 (by decide) dX7_weighAll_47 (fun c47 => ?_) (fun c47 => ?_)
          · skip
            refine x_iconst G (by decide) dX7_weighAll_66 ?_
            refine x_iadd G (by omega) dX7_weighAll_67 ?_
            refine x_istore_n G [(3, xI (q + 0)), (0, xR 195), (1, xI sh), (2, xI m), (4, xI k)] rfl (by decide) rfl dX7_weighAll_68 ?_
            refine x_iinc G [(4, xI (k + 1)), (3, xI (q + 0)), (0, xR 195), (1, xI sh), (2, xI m)] 4 rfl (by decide) (by omega) rfl dX7_weighAll_69 ?_
            refine x_goto G 28 (by decide) dX7_weighAll_72 ?_
            refine x_sub [(0, xR 195), (1, xI sh), (2, xI m), (3, xI (q + 0)), (4, xI (k + 1))] [2, 3, 4, 1, 0] rfl ?_
            exact ih28 _ (by omega) (k + 1) (q + 0) rfl (by omega) (by first | exact si_y hk.1 hn (⟨⟨by omega, Or.inr (by omega), Or.inl rfl⟩, by omega⟩) | (have h8 := si_n hk.1 hn (fun h => by have h1 := h.1.1; have h2 := h.1.2.1; have h3 := h.2; omega); omega))
          · skip
            refine x_aload_n G 0 rfl rfl dX7_weighAll_50 ?_
            refine x_iload G 4 rfl dX7_weighAll_51 ?_
            refine x_iconst G (by decide) dX7_weighAll_53 ?_
            refine x_callVp G [xI q] [xI k, xI 2] rfl (by decide) (ly_n hY 195 (by decide)) (ly_k hY 195 (by decide)) hy_X7_item hi_X7_item hs_X7_item ml_X7_58 rfl rfl (kX7_item_2 _ _ V k hY hN hv (by omega)) (by decide) (by decide) (Nat.le_of_ble_eq_true rfl) dX7_weighAll_54 ?_
            refine x_bipush G (by decide) dX7_weighAll_57 ?_
            refine x_icmp_ge G 66 (by decide) dX7_weighAll_59 (fun c59 => ?_) (fun c59 => ?_)
            · skip
              refine x_iconst G (by decide) dX7_weighAll_66 ?_
              refine x_iadd G (by omega) dX7_weighAll_67 ?_
              refine x_istore_n G [(3, xI (q + 0)), (0, xR 195), (1, xI sh), (2, xI m), (4, xI k)] rfl (by decide) rfl dX7_weighAll_68 ?_
              refine x_iinc G [(4, xI (k + 1)), (3, xI (q + 0)), (0, xR 195), (1, xI sh), (2, xI m)] 4 rfl (by decide) (by omega) rfl dX7_weighAll_69 ?_
              refine x_goto G 28 (by decide) dX7_weighAll_72 ?_
              refine x_sub [(0, xR 195), (1, xI sh), (2, xI m), (3, xI (q + 0)), (4, xI (k + 1))] [2, 3, 4, 1, 0] rfl ?_
              exact ih28 _ (by omega) (k + 1) (q + 0) rfl (by omega) (by first | exact si_y hk.1 hn (⟨⟨by omega, Or.inr (by omega), Or.inl rfl⟩, by omega⟩) | (have h8 := si_n hk.1 hn (fun h => by have h1 := h.1.1; have h2 := h.1.2.1; have h3 := h.2; omega); omega))
            · skip
              refine x_iconst G (by decide) dX7_weighAll_62 ?_
              refine x_goto G 67 (by decide) dX7_weighAll_63 ?_
              refine x_iadd G (by omega) dX7_weighAll_67 ?_
              refine x_istore_n G [(3, xI (q + 1)), (0, xR 195), (1, xI sh), (2, xI m), (4, xI k)] rfl (by decide) rfl dX7_weighAll_68 ?_
              refine x_iinc G [(4, xI (k + 1)), (3, xI (q + 1)), (0, xR 195), (1, xI sh), (2, xI m)] 4 rfl (by decide) (by omega) rfl dX7_weighAll_69 ?_
              refine x_goto G 28 (by decide) dX7_weighAll_72 ?_
              refine x_sub [(0, xR 195), (1, xI sh), (2, xI m), (3, xI (q + 1)), (4, xI (k + 1))] [2, 3, 4, 1, 0] rfl ?_
              exact ih28 _ (by omega) (k + 1) (q + 1) rfl (by omega) (by first | exact si_y hk.1 hn (⟨⟨by omega, Or.inr (by omega), Or.inl rfl⟩, by omega⟩) | (have h8 := si_n hk.1 hn (fun h => by have h1 := h.1.1; have h2 := h.1.2.1; have h3 := h.2; omega); omega))
      refine x_sub [(0, xR 195), (1, xI sh), (2, xI m), (3, xI 0), (4, xI 0)] [2, 3, 4, 1, 0] rfl ?_
      exact loop28 _ 0 0 rfl (by omega) (rfl)
    · skip
      have c18 := b2i_eq0.mp c18
      refine x_iconst G (by decide) dX7_weighAll_21 ?_
      exact x_iret G Rt dX7_weighAll_22 ⟨rfl, rfl, _, rfl, (by
        have e9 : aWAll V sh m = ((-1), none) := (by unfold aWAll; (repeat (first | rw [if_pos (by omega)] | rw [if_neg (by omega)])) <;> try rfl)
        rw [e9]
        exact ⟨rfl, hN, hH, hR, (maf_refl _)⟩)⟩
set_option maxRecDepth 100000 in
set_option maxHeartbeats 4000000 in
theorem kX7_thin (D : xD) (l : Launch) {n : Nat} {T : xT} {M : xM} (V : xM) (Hs : List xM) (sh : Int) (hY : LayOK n T) (hN : mrel (M 196) V) (hv : VOK V) (hs : Srt V (V 10) (V 0 10).toNat) (hR : Rk M V) (hH : mhst M Hs) : xC D l uX7_thin 9 212 0 0 [xR 195, xI sh] n T M (xPI n T (fun z M2 => z = (aThin V sh).1 ∧ mrel (M2 196) (nxV V (aThin V sh)) ∧ mhst M2 (nxH V Hs (aThin V sh)) ∧ Rk M2 (nxV V (aThin V sh)) ∧ mafr M M2)) := by
  refine x_met uX7_thin (by decide) (Nat.le_of_ble_eq_true rfl) ?_
  intro Γ G Rt _
  have G : xG Γ RX7 cX7_thin 4 9 212 0 0 := G
  have Rt : xRt Γ (xPI n T (fun z M2 => z = (aThin V sh).1 ∧ mrel (M2 196) (nxV V (aThin V sh)) ∧ mhst M2 (nxH V Hs (aThin V sh)) ∧ Rk M2 (nxV V (aThin V sh)) ∧ mafr M M2)) (some .int) 0 0 := Rt
  show xX Γ 0 0 n T 0 [(0, xR 195), (1, xI sh)] [] M
  have hc := ok_c hv
  refine x_iload_n G 1 rfl rfl dX7_thin_0 ?_
  refine x_callSp G [] [xI sh] hy_X7_isShard ht_X7_isShard ml_X7_143 rfl rfl (kX7_isShard _ _ sh) (by decide) (by decide) (Nat.le_of_ble_eq_true rfl) dX7_thin_1 ?_
  refine x_if_ne G 9 (by decide) dX7_thin_4 (fun c4 => ?_) (fun c4 => ?_)
  · skip
    have c4 := b2i_ne0.mp c4
    refine x_aload_n G 0 rfl rfl dX7_thin_9 ?_
    refine x_iload_n G 1 rfl rfl dX7_thin_10 ?_
    refine x_callVV G [] [xI sh] rfl (by decide) (ly_n hY 195 (by decide)) (ly_k hY 195 (by decide)) hy_X7_laysSample hi_X7_laysSample hs_X7_laysSample ml_X7_137 rfl rfl (kX7_laysSample _ _ V sh hY hN hv hs hR (by omega)) (by decide) (by decide) (Nat.le_of_ble_eq_true rfl) dX7_thin_11 (fun M11 h11 => ?_)
    have hn11 := h11.1.1
    have hl11 : (smL V sh).length ≤ 100 := take_len (alL_len hv _ _ _ _)
    refine x_aload_n G 0 rfl rfl dX7_thin_14 ?_
    refine x_iload_n G 1 rfl rfl dX7_thin_15 ?_
    refine x_callVp G [] [xI sh] rfl (by decide) (ly_n hY 195 (by decide)) (ly_k hY 195 (by decide)) hy_X7_thereIn hi_X7_thereIn hs_X7_thereIn ml_X7_199 rfl rfl (kX7_thereIn _ _ V sh hY (mr_cg hN (h11.2.1.1 196 (by omega))) hv (by omega)) (by decide) (by decide) (Nat.le_of_ble_eq_true rfl) dX7_thin_16 ?_
    refine x_aload_n G 0 rfl rfl dX7_thin_19 ?_
    refine x_get G (xI (M11 195 8)) xf7_8 lk_X7_103 (ly_n hY 195 (by decide)) (ly_k hY 195 (by decide)) (Or.inl ⟨rfl, rfl⟩) dX7_thin_20 ?_
    rw [show M11 195 8 = ((smL V sh).length : Int) from h11.1.1]
    refine x_isub G (by (have hcu := si_b (fun j => und V j sh (-1)) (V 0 10).toNat; have hcu2 : cntU V sh (-1) = fb_si (fun j => b2i (und V j sh (-1))) (V 0 10).toNat := rfl; omega)) dX7_thin_23 ?_
    have hcu := si_b (fun j => und V j sh (-1)) (V 0 10).toNat
    have hcu2 : cntU V sh (-1) = fb_si (fun j => b2i (und V j sh (-1))) (V 0 10).toNat := rfl
    refine x_istore_n G [(2, xI ((cntU V sh (-1)) - ((smL V sh).length : Int))), (0, xR 195), (1, xI sh)] rfl (by decide) rfl dX7_thin_24 ?_
    refine x_iload_n G 0 rfl rfl dX7_thin_25 ?_
    refine x_if_ne G 32 (by decide) dX7_thin_26 (fun c26 => ?_) (fun c26 => ?_)
    · skip
      refine x_aload_n G 1 rfl rfl dX7_thin_32 ?_
      refine x_callVV G [] [] rfl (by decide) (ly_n hY 195 (by decide)) (ly_k hY 195 (by decide)) hy_X7_keepsAct hi_X7_keepsAct hs_X7_keepsAct ml_X7_216 rfl rfl (kX7_keepsAct _ _ V Hs hY (mr_cg hN (h11.2.1.1 196 (by omega))) hv (mh_cg hH h11.2.1.2.1 (h11.2.1.1 197 (by omega)))) (by decide) (by decide) (Nat.le_of_ble_eq_true rfl) dX7_thin_33 (fun M33 h33 => ?_)
      refine x_iconst G (by decide) dX7_thin_36 ?_
      refine x_istore_n G [(3, xI 0), (2, xI ((cntU V sh (-1)) - ((smL V sh).length : Int))), (0, xR 195), (1, xI sh)] rfl (by decide) rfl dX7_thin_37 ?_
      have loop38 : ∀ (d : Nat) (k : Int) (N1 : xM), (V 0 10 - k).toNat = d → (0 ≤ k ∧ k ≤ V 0 10) → (mrel (N1 196) (mpk V 9 k.toNat (fun j => und V j sh (-1) ∧ j ∉ smL V sh) (fun _ => 1))) → (mhst N1 ((V :: Hs).take 10)) → (N1 195 10 = 0) → (mafr M N1) → (Rw N1 (smL V sh)) → xX Γ 0 0 n T 38 [(0, xR 195), (1, xI sh), (2, xI ((cntU V sh (-1)) - ((smL V sh).length : Int))), (3, xI k)] [] N1 := by
        intro d
        induction d using Nat.strongRecOn with
        | ind d ih38 =>
        intro k N1 hd38 hk hNk hh hr0 hma hw1
        have hvk : VOK (mpk V 9 k.toNat (fun j => und V j sh (-1) ∧ j ∉ smL V sh) (fun _ => 1)) := mpk_ok hv (by decide) (fun j hj => by have g := hv.2.2.1 j hj; simp [itm, xst_eq]; omega)
        have hmc : (mpk V 9 k.toNat (fun j => und V j sh (-1) ∧ j ∉ smL V sh) (fun _ => 1)) 0 10 = V 0 10 := rfl
        have e4 : (mpk V 9 k.toNat (fun j => und V j sh (-1) ∧ j ∉ smL V sh) (fun _ => 1)) 4 k.toNat = V 4 k.toNat := mpk_at (Nat.le_refl _)
        have e5 : (mpk V 9 k.toNat (fun j => und V j sh (-1) ∧ j ∉ smL V sh) (fun _ => 1)) 5 k.toNat = V 5 k.toNat := mpk_at (Nat.le_refl _)
        have e6 : (mpk V 9 k.toNat (fun j => und V j sh (-1) ∧ j ∉ smL V sh) (fun _ => 1)) 6 k.toNat = V 6 k.toNat := mpk_at (Nat.le_refl _)
        have e8 : (mpk V 9 k.toNat (fun j => und V j sh (-1) ∧ j ∉ smL V sh) (fun _ => 1)) 8 k.toNat = V 8 k.toNat := mpk_at (Nat.le_refl _)
        have e9 : (mpk V 9 k.toNat (fun j => und V j sh (-1) ∧ j ∉ smL V sh) (fun _ => 1)) 9 k.toNat = V 9 k.toNat := mpk_at (Nat.le_refl _)
        skip
        refine x_iload_n G 3 rfl rfl dX7_thin_38 ?_
        refine x_aload_n G 0 rfl rfl dX7_thin_39 ?_
        refine x_get G (xR 196) xf7_0 lk_X7_7 (ly_n hY 195 (by decide)) (ly_k hY 195 (by decide)) (Or.inr ⟨rfl, _, (ly_r hY 195 0 (by decide) (by decide)), rfl⟩) dX7_thin_40 ?_
        refine x_iconst G (by decide) dX7_thin_43 ?_
        refine x_iald G (ly_n hY 196 (by decide)) (ly_k hY 196 (by decide)) (show _ = 511 from ly_l hY 196 (by decide)) (by omega) (by omega) dX7_thin_44 ?_
        show xX Γ 0 0 n T 45 [(0, xR 195), (1, xI sh), (2, xI ((cntU V sh (-1)) - ((smL V sh).length : Int))), (3, xI k)] [xI (N1 196 2), xI k] N1
        rw [show N1 196 2 = ((mpk V 9 k.toNat (fun j => und V j sh (-1) ∧ j ∉ smL V sh) (fun _ => 1)) 0 10) from hNk.1.2.2]
        refine x_icmp_ge G 80 (by decide) dX7_thin_45 (fun c45 => ?_) (fun c45 => ?_)
        · skip
          refine x_iload_n G 2 rfl rfl dX7_thin_80 ?_
          exact x_iret G Rt dX7_thin_81 ⟨rfl, rfl, _, rfl, (by
        have e9 : aThin V sh = (((cntU V sh (-1)) - ((smL V sh).length : Int)), some (mpk V 9 (V 0 10).toNat (fun j => und V j sh (-1) ∧ j ∉ smL V sh) (fun _ => 1))) := (by unfold aThin; rw [if_pos (by omega), if_neg (by omega)])
        rw [e9]
        exact ⟨rfl, (by have h9 := hNk; rw [show k = V 0 10 by omega] at h9; exact h9), hh, Or.inl hr0, hma⟩)⟩
        · skip
          have hit := ok_i hv hk.1 (by omega)
          refine x_aload_n G 0 rfl rfl dX7_thin_48 ?_
          refine x_iload_n G 3 rfl rfl dX7_thin_49 ?_
          refine x_callVp G [] [xI k] rfl (by decide) (ly_n hY 195 (by decide)) (ly_k hY 195 (by decide)) hy_X7_shardOf hi_X7_shardOf hs_X7_shardOf ml_X7_62 rfl rfl (kX7_shardOf _ _ (mpk V 9 k.toNat (fun j => und V j sh (-1) ∧ j ∉ smL V sh) (fun _ => 1)) k hY hNk hvk (by omega)) (by decide) (by decide) (Nat.le_of_ble_eq_true rfl) dX7_thin_50 ?_
          refine x_iload_n G 1 rfl rfl dX7_thin_53 ?_
          refine x_icmp_ne G 74 (by decide) dX7_thin_54 (fun c54 => ?_) (fun c54 => ?_)
          · skip
            refine x_iinc G [(3, xI (k + 1)), (0, xR 195), (1, xI sh), (2, xI ((cntU V sh (-1)) - ((smL V sh).length : Int)))] 3 rfl (by decide) (by omega) rfl dX7_thin_74 ?_
            refine x_goto G 38 (by decide) dX7_thin_77 ?_
            refine x_sub [(0, xR 195), (1, xI sh), (2, xI ((cntU V sh (-1)) - ((smL V sh).length : Int))), (3, xI (k + 1))] [1, 2, 3, 0] rfl ?_
            exact ih38 _ (by omega) (k + 1) N1 rfl (by omega) (by rw [show (k + 1).toNat = k.toNat + 1 by omega, ← mpk_n (fun h => by have h1 := h.1.1; have h2 := h.1.2.1; have h3 : ¬ 0 ≤ qPl (smL V sh) k.toNat := fun g => h.2 (qpl_ge.mp g); omega)]; exact hNk) (hh) (hr0) (hma) (hw1)
          · skip
            refine x_aload_n G 0 rfl rfl dX7_thin_57 ?_
            refine x_iload_n G 3 rfl rfl dX7_thin_58 ?_
            refine x_callVp G [] [xI k] rfl (by decide) (ly_n hY 195 (by decide)) (ly_k hY 195 (by decide)) hy_X7_placeOf hi_X7_placeOf hs_X7_placeOf ml_X7_140 rfl rfl (kX7_placeOf _ _ (smL V sh) k hY hw1 hl11 (by omega)) (by decide) (by decide) (Nat.le_of_ble_eq_true rfl) dX7_thin_59 ?_
            refine x_if_ge G 74 (by decide) dX7_thin_62 (fun c62 => ?_) (fun c62 => ?_)
            · skip
              refine x_iinc G [(3, xI (k + 1)), (0, xR 195), (1, xI sh), (2, xI ((cntU V sh (-1)) - ((smL V sh).length : Int)))] 3 rfl (by decide) (by omega) rfl dX7_thin_74 ?_
              refine x_goto G 38 (by decide) dX7_thin_77 ?_
              refine x_sub [(0, xR 195), (1, xI sh), (2, xI ((cntU V sh (-1)) - ((smL V sh).length : Int))), (3, xI (k + 1))] [1, 2, 3, 0] rfl ?_
              exact ih38 _ (by omega) (k + 1) N1 rfl (by omega) (by rw [show (k + 1).toNat = k.toNat + 1 by omega, ← mpk_n (fun h => by have h1 := h.1.1; have h2 := h.1.2.1; have h3 : ¬ 0 ≤ qPl (smL V sh) k.toNat := fun g => h.2 (qpl_ge.mp g); omega)]; exact hNk) (hh) (hr0) (hma) (hw1)
            · skip
              refine x_aload_n G 0 rfl rfl dX7_thin_65 ?_
              refine x_iload_n G 3 rfl rfl dX7_thin_66 ?_
              refine x_iconst G (by decide) dX7_thin_67 ?_
              refine x_iconst G (by decide) dX7_thin_68 ?_
              refine x_iload_n G 1 rfl rfl dX7_thin_69 ?_
              refine x_iadd G (by omega) dX7_thin_70 ?_
              refine x_callVV G [] [xI k, xI 0, xI (4 + sh)] rfl (by decide) (ly_n hY 195 (by decide)) (ly_k hY 195 (by decide)) hy_X7_sets hi_X7_sets hs_X7_sets ml_X7_212 rfl rfl (kX7_sets _ _ k 0 (4 + sh) hY (by omega) (by decide)) (by decide) (by decide) (Nat.le_of_ble_eq_true rfl) dX7_thin_71 (fun M71 h71 => ?_)
              subst h71
              show xX Γ 0 0 n T 74 [(0, xR 195), (1, xI sh), (2, xI ((cntU V sh (-1)) - ((smL V sh).length : Int))), (3, xI k)] [] (xst N1 196 ((11 + (5 * k)) + 0).toNat (4 + sh))
              refine x_iinc G [(3, xI (k + 1)), (0, xR 195), (1, xI sh), (2, xI ((cntU V sh (-1)) - ((smL V sh).length : Int)))] 3 rfl (by decide) (by omega) rfl dX7_thin_74 ?_
              refine x_goto G 38 (by decide) dX7_thin_77 ?_
              refine x_sub [(0, xR 195), (1, xI sh), (2, xI ((cntU V sh (-1)) - ((smL V sh).length : Int))), (3, xI (k + 1))] [1, 2, 3, 0] rfl ?_
              exact ih38 _ (by omega) (k + 1) (xst N1 196 ((11 + (5 * k)) + 0).toNat (4 + sh)) rfl (by omega) (by rw [show (k + 1).toNat = k.toNat + 1 by omega, ← mpk_y (⟨⟨by omega, Or.inr (by omega), Or.inl rfl⟩, fun h => by have h2 := qpl_ge.mpr h; omega⟩)]; exact (mr_set9 hNk (by omega) (by omega))) ((mh_cg hh (xst_nq (by omega)) (xst_row (by omega)))) (((xst_nq (by omega)).trans hr0)) ((maf_st hma (by omega))) ((rw_cg hw1 (xst_nq (by omega)) (xst_row (by omega))))
      refine x_sub [(0, xR 195), (1, xI sh), (2, xI ((cntU V sh (-1)) - ((smL V sh).length : Int))), (3, xI 0)] [2, 3, 1, 0] rfl ?_
      exact loop38 _ 0 M33 rfl (by omega) ((by show mrel _ (mpk V 9 0 _ _); rw [mpk_0]; exact (mr_cg (mr_cg hN (h11.2.1.1 196 (by omega))) (h33.2.2.1 196 (by omega) (by omega))))) (h33.1) (h33.2.1) ((maf_ka (maf_mf (maf_refl _) h11.2.1) h33.2.2)) ((rw_cg h11.1 (h33.2.2.2 8 (by decide) (by decide)) (h33.2.2.1 202 (by decide) (by decide))))
    · skip
      refine x_bipush G (by decide) dX7_thin_29 ?_
      exact x_iret G Rt dX7_thin_31 ⟨rfl, rfl, _, rfl, (by
        have e9 : aThin V sh = ((-2), none) := (by unfold aThin; rw [if_pos (by omega), if_pos (by omega)])
        rw [e9]
        exact ⟨rfl, (mr_cg hN (h11.2.1.1 196 (by omega))), (mh_cg hH h11.2.1.2.1 (h11.2.1.1 197 (by omega))), h11.2.2, (maf_mf (maf_refl _) h11.2.1)⟩)⟩
  · skip
    have c4 := b2i_eq0.mp c4
    refine x_iconst G (by decide) dX7_thin_7 ?_
    exact x_iret G Rt dX7_thin_8 ⟨rfl, rfl, _, rfl, (by
        have e9 : aThin V sh = ((-1), none) := (by unfold aThin; (repeat (first | rw [if_pos (by omega)] | rw [if_neg (by omega)])) <;> try rfl)
        rw [e9]
        exact ⟨rfl, hN, hH, hR, (maf_refl _)⟩)⟩
set_option maxRecDepth 100000 in
set_option maxHeartbeats 4000000 in
theorem kX7_isExpired (D : xD) (l : Launch) {n : Nat} {T : xT} {M : xM} (V : xM) (i : Int) (hY : LayOK n T) (hN : mrel (M 196) V) (hv : VOK V) (hi : isI V i) : xC D l uX7_isExpired 4 85 0 0 [xR 195, xI i] n T M (xPp n T M (b2i (V 9 i.toNat = 0 ∧ ¬ alv V i.toNat (V 0 11)))) := by
  refine x_met uX7_isExpired (by decide) (Nat.le_of_ble_eq_true rfl) ?_
  intro Γ G Rt _
  have G : xG Γ RX7 cX7_isExpired 2 4 85 0 0 := G
  have Rt : xRt Γ (xPp n T M (b2i (V 9 i.toNat = 0 ∧ ¬ alv V i.toNat (V 0 11)))) (some .boolean) 0 0 := Rt
  show xX Γ 0 0 n T 0 [(0, xR 195), (1, xI i)] [] M
  have hc := ok_c hv
  refine x_aload_n G 0 rfl rfl dX7_isExpired_0 ?_
  refine x_iload_n G 1 rfl rfl dX7_isExpired_1 ?_
  refine x_callVp G [] [xI i] rfl (by decide) (ly_n hY 195 (by decide)) (ly_k hY 195 (by decide)) hy_X7_isDropped hi_X7_isDropped hs_X7_isDropped ml_X7_70 rfl rfl (kX7_isDropped _ _ V i hY hN hv (by omega)) (by decide) (by decide) (Nat.le_of_ble_eq_true rfl) dX7_isExpired_2 ?_
  refine x_if_ne G 20 (by decide) dX7_isExpired_5 (fun c5 => ?_) (fun c5 => ?_)
  · skip
    have c5 := b2i_ne0.mp c5
    refine x_iconst G (by decide) dX7_isExpired_20 ?_
    exact x_zret G (by omega) Rt dX7_isExpired_21 ⟨rfl, rfl, congrArg (fun z => some (xI z)) ((b2i_f (p := V 9 i.toNat = 0 ∧ ¬ alv V i.toNat (V 0 11)) (fun h => c5 h.1)).symm), rfl⟩
  · skip
    have c5 := b2i_eq0.mp c5
    refine x_aload_n G 0 rfl rfl dX7_isExpired_8 ?_
    refine x_iload_n G 1 rfl rfl dX7_isExpired_9 ?_
    refine x_callVp G [] [xI i] rfl (by decide) (ly_n hY 195 (by decide)) (ly_k hY 195 (by decide)) hy_X7_isAlive hi_X7_isAlive hs_X7_isAlive ml_X7_134 rfl rfl (kX7_isAlive _ _ V i hY hN hv (by omega)) (by decide) (by decide) (Nat.le_of_ble_eq_true rfl) dX7_isExpired_10 ?_
    refine x_if_ne G 20 (by decide) dX7_isExpired_13 (fun c13 => ?_) (fun c13 => ?_)
    · skip
      have c13 := b2i_ne0.mp c13
      refine x_iconst G (by decide) dX7_isExpired_20 ?_
      exact x_zret G (by omega) Rt dX7_isExpired_21 ⟨rfl, rfl, congrArg (fun z => some (xI z)) ((b2i_f (p := V 9 i.toNat = 0 ∧ ¬ alv V i.toNat (V 0 11)) (fun h => h.2 c13)).symm), rfl⟩
    · skip
      have c13 := b2i_eq0.mp c13
      refine x_iconst G (by decide) dX7_isExpired_16 ?_
      refine x_goto G 21 (by decide) dX7_isExpired_17 ?_
      exact x_zret G (by omega) Rt dX7_isExpired_21 ⟨rfl, rfl, congrArg (fun z => some (xI z)) ((b2i_t ⟨Decidable.not_not.mp c5, c13⟩).symm), rfl⟩
set_option maxRecDepth 100000 in
set_option maxHeartbeats 4000000 in
theorem kX7_purge (D : xD) (l : Launch) {n : Nat} {T : xT} {M : xM} (V : xM) (Hs : List xM) (hY : LayOK n T) (hN : mrel (M 196) V) (hv : VOK V) (hs : Srt V (V 10) (V 0 10).toNat) (hR : Rk M V) (hH : mhst M Hs) : xC D l uX7_purge 5 106 0 0 [xR 195] n T M (xPI n T (fun z M2 => z = (aPurge V).1 ∧ mrel (M2 196) (nxV V (aPurge V)) ∧ mhst M2 (nxH V Hs (aPurge V)) ∧ Rk M2 (nxV V (aPurge V)) ∧ mafr M M2)) := by
  refine x_met uX7_purge (by decide) (Nat.le_of_ble_eq_true rfl) ?_
  intro Γ G Rt _
  have G : xG Γ RX7 cX7_purge 3 5 106 0 0 := G
  have Rt : xRt Γ (xPI n T (fun z M2 => z = (aPurge V).1 ∧ mrel (M2 196) (nxV V (aPurge V)) ∧ mhst M2 (nxH V Hs (aPurge V)) ∧ Rk M2 (nxV V (aPurge V)) ∧ mafr M M2)) (some .int) 0 0 := Rt
  show xX Γ 0 0 n T 0 [(0, xR 195)] [] M
  have hc := ok_c hv
  refine x_iconst G (by decide) dX7_purge_0 ?_
  refine x_istore_n G [(1, xI 0), (0, xR 195)] rfl (by decide) rfl dX7_purge_1 ?_
  refine x_iconst G (by decide) dX7_purge_2 ?_
  refine x_istore_n G [(2, xI 0), (1, xI 0), (0, xR 195)] rfl (by decide) rfl dX7_purge_3 ?_
  have loop4 : ∀ (d : Nat) (k : Int) (q : Int), (V 0 10 - k).toNat = d → (0 ≤ k ∧ k ≤ V 0 10) → (q = fb_si (fun j => b2i (V 9 j = 0 ∧ ¬ alv V j (V 0 11))) k.toNat) → xX Γ 0 0 n T 4 [(0, xR 195), (1, xI q), (2, xI k)] [] M := by
    intro d
    induction d using Nat.strongRecOn with
    | ind d ih4 =>
    intro k q hd4 hk hn
    have hb := si_b (fun j => V 9 j = 0 ∧ ¬ alv V j (V 0 11)) k.toNat
    refine x_iload_n G 2 rfl rfl dX7_purge_4 ?_
    refine x_aload_n G 0 rfl rfl dX7_purge_5 ?_
    refine x_get G (xR 196) xf7_0 lk_X7_7 (ly_n hY 195 (by decide)) (ly_k hY 195 (by decide)) (Or.inr ⟨rfl, _, (ly_r hY 195 0 (by decide) (by decide)), rfl⟩) dX7_purge_6 ?_
    refine x_iconst G (by decide) dX7_purge_9 ?_
    refine x_iald G (ly_n hY 196 (by decide)) (ly_k hY 196 (by decide)) (show _ = 511 from ly_l hY 196 (by decide)) (by omega) (by omega) dX7_purge_10 ?_
    show xX Γ 0 0 n T 11 [(0, xR 195), (1, xI q), (2, xI k)] [xI (M 196 2), xI k] M
    rw [show M 196 2 = (V 0 10) from hN.1.2.2]
    refine x_icmp_ge G 36 (by decide) dX7_purge_11 (fun c11 => ?_) (fun c11 => ?_)
    · skip
      have hq9 : q = cntU V (-1) (-1) - cntA V (-1) (-1) := by (unfold cntU cntA; rw [hn, show k = V 0 10 by omega]; exact exp_cnt V _)
      refine x_iload_n G 1 rfl rfl dX7_purge_36 ?_
      refine x_if_ne G 43 (by decide) dX7_purge_37 (fun c37 => ?_) (fun c37 => ?_)
      · skip
        refine x_aload_n G 0 rfl rfl dX7_purge_43 ?_
        refine x_callVV G [] [] rfl (by decide) (ly_n hY 195 (by decide)) (ly_k hY 195 (by decide)) hy_X7_keepsAct hi_X7_keepsAct hs_X7_keepsAct ml_X7_216 rfl rfl (kX7_keepsAct _ _ V Hs hY hN hv hH) (by decide) (by decide) (Nat.le_of_ble_eq_true rfl) dX7_purge_44 (fun M44 h44 => ?_)
        refine x_iconst G (by decide) dX7_purge_47 ?_
        refine x_istore_n G [(2, xI 0), (0, xR 195), (1, xI q)] rfl (by decide) rfl dX7_purge_48 ?_
        have loop49 : ∀ (d : Nat) (k : Int) (N1 : xM), (V 0 10 - k).toNat = d → (0 ≤ k ∧ k ≤ V 0 10) → (mrel (N1 196) (mpk V 9 k.toNat (fun j => ¬ alv V j (V 0 11)) (fun _ => 1))) → (mhst N1 ((V :: Hs).take 10)) → (N1 195 10 = 0) → (mafr M N1) → xX Γ 0 0 n T 49 [(0, xR 195), (1, xI q), (2, xI k)] [] N1 := by
          intro d
          induction d using Nat.strongRecOn with
          | ind d ih49 =>
          intro k N1 hd49 hk hNk hh hr0 hma
          have hvk : VOK (mpk V 9 k.toNat (fun j => ¬ alv V j (V 0 11)) (fun _ => 1)) := mpk_ok hv (by decide) (fun j hj => by have g := hv.2.2.1 j hj; simp [itm, xst_eq]; omega)
          have hmc : (mpk V 9 k.toNat (fun j => ¬ alv V j (V 0 11)) (fun _ => 1)) 0 10 = V 0 10 := rfl
          have e4 : (mpk V 9 k.toNat (fun j => ¬ alv V j (V 0 11)) (fun _ => 1)) 4 k.toNat = V 4 k.toNat := mpk_at (Nat.le_refl _)
          have e5 : (mpk V 9 k.toNat (fun j => ¬ alv V j (V 0 11)) (fun _ => 1)) 5 k.toNat = V 5 k.toNat := mpk_at (Nat.le_refl _)
          have e6 : (mpk V 9 k.toNat (fun j => ¬ alv V j (V 0 11)) (fun _ => 1)) 6 k.toNat = V 6 k.toNat := mpk_at (Nat.le_refl _)
          have e8 : (mpk V 9 k.toNat (fun j => ¬ alv V j (V 0 11)) (fun _ => 1)) 8 k.toNat = V 8 k.toNat := mpk_at (Nat.le_refl _)
          have e9 : (mpk V 9 k.toNat (fun j => ¬ alv V j (V 0 11)) (fun _ => 1)) 9 k.toNat = V 9 k.toNat := mpk_at (Nat.le_refl _)
          have ealv : alv (mpk V 9 k.toNat (fun j => ¬ alv V j (V 0 11)) (fun _ => 1)) k.toNat ((mpk V 9 k.toNat (fun j => ¬ alv V j (V 0 11)) (fun _ => 1)) 0 11) ↔ alv V k.toNat (V 0 11) := by (show ((mpk V 9 k.toNat (fun j => ¬ alv V j (V 0 11)) (fun _ => 1)) 9 k.toNat = 0 ∧ (V 12 ((mpk V 9 k.toNat (fun j => ¬ alv V j (V 0 11)) (fun _ => 1)) 4 k.toNat).toNat = 0 ∨ V 0 11 - V 12 ((mpk V 9 k.toNat (fun j => ¬ alv V j (V 0 11)) (fun _ => 1)) 4 k.toNat).toNat < (mpk V 9 k.toNat (fun j => ¬ alv V j (V 0 11)) (fun _ => 1)) 8 k.toNat)) ↔ (V 9 k.toNat = 0 ∧ (V 12 (V 4 k.toNat).toNat = 0 ∨ V 0 11 - V 12 (V 4 k.toNat).toNat < V 8 k.toNat)); rw [e9, e4, e8])
          refine x_iload_n G 2 rfl rfl dX7_purge_49 ?_
          refine x_aload_n G 0 rfl rfl dX7_purge_50 ?_
          refine x_get G (xR 196) xf7_0 lk_X7_7 (ly_n hY 195 (by decide)) (ly_k hY 195 (by decide)) (Or.inr ⟨rfl, _, (ly_r hY 195 0 (by decide) (by decide)), rfl⟩) dX7_purge_51 ?_
          refine x_iconst G (by decide) dX7_purge_54 ?_
          refine x_iald G (ly_n hY 196 (by decide)) (ly_k hY 196 (by decide)) (show _ = 511 from ly_l hY 196 (by decide)) (by omega) (by omega) dX7_purge_55 ?_
          show xX Γ 0 0 n T 56 [(0, xR 195), (1, xI q), (2, xI k)] [xI (N1 196 2), xI k] N1
          rw [show N1 196 2 = ((mpk V 9 k.toNat (fun j => ¬ alv V j (V 0 11)) (fun _ => 1)) 0 10) from hNk.1.2.2]
          refine x_icmp_ge G 86 (by decide) dX7_purge_56 (fun c56 => ?_) (fun c56 => ?_)
          · skip
            refine x_iload_n G 1 rfl rfl dX7_purge_86 ?_
            exact x_iret G Rt dX7_purge_87 ⟨rfl, rfl, _, rfl, (by
        have e9 : aPurge V = (q, some (mpk V 9 (V 0 10).toNat (fun j => ¬ alv V j (V 0 11)) (fun _ => 1))) := (by unfold aPurge; rw [if_neg (by omega), ← hq9])
        rw [e9]
        exact ⟨rfl, (by have h9 := hNk; rw [show k = V 0 10 by omega] at h9; exact h9), hh, Or.inl hr0, hma⟩)⟩
          · skip
            have hit := ok_i hv hk.1 (by omega)
            refine x_aload_n G 0 rfl rfl dX7_purge_59 ?_
            refine x_iload_n G 2 rfl rfl dX7_purge_60 ?_
            refine x_callVp G [] [xI k] rfl (by decide) (ly_n hY 195 (by decide)) (ly_k hY 195 (by decide)) hy_X7_isExpired hi_X7_isExpired hs_X7_isExpired ml_X7_355 rfl rfl (kX7_isExpired _ _ (mpk V 9 k.toNat (fun j => ¬ alv V j (V 0 11)) (fun _ => 1)) k hY hNk hvk (by omega)) (by decide) (by decide) (Nat.le_of_ble_eq_true rfl) dX7_purge_61 ?_
            refine x_if_eq G 80 (by decide) dX7_purge_64 (fun c64 => ?_) (fun c64 => ?_)
            · skip
              have c64 := b2i_eq0.mp c64
              refine x_iinc G [(2, xI (k + 1)), (0, xR 195), (1, xI q)] 2 rfl (by decide) (by omega) rfl dX7_purge_80 ?_
              refine x_goto G 49 (by decide) dX7_purge_83 ?_
              refine x_sub [(0, xR 195), (1, xI q), (2, xI (k + 1))] [1, 2, 0] rfl ?_
              exact ih49 _ (by omega) (k + 1) N1 rfl (by omega) (by rw [show (k + 1).toNat = k.toNat + 1 by omega, ← mpk_s (fun h => by (have h1 : ¬ V 9 k.toNat = 0 := fun g => c64 ⟨by omega, fun a => h (ealv.mp a)⟩); show (1 : Int) = V 9 k.toNat; omega)]; exact hNk) (hh) (hr0) (hma)
            · skip
              have c64 := b2i_ne0.mp c64
              refine x_aload_n G 0 rfl rfl dX7_purge_67 ?_
              refine x_iload_n G 2 rfl rfl dX7_purge_68 ?_
              refine x_iconst G (by decide) dX7_purge_69 ?_
              refine x_iconst G (by decide) dX7_purge_70 ?_
              refine x_aload_n G 0 rfl rfl dX7_purge_71 ?_
              refine x_iload_n G 2 rfl rfl dX7_purge_72 ?_
              refine x_callVp G [xI 4, xI 0, xI k, xR 195] [xI k] rfl (by decide) (ly_n hY 195 (by decide)) (ly_k hY 195 (by decide)) hy_X7_shardOf hi_X7_shardOf hs_X7_shardOf ml_X7_62 rfl rfl (kX7_shardOf_u _ _ (mpk V 9 k.toNat (fun j => ¬ alv V j (V 0 11)) (fun _ => 1)) k hY hNk hvk (by omega) (show (mpk V 9 k.toNat (fun j => ¬ alv V j (V 0 11)) (fun _ => 1)) 9 k.toNat = 0 by omega)) (by decide) (by decide) (Nat.le_of_ble_eq_true rfl) dX7_purge_73 ?_
              refine x_iadd G (by omega) dX7_purge_76 ?_
              refine x_callVV G [] [xI k, xI 0, xI (4 + ((mpk V 9 k.toNat (fun j => ¬ alv V j (V 0 11)) (fun _ => 1)) 4 k.toNat))] rfl (by decide) (ly_n hY 195 (by decide)) (ly_k hY 195 (by decide)) hy_X7_sets hi_X7_sets hs_X7_sets ml_X7_212 rfl rfl (kX7_sets _ _ k 0 (4 + ((mpk V 9 k.toNat (fun j => ¬ alv V j (V 0 11)) (fun _ => 1)) 4 k.toNat)) hY (by omega) (by decide)) (by decide) (by decide) (Nat.le_of_ble_eq_true rfl) dX7_purge_77 (fun M77 h77 => ?_)
              subst h77
              show xX Γ 0 0 n T 80 [(0, xR 195), (1, xI q), (2, xI k)] [] (xst N1 196 ((11 + (5 * k)) + 0).toNat (4 + ((mpk V 9 k.toNat (fun j => ¬ alv V j (V 0 11)) (fun _ => 1)) 4 k.toNat)))
              refine x_iinc G [(2, xI (k + 1)), (0, xR 195), (1, xI q)] 2 rfl (by decide) (by omega) rfl dX7_purge_80 ?_
              refine x_goto G 49 (by decide) dX7_purge_83 ?_
              refine x_sub [(0, xR 195), (1, xI q), (2, xI (k + 1))] [1, 2, 0] rfl ?_
              exact ih49 _ (by omega) (k + 1) (xst N1 196 ((11 + (5 * k)) + 0).toNat (4 + ((mpk V 9 k.toNat (fun j => ¬ alv V j (V 0 11)) (fun _ => 1)) 4 k.toNat))) rfl (by omega) (by rw [show (k + 1).toNat = k.toNat + 1 by omega, ← mpk_y (fun h => c64.2 (ealv.mpr h))]; exact (mr_set9 hNk (by omega) (by omega))) ((mh_cg hh (xst_nq (by omega)) (xst_row (by omega)))) (((xst_nq (by omega)).trans hr0)) ((maf_st hma (by omega)))
        refine x_sub [(0, xR 195), (1, xI q), (2, xI 0)] [1, 2, 0] rfl ?_
        exact loop49 _ 0 M44 rfl (by omega) ((by show mrel _ (mpk V 9 0 _ _); rw [mpk_0]; exact (mr_cg hN (h44.2.2.1 196 (by omega) (by omega))))) (h44.1) (h44.2.1) ((maf_ka (maf_refl _) h44.2.2))
      · skip
        refine x_bipush G (by decide) dX7_purge_40 ?_
        exact x_iret G Rt dX7_purge_42 ⟨rfl, rfl, _, rfl, (by
        have e9 : aPurge V = ((-2), none) := (by unfold aPurge; rw [if_pos (by omega)])
        rw [e9]
        exact ⟨rfl, hN, hH, hR, (maf_refl _)⟩)⟩
    · skip
      refine x_iload_n G 1 rfl rfl dX7_purge_14 ?_
      refine x_aload_n G 0 rfl rfl dX7_purge_15 ?_
      refine x_iload_n G 2 rfl rfl dX7_purge_16 ?_
      refine x_callVp G [xI q] [xI k] rfl (by decide) (ly_n hY 195 (by decide)) (ly_k hY 195 (by decide)) hy_X7_isExpired hi_X7_isExpired hs_X7_isExpired ml_X7_355 rfl rfl (kX7_isExpired _ _ V k hY hN hv (by omega)) (by decide) (by decide) (Nat.le_of_ble_eq_true rfl) dX7_purge_17 ?_
      refine x_if_eq G 27 (by decide) dX7_purge_20 (fun c20 => ?_) (fun c20 => ?_)
      · skip
        have c20 := b2i_eq0.mp c20
        refine x_iconst G (by decide) dX7_purge_27 ?_
        refine x_iadd G (by omega) dX7_purge_28 ?_
        refine x_istore_n G [(1, xI (q + 0)), (0, xR 195), (2, xI k)] rfl (by decide) rfl dX7_purge_29 ?_
        refine x_iinc G [(2, xI (k + 1)), (1, xI (q + 0)), (0, xR 195)] 2 rfl (by decide) (by omega) rfl dX7_purge_30 ?_
        refine x_goto G 4 (by decide) dX7_purge_33 ?_
        refine x_sub [(0, xR 195), (1, xI (q + 0)), (2, xI (k + 1))] [2, 1, 0] rfl ?_
        exact ih4 _ (by omega) (k + 1) (q + 0) rfl (by omega) (by first | exact si_y hk.1 hn (c20) | (have h8 := si_n hk.1 hn (c20); omega))
      · skip
        have c20 := b2i_ne0.mp c20
        refine x_iconst G (by decide) dX7_purge_23 ?_
        refine x_goto G 28 (by decide) dX7_purge_24 ?_
        refine x_iadd G (by omega) dX7_purge_28 ?_
        refine x_istore_n G [(1, xI (q + 1)), (0, xR 195), (2, xI k)] rfl (by decide) rfl dX7_purge_29 ?_
        refine x_iinc G [(2, xI (k + 1)), (1, xI (q + 1)), (0, xR 195)] 2 rfl (by decide) (by omega) rfl dX7_purge_30 ?_
        refine x_goto G 4 (by decide) dX7_purge_33 ?_
        refine x_sub [(0, xR 195), (1, xI (q + 1)), (2, xI (k + 1))] [2, 1, 0] rfl ?_
        exact ih4 _ (by omega) (k + 1) (q + 1) rfl (by omega) (by first | exact si_y hk.1 hn (c20) | (have h8 := si_n hk.1 hn (c20); omega))
  refine x_sub [(0, xR 195), (1, xI 0), (2, xI 0)] [2, 1, 0] rfl ?_
  exact loop4 _ 0 0 rfl (by omega) (rfl)
