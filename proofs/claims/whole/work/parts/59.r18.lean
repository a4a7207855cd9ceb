theorem skp_0 : True := trivial
set_option maxRecDepth 100000 in
set_option maxHeartbeats 4000000 in
theorem kX7_readsAll (D : xD) (l : Launch) {n : Nat} {T : xT} {M : xM} (bt : Int → Int) (len : Int) (V : xM) (hY : LayOK n T) (hT : TB bt len) (hM : TMm M bt len) (hN : mrel (M 196) V) (hv : VOK V) : xC D l uX7_readsAll 7 160 0 0 [xR 195] n T M (xPI n T (fun z M2 => (((pAll bt len 401 0 V).1 = -1 ∧ z = 1 ∧ mrel (M2 196) (pAll bt len 401 0 V).2 ∧ VOK (pAll bt len 401 0 V).2) ∨ (¬ (pAll bt len 401 0 V).1 = -1 ∧ z = 0 ∧ M2 195 20 = (pAll bt len 401 0 V).1)) ∧ tq4 M M2)) := by
  refine x_met uX7_readsAll (by decide) (Nat.le_of_ble_eq_true rfl) ?_
  intro Γ G Rt _
  have G : xG Γ RX7 cX7_readsAll 2 7 160 0 0 := G
  have Rt : xRt Γ (xPI n T (fun z M2 => (((pAll bt len 401 0 V).1 = -1 ∧ z = 1 ∧ mrel (M2 196) (pAll bt len 401 0 V).2 ∧ VOK (pAll bt len 401 0 V).2) ∨ (¬ (pAll bt len 401 0 V).1 = -1 ∧ z = 0 ∧ M2 195 20 = (pAll bt len 401 0 V).1)) ∧ tq4 M M2)) (some .boolean) 0 0 := Rt
  show xX Γ 0 0 n T 0 [(0, xR 195)] [] M
  have hlb := hT.1
  have hMl := hM.1
  refine x_aload_n G 0 rfl rfl dX7_readsAll_0 ?_
  refine x_iconst G (by decide) dX7_readsAll_1 ?_
  refine x_put G  xf7_19 lk_X7_288 (ly_n hY 195 (by decide)) (ly_k hY 195 (by decide)) rfl dX7_readsAll_2 ?_
  refine x_iconst G (by decide) dX7_readsAll_5 ?_
  refine x_istore_n G [(1, xI 1), (0, xR 195)] rfl (by decide) rfl dX7_readsAll_6 ?_
  refine x_iload_n G 0 rfl rfl dX7_readsAll_7 ?_
  refine x_if_eq G 56 (by decide) dX7_readsAll_8 (fun c8 => absurd c8 (by decide)) (fun _ => ?_)
  have loop11 : ∀ (d : Nat) (a0 : Int) (f : Nat) (Vk : xM) (N9 : xM), f = d → (N9 195 19 = a0) → (0 ≤ a0 ∧ a0 ≤ len) → (mrel (N9 196) Vk) → (VOK Vk) → (pAll bt len 401 0 V = pAll bt len f a0 Vk) → (401 ≤ a0 + f) → (tq4 M N9) → xX Γ 0 0 n T 11 [(0, xR 195), (1, xI 1)] [] N9 := by
    intro d
    induction d using Nat.strongRecOn with
    | ind d ih11 =>
    intro a0 f Vk N9 hd11 hsp hab hNk hvk hpa hfu ht4
    skip
    refine x_aload_n G 0 rfl rfl dX7_readsAll_11 ?_
    refine x_callVI G [] [] rfl (by decide) (ly_n hY 195 (by decide)) (ly_k hY 195 (by decide)) hy_X7_readsStatement hi_X7_readsStatement hs_X7_readsStatement ml_X7_344 rfl rfl (kX7_readsStatement _ _ bt len a0 Vk hY hT (tmm_4 hM ht4) hsp (by omega) hNk hvk) (by decide) (by decide) (Nat.le_of_ble_eq_true rfl) dX7_readsAll_12 (fun z12 M12 h12 => ?_)
    refine x_if_ne G 20 (by decide) dX7_readsAll_15 (fun c15 => ?_) (fun c15 => ?_)
    · skip
      have hr12 := h12.1.resolve_right (fun g => c15 g.2.1)
      have hge12 := (pStm_q hT hab.2 hab.1).2 hr12.1
      have hfu2 : f = (f - 1) + 1 := by omega
      refine x_aload_n G 0 rfl rfl dX7_readsAll_20 ?_
      refine x_callVI G [] [] rfl (by decide) (ly_n hY 195 (by decide)) (ly_k hY 195 (by decide)) hy_X7_nextByte hi_X7_nextByte hs_X7_nextByte ml_X7_297 rfl rfl (kX7_nextByte _ _ bt len ((pStm bt a0 Vk).2.1) hY hT (tmm_4 hM (tq4_tr ht4 h12.2)) hr12.2.2.1 (by omega)) (by decide) (by decide) (Nat.le_of_ble_eq_true rfl) dX7_readsAll_21 (fun z21 M21 h21 => ?_)
      rw [h21.1.1]
      have hsk21 := skp_b hT (show (pStm bt a0 Vk).2.1 ≤ len by omega)
      refine x_bipush G (by decide) dX7_readsAll_24 ?_
      refine x_icmp_ne G 33 (by decide) dX7_readsAll_26 (fun c26 => ?_) (fun c26 => ?_)
      · skip
        refine x_iconst G (by decide) dX7_readsAll_33 ?_
        refine x_istore_n G [(1, xI 0), (0, xR 195)] rfl (by decide) rfl dX7_readsAll_34 ?_
        refine x_aload_n G 1 rfl rfl dX7_readsAll_35 ?_
        refine x_dup G rfl dX7_readsAll_36 ?_
        refine x_get G (xI (M21 195 19)) xf7_19 lk_X7_288 (ly_n hY 195 (by decide)) (ly_k hY 195 (by decide)) (Or.inl ⟨rfl, rfl⟩) dX7_readsAll_37 ?_
        rw [show M21 195 19 = (skp bt ((pStm bt a0 Vk).2.1)) from h21.1.2]
        refine x_iload_n G 0 rfl rfl dX7_readsAll_40 ?_
        refine x_if_eq G 48 (by decide) dX7_readsAll_41 (fun _ => ?_) (fun c41 => absurd c41 (by decide))
        refine x_iconst G (by decide) dX7_readsAll_48 ?_
        refine x_iadd G (by omega) dX7_readsAll_49 ?_
        rw [Int.add_zero]
        refine x_put G  xf7_19 lk_X7_288 (ly_n hY 195 (by decide)) (ly_k hY 195 (by decide)) rfl dX7_readsAll_50 ?_
        refine x_goto G 7 (by decide) dX7_readsAll_53 ?_
        refine x_iload_n G 0 rfl rfl dX7_readsAll_7 ?_
        refine x_if_eq G 56 (by decide) dX7_readsAll_8 (fun _ => ?_) (fun c8 => absurd c8 (by decide))
        refine x_aload_n G 1 rfl rfl dX7_readsAll_56 ?_
        refine x_callVI G [] [] rfl (by decide) (ly_n hY 195 (by decide)) (ly_k hY 195 (by decide)) hy_X7_nextByte hi_X7_nextByte hs_X7_nextByte ml_X7_297 rfl rfl (kX7_nextByte _ _ bt len (skp bt ((pStm bt a0 Vk).2.1)) hY hT (tmm_cg (tmm_4 hM (tq4_tr (tq4_tr ht4 h12.2) (tq4_3 (tq13 h21.2)))) (xst_nq (by omega)) (xst_row (by omega))) (xst_same ..) (by omega)) (by decide) (by decide) (Nat.le_of_ble_eq_true rfl) dX7_readsAll_57 (fun z57 M57 h57 => ?_)
        rw [h57.1.1]
        have hsk57 := skp_b hT (show (skp bt ((pStm bt a0 Vk).2.1)) ≤ len by omega)
        have hss9 : skp bt (skp bt (pStm bt a0 Vk).2.1) = skp bt (pStm bt a0 Vk).2.1 := skp_id hsk21.2.2
        refine x_iconst G (by decide) dX7_readsAll_60 ?_
        refine x_icmp_eq G 76 (by decide) dX7_readsAll_61 (fun c61 => ?_) (fun c61 => ?_)
        · skip
          refine x_iconst G (by decide) dX7_readsAll_76 ?_
          refine x_goto G 81 (by decide) dX7_readsAll_77 ?_
          exact x_zret G (by omega) Rt dX7_readsAll_81 ⟨rfl, rfl, _, rfl, (by
          have hge : len ≤ skp bt (pStm bt a0 Vk).2.1 := by (rcases Int.lt_or_le (skp bt (pStm bt a0 Vk).2.1) len with g | g; have h9 := hT.2.1 _ (by omega) g; rw [hss9] at c61; omega; exact g)
          have e9 : pAll bt len 401 0 V = (-1, (pStm bt a0 Vk).2.2) := by rw [hpa, show pAll bt len f a0 Vk = pAll bt len ((f - 1) + 1) a0 Vk by rw [← hfu2]]; show (if (pStm bt a0 Vk).1 = -1 then _ else _) = _; rw [if_pos hr12.1, if_neg c26, if_pos hge]
          rw [e9]
          exact ⟨Or.inl ⟨rfl, rfl, (mr_cg (mr_cg (mr_cg hr12.2.2.2.1 (h21.2.1 196 (by omega))) (xst_row (by omega))) (h57.2.1 196 (by omega))), hr12.2.2.2.2⟩, (tq4_tr (tq4_st (tq4_tr (tq4_tr ht4 h12.2) (tq4_3 (tq13 h21.2))) (by omega)) (tq4_3 (tq13 h57.2)))⟩)⟩
        · skip
          refine x_aload_n G 1 rfl rfl dX7_readsAll_64 ?_
          refine x_iconst G (by decide) dX7_readsAll_65 ?_
          refine x_aload_n G 1 rfl rfl dX7_readsAll_66 ?_
          refine x_get G (xI (M57 195 19)) xf7_19 lk_X7_288 (ly_n hY 195 (by decide)) (ly_k hY 195 (by decide)) (Or.inl ⟨rfl, rfl⟩) dX7_readsAll_67 ?_
          rw [show M57 195 19 = (skp bt (skp bt ((pStm bt a0 Vk).2.1))) from h57.1.2]
          refine x_callVI G [] [xI 1, xI (skp bt (skp bt ((pStm bt a0 Vk).2.1)))] rfl (by decide) (ly_n hY 195 (by decide)) (ly_k hY 195 (by decide)) hy_X7_fails hi_X7_fails hs_X7_fails ml_X7_308 rfl rfl (kX7_fails _ _ 1 (skp bt (skp bt ((pStm bt a0 Vk).2.1))) hY (by omega) (by omega)) (by decide) (by decide) (Nat.le_of_ble_eq_true rfl) dX7_readsAll_70 (fun z70 M70 h70 => ?_)
          obtain ⟨hz70, rfl⟩ := h70
          rw [hz70]
          show xX Γ 0 0 n T 73 [(1, xI 0), (0, xR 195)] [xI 0] (xst M57 195 20 (8 * (skp bt (skp bt ((pStm bt a0 Vk).2.1))) + 1))
          refine x_if_eq G 80 (by decide) dX7_readsAll_73 (fun _ => ?_) (fun c73 => absurd c73 (by decide))
          refine x_iconst G (by decide) dX7_readsAll_80 ?_
          exact x_zret G (by omega) Rt dX7_readsAll_81 ⟨rfl, rfl, _, rfl, (by
          have hlt : ¬ len ≤ skp bt (pStm bt a0 Vk).2.1 := fun g => c61 (by rw [hss9]; exact hT.2.2 _ g)
          have e9 : pAll bt len 401 0 V = (8 * skp bt (pStm bt a0 Vk).2.1 + 1, Vk) := by rw [hpa, show pAll bt len f a0 Vk = pAll bt len ((f - 1) + 1) a0 Vk by rw [← hfu2]]; show (if (pStm bt a0 Vk).1 = -1 then _ else _) = _; rw [if_pos hr12.1, if_neg c26, if_neg hlt]
          rw [e9]
          exact ⟨Or.inr ⟨by show ¬ 8 * skp bt (pStm bt a0 Vk).2.1 + 1 = -1; omega, rfl, (xst_same ..).trans (by rw [hss9])⟩, (tq4_st (tq4_tr (tq4_st (tq4_tr (tq4_tr ht4 h12.2) (tq4_3 (tq13 h21.2))) (by omega)) (tq4_3 (tq13 h57.2))) (by omega))⟩)⟩
      · skip
        refine x_iconst G (by decide) dX7_readsAll_29 ?_
        refine x_goto G 34 (by decide) dX7_readsAll_30 ?_
        refine x_istore_n G [(1, xI 1), (0, xR 195)] rfl (by decide) rfl dX7_readsAll_34 ?_
        refine x_aload_n G 1 rfl rfl dX7_readsAll_35 ?_
        refine x_dup G rfl dX7_readsAll_36 ?_
        refine x_get G (xI (M21 195 19)) xf7_19 lk_X7_288 (ly_n hY 195 (by decide)) (ly_k hY 195 (by decide)) (Or.inl ⟨rfl, rfl⟩) dX7_readsAll_37 ?_
        rw [show M21 195 19 = (skp bt ((pStm bt a0 Vk).2.1)) from h21.1.2]
        refine x_iload_n G 0 rfl rfl dX7_readsAll_40 ?_
        refine x_if_eq G 48 (by decide) dX7_readsAll_41 (fun c41 => absurd c41 (by decide)) (fun _ => ?_)
        refine x_iconst G (by decide) dX7_readsAll_44 ?_
        refine x_goto G 49 (by decide) dX7_readsAll_45 ?_
        refine x_iadd G (by omega) dX7_readsAll_49 ?_
        skip
        refine x_put G  xf7_19 lk_X7_288 (ly_n hY 195 (by decide)) (ly_k hY 195 (by decide)) rfl dX7_readsAll_50 ?_
        refine x_goto G 7 (by decide) dX7_readsAll_53 ?_
        refine x_iload_n G 0 rfl rfl dX7_readsAll_7 ?_
        refine x_if_eq G 56 (by decide) dX7_readsAll_8 (fun c8 => absurd c8 (by decide)) (fun _ => ?_)
        refine x_sub [(0, xR 195), (1, xI 1)] [1, 0] rfl ?_
        exact ih11 _ (by omega) (skp bt (pStm bt a0 Vk).2.1 + 1) (f - 1) ((pStm bt a0 Vk).2.2) (xst M21 195 19 ((skp bt ((pStm bt a0 Vk).2.1)) + 1)) rfl (xst_same ..) (by (have h9 : ¬ len ≤ skp bt (pStm bt a0 Vk).2.1 := fun g => by have h8 := hT.2.2 _ g; omega); omega) ((mr_cg (mr_cg hr12.2.2.2.1 (h21.2.1 196 (by omega))) (xst_row (by omega)))) (hr12.2.2.2.2) (by rw [hpa, show pAll bt len f a0 Vk = pAll bt len ((f - 1) + 1) a0 Vk by rw [← hfu2]]; show (if (pStm bt a0 Vk).1 = -1 then _ else _) = _; rw [if_pos hr12.1, if_pos c26]) (by omega) ((tq4_st (tq4_tr (tq4_tr ht4 h12.2) (tq4_3 (tq13 h21.2))) (by omega)))
    · skip
      have hr12 := h12.1.resolve_left (fun g => by have g1 := g.2.1; omega)
      have hfu2 : f = (f - 1) + 1 := by omega
      refine x_iconst G (by decide) dX7_readsAll_18 ?_
      exact x_zret G (by omega) Rt dX7_readsAll_19 ⟨rfl, rfl, _, rfl, (by
          have e9 : pAll bt len 401 0 V = ((pStm bt a0 Vk).1, Vk) := by rw [hpa, show pAll bt len f a0 Vk = pAll bt len ((f - 1) + 1) a0 Vk by rw [← hfu2]]; show (if (pStm bt a0 Vk).1 = -1 then _ else _) = _; rw [if_neg hr12.1]
          rw [e9]
          exact ⟨Or.inr ⟨hr12.1, rfl, hr12.2.2⟩, (tq4_tr ht4 h12.2)⟩)⟩
  refine x_sub [(0, xR 195), (1, xI 1)] [1, 0] rfl ?_
  exact loop11 _ 0 401 V (xst M 195 19 0) rfl (xst_same ..) (by omega) ((mr_cg hN (xst_row (by omega)))) (hv) (rfl) (by omega) ((tq4_3 (tq3_st (tq3_refl _) (by omega))))
set_option maxRecDepth 100000 in
set_option maxHeartbeats 4000000 in
theorem kX7_begins (D : xD) (l : Launch) {n : Nat} {T : xT} {M : xM} (x : Nat) (hxn : x < n) (hxk : (T x).1 = 9) (hxl : (T x).2.1 = 511) : xC D l uX7_begins 0 0 0 0 [xR x] n T M (xPV n T (fun M2 => (∀ V0, zer V0 → mrel (M2 x) V0) ∧ ∀ q, q ≠ x → M2 q = M q)) := by
  refine x_met uX7_begins (by decide) (Nat.le_of_ble_eq_true rfl) ?_
  intro Γ G Rt _
  have G : xG Γ RX7 cX7_begins 2 0 0 0 0 := G
  have Rt : xRt Γ (xPV n T (fun M2 => (∀ V0, zer V0 → mrel (M2 x) V0) ∧ ∀ q, q ≠ x → M2 q = M q)) none 0 0 := Rt
  show xX Γ 0 0 n T 0 [(0, xR x)] [] M
  refine x_iconst G (by decide) dX7_begins_0 ?_
  refine x_istore_n G [(1, xI 0), (0, xR x)] rfl (by decide) rfl dX7_begins_1 ?_
  have loop2 : ∀ (d : Nat) (k : Int) (N1 : xM), (511 - k).toNat = d → (0 ≤ k ∧ k ≤ 511) → (∀ q, q ≠ x → N1 q = M q) → (∀ j : Nat, (j : Int) < k → N1 x j = 0) → xX Γ 0 0 n T 2 [(0, xR x), (1, xI k)] [] N1 := by
    intro d
    induction d using Nat.strongRecOn with
    | ind d ih2 =>
    intro k N1 hd2 hk hfr hlo
    refine x_iload_n G 1 rfl rfl dX7_begins_2 ?_
    refine x_sipush G (by decide) dX7_begins_3 ?_
    refine x_icmp_ge G 19 (by decide) dX7_begins_6 (fun c6 => ?_) (fun c6 => ?_)
    · skip
      refine x_aload_n G 0 rfl rfl dX7_begins_19 ?_
      refine x_iconst G (by decide) dX7_begins_20 ?_
      refine x_iconst G (by decide) dX7_begins_21 ?_
      refine x_iast G hxn hxk (hxl) (by omega) (by omega) dX7_begins_22 ?_
      show xX Γ 0 0 n T 23 [(0, xR x), (1, xI k)] [] (xst N1 x 1 1)
      refine x_iconst G (by decide) dX7_begins_23 ?_
      refine x_istore_n G [(1, xI 0), (0, xR x)] rfl (by decide) rfl dX7_begins_24 ?_
      refine x_iload_n G 0 rfl rfl dX7_begins_25 ?_
      refine x_iconst G (by decide) dX7_begins_26 ?_
      refine x_icmp_ge G 42 (by decide) dX7_begins_27 (fun c27 => absurd c27 (by decide)) (fun _ => ?_)
      refine x_aload_n G 1 rfl rfl dX7_begins_30 ?_
      refine x_iconst G (by decide) dX7_begins_31 ?_
      refine x_iload_n G 0 rfl rfl dX7_begins_32 ?_
      refine x_iadd G (by decide) dX7_begins_33 ?_
      show xX Γ 0 0 n T 34 [(1, xI 0), (0, xR x)] [xI 3, xR x] (xst N1 x 1 1)
      refine x_iconst G (by decide) dX7_begins_34 ?_
      refine x_iast G hxn hxk (hxl) (by omega) (by omega) dX7_begins_35 ?_
      show xX Γ 0 0 n T 36 [(1, xI 0), (0, xR x)] [] (xst (xst N1 x 1 1) x 3 4)
      refine x_iinc G [(1, xI 1), (0, xR x)] 0 rfl (by decide) (by omega) rfl dX7_begins_36 ?_
      refine x_goto G 25 (by decide) dX7_begins_39 ?_
      refine x_iload_n G 0 rfl rfl dX7_begins_25 ?_
      refine x_iconst G (by decide) dX7_begins_26 ?_
      refine x_icmp_ge G 42 (by decide) dX7_begins_27 (fun c27 => absurd c27 (by decide)) (fun _ => ?_)
      refine x_aload_n G 1 rfl rfl dX7_begins_30 ?_
      refine x_iconst G (by decide) dX7_begins_31 ?_
      refine x_iload_n G 0 rfl rfl dX7_begins_32 ?_
      refine x_iadd G (by decide) dX7_begins_33 ?_
      show xX Γ 0 0 n T 34 [(1, xI 1), (0, xR x)] [xI 4, xR x] (xst (xst N1 x 1 1) x 3 4)
      refine x_iconst G (by decide) dX7_begins_34 ?_
      refine x_iast G hxn hxk (hxl) (by omega) (by omega) dX7_begins_35 ?_
      show xX Γ 0 0 n T 36 [(1, xI 1), (0, xR x)] [] (xst (xst (xst N1 x 1 1) x 3 4) x 4 4)
      refine x_iinc G [(1, xI 2), (0, xR x)] 0 rfl (by decide) (by omega) rfl dX7_begins_36 ?_
      refine x_goto G 25 (by decide) dX7_begins_39 ?_
      refine x_iload_n G 0 rfl rfl dX7_begins_25 ?_
      refine x_iconst G (by decide) dX7_begins_26 ?_
      refine x_icmp_ge G 42 (by decide) dX7_begins_27 (fun c27 => absurd c27 (by decide)) (fun _ => ?_)
      refine x_aload_n G 1 rfl rfl dX7_begins_30 ?_
      refine x_iconst G (by decide) dX7_begins_31 ?_
      refine x_iload_n G 0 rfl rfl dX7_begins_32 ?_
      refine x_iadd G (by decide) dX7_begins_33 ?_
      show xX Γ 0 0 n T 34 [(1, xI 2), (0, xR x)] [xI 5, xR x] (xst (xst (xst N1 x 1 1) x 3 4) x 4 4)
      refine x_iconst G (by decide) dX7_begins_34 ?_
      refine x_iast G hxn hxk (hxl) (by omega) (by omega) dX7_begins_35 ?_
      show xX Γ 0 0 n T 36 [(1, xI 2), (0, xR x)] [] (xst (xst (xst (xst N1 x 1 1) x 3 4) x 4 4) x 5 4)
      refine x_iinc G [(1, xI 3), (0, xR x)] 0 rfl (by decide) (by omega) rfl dX7_begins_36 ?_
      refine x_goto G 25 (by decide) dX7_begins_39 ?_
      refine x_iload_n G 0 rfl rfl dX7_begins_25 ?_
      refine x_iconst G (by decide) dX7_begins_26 ?_
      refine x_icmp_ge G 42 (by decide) dX7_begins_27 (fun c27 => absurd c27 (by decide)) (fun _ => ?_)
      refine x_aload_n G 1 rfl rfl dX7_begins_30 ?_
      refine x_iconst G (by decide) dX7_begins_31 ?_
      refine x_iload_n G 0 rfl rfl dX7_begins_32 ?_
      refine x_iadd G (by decide) dX7_begins_33 ?_
      show xX Γ 0 0 n T 34 [(1, xI 3), (0, xR x)] [xI 6, xR x] (xst (xst (xst (xst N1 x 1 1) x 3 4) x 4 4) x 5 4)
      refine x_iconst G (by decide) dX7_begins_34 ?_
      refine x_iast G hxn hxk (hxl) (by omega) (by omega) dX7_begins_35 ?_
      show xX Γ 0 0 n T 36 [(1, xI 3), (0, xR x)] [] (xst (xst (xst (xst (xst N1 x 1 1) x 3 4) x 4 4) x 5 4) x 6 4)
      refine x_iinc G [(1, xI 4), (0, xR x)] 0 rfl (by decide) (by omega) rfl dX7_begins_36 ?_
      refine x_goto G 25 (by decide) dX7_begins_39 ?_
      refine x_iload_n G 0 rfl rfl dX7_begins_25 ?_
      refine x_iconst G (by decide) dX7_begins_26 ?_
      refine x_icmp_ge G 42 (by decide) dX7_begins_27 (fun _ => ?_) (fun c27 => absurd c27 (by decide))
      exact x_vret G Rt dX7_begins_42 ⟨rfl, rfl, rfl, ⟨fun V0 hz => ⟨⟨by rw [hz.1.2.1]; simp [xst_eq]; exact hlo 0 (by omega), by rw [hz.1.2.2]; simp [xst_eq], by rw [hz.1.1]; simp [xst_eq]; exact hlo 2 (by omega)⟩, four (by have g := hz.2 0 (by decide); rw [g.1, g.2]; simp [xst_eq]; exact hlo 7 (by omega)) (by have g := hz.2 1 (by decide); rw [g.1, g.2]; simp [xst_eq]; exact hlo 8 (by omega)) (by have g := hz.2 2 (by decide); rw [g.1, g.2]; simp [xst_eq]; exact hlo 9 (by omega)) (by have g := hz.2 3 (by decide); rw [g.1, g.2]; simp [xst_eq]; exact hlo 10 (by omega)), fun i hi => by have g := hz.1.1; omega⟩, fun q hq => by simp (disch := omega) only [xst_row]; exact hfr q hq⟩⟩
    · skip
      refine x_aload_n G 0 rfl rfl dX7_begins_9 ?_
      refine x_iload_n G 1 rfl rfl dX7_begins_10 ?_
      refine x_iconst G (by decide) dX7_begins_11 ?_
      refine x_iast G hxn hxk (hxl) (by omega) (by omega) dX7_begins_12 ?_
      refine x_iinc G [(1, xI (k + 1)), (0, xR x)] 1 rfl (by decide) (by omega) rfl dX7_begins_13 ?_
      refine x_goto G 2 (by decide) dX7_begins_16 ?_
      refine x_sub [(0, xR x), (1, xI (k + 1))] [1, 0] rfl ?_
      exact ih2 _ (by omega) (k + 1) (xst N1 x k.toNat 0) rfl (by omega) (fun q hq => (xst_row hq).trans (hfr q hq)) (by intro j hj; rw [xst_eq]; by_cases e : j = k.toNat; rw [if_pos ⟨rfl, e⟩]; (rw [if_neg (fun h => e h.2)]; exact hlo j (by omega)))
  refine x_sub [(0, xR x), (1, xI 0)] [1, 0] rfl ?_
  exact loop2 _ 0 M rfl (by omega) (fun _ _ => rfl) (fun j hj => by omega)
set_option maxRecDepth 100000 in
set_option maxHeartbeats 4000000 in
theorem kX7_tell (D : xD) (l : Launch) {n : Nat} {T : xT} {M : xM} (bt : Int → Int) (len : Int) (V V0 : xM) (Hs : List xM) (hY : LayOK n T) (hT : TB bt len) (hM : TMm M bt len) (hN : mrel (M 196) V) (hv : VOK V) (hH : mhst M Hs) (hz0 : zer V0) : xC D l uX7_tell 8 181 0 0 [xR 195] n T M (xPI n T (fun z M2 => ((¬ (pAll bt len 401 0 V0).1 = -1 ∧ z = -2 - (pAll bt len 401 0 V0).1 ∧ mrel (M2 196) V ∧ mhst M2 Hs) ∨ ((pAll bt len 401 0 V0).1 = -1 ∧ z = (pAll bt len 401 0 V0).2 0 10 ∧ mrel (M2 196) (pAll bt len 401 0 V0).2 ∧ VOK (pAll bt len 401 0 V0).2 ∧ mhst M2 [])) ∧ M2 195 18 = 0 ∧ M2 195 10 = 0 ∧ ∀ q, q < 195 ∨ q = 198 ∨ q = 199 ∨ 207 ≤ q → M2 q = M q)) := by
  refine x_met uX7_tell (by decide) (Nat.le_of_ble_eq_true rfl) ?_
  intro Γ G Rt _
  have G : xG Γ RX7 cX7_tell 2 8 181 0 0 := G
  have Rt : xRt Γ (xPI n T (fun z M2 => ((¬ (pAll bt len 401 0 V0).1 = -1 ∧ z = -2 - (pAll bt len 401 0 V0).1 ∧ mrel (M2 196) V ∧ mhst M2 Hs) ∨ ((pAll bt len 401 0 V0).1 = -1 ∧ z = (pAll bt len 401 0 V0).2 0 10 ∧ mrel (M2 196) (pAll bt len 401 0 V0).2 ∧ VOK (pAll bt len 401 0 V0).2 ∧ mhst M2 [])) ∧ M2 195 18 = 0 ∧ M2 195 10 = 0 ∧ ∀ q, q < 195 ∨ q = 198 ∨ q = 199 ∨ 207 ≤ q → M2 q = M q)) (some .int) 0 0 := Rt
  show xX Γ 0 0 n T 0 [(0, xR 195)] [] M
  have hlb := hT.1
  have hMl := hM.1
  have hv0 := zer_ok hz0
  refine x_aload_n G 0 rfl rfl dX7_tell_0 ?_
  refine x_callVV G [] [] rfl (by decide) (ly_n hY 195 (by decide)) (ly_k hY 195 (by decide)) hy_X7_putsAside hi_X7_putsAside hs_X7_putsAside ml_X7_202 rfl rfl (kX7_putsAside _ _ hY) (by decide) (by decide) (Nat.le_of_ble_eq_true rfl) dX7_tell_1 (fun M1 h1 => ?_)
  refine x_aload_n G 0 rfl rfl dX7_tell_4 ?_
  refine x_get G (xR 196) xf7_0 lk_X7_7 (ly_n hY 195 (by decide)) (ly_k hY 195 (by decide)) (Or.inr ⟨rfl, _, (ly_r hY 195 0 (by decide) (by decide)), rfl⟩) dX7_tell_5 ?_
  refine x_callSV G [] [xR 196] hy_X7_begins ht_X7_begins ml_X7_48 rfl rfl (kX7_begins _ _ 196 (ly_n hY 196 (by decide)) (ly_k hY 196 (by decide)) (show _ = 511 from ly_l hY 196 (by decide))) (by decide) (by decide) (Nat.le_of_ble_eq_true rfl) dX7_tell_8 (fun M8 h8 => ?_)
  refine x_aload_n G 0 rfl rfl dX7_tell_11 ?_
  refine x_callVI G [] [] rfl (by decide) (ly_n hY 195 (by decide)) (ly_k hY 195 (by decide)) hy_X7_readsAll hi_X7_readsAll hs_X7_readsAll ml_X7_347 rfl rfl (kX7_readsAll _ _ bt len V0 hY hT (tmm_cg (tmm_cg hM (congrFun (h1.2 195 (by decide)) 18) (h1.2 207 (by decide))) (congrFun (h8.2 195 (by decide)) 18) (h8.2 207 (by decide))) (h8.1 V0 hz0) hv0) (by decide) (by decide) (Nat.le_of_ble_eq_true rfl) dX7_tell_12 (fun z12 M12 h12 => ?_)
  refine x_istore_n G [(1, xI z12), (0, xR 195)] rfl (by decide) rfl dX7_tell_15 ?_
  refine x_aload_n G 1 rfl rfl dX7_tell_16 ?_
  refine x_iconst G (by decide) dX7_tell_17 ?_
  refine x_put G  xf7_18 lk_X7_282 (ly_n hY 195 (by decide)) (ly_k hY 195 (by decide)) rfl dX7_tell_18 ?_
  refine x_aload_n G 1 rfl rfl dX7_tell_21 ?_
  refine x_iconst G (by decide) dX7_tell_22 ?_
  refine x_putz G (by omega) xf7_10 lk_X7_107 (ly_n hY 195 (by decide)) (ly_k hY 195 (by decide)) rfl dX7_tell_23 ?_
  have hpb := pall_b hT 401 0 V0 (by omega) (by omega)
  refine x_iload_n G 0 rfl rfl dX7_tell_26 ?_
  refine x_if_ne G 47 (by decide) dX7_tell_27 (fun c27 => ?_) (fun c27 => ?_)
  · skip
    have hr12 := h12.1.resolve_right (fun g => c27 g.2.1)
    skip
    refine x_aload_n G 1 rfl rfl dX7_tell_47 ?_
    refine x_iconst G (by decide) dX7_tell_48 ?_
    refine x_put G  xf7_2 lk_X7_209 (ly_n hY 195 (by decide)) (ly_k hY 195 (by decide)) rfl dX7_tell_49 ?_
    refine x_aload_n G 1 rfl rfl dX7_tell_52 ?_
    refine x_get G (xR 196) xf7_0 lk_X7_7 (ly_n hY 195 (by decide)) (ly_k hY 195 (by decide)) (Or.inr ⟨rfl, _, (ly_r hY 195 0 (by decide) (by decide)), rfl⟩) dX7_tell_53 ?_
    refine x_iconst G (by decide) dX7_tell_56 ?_
    refine x_iald G (ly_n hY 196 (by decide)) (ly_k hY 196 (by decide)) (show _ = 511 from ly_l hY 196 (by decide)) (by omega) (by omega) dX7_tell_57 ?_
    show xX Γ 0 0 n T 58 [(1, xI z12), (0, xR 195)] [xI ((xst (xst (xst M12 195 18 0) 195 10 0) 195 2 0) 196 2)] (xst (xst (xst M12 195 18 0) 195 10 0) 195 2 0)
    rw [show (xst (xst (xst M12 195 18 0) 195 10 0) 195 2 0) 196 2 = ((pAll bt len 401 0 V0).2 0 10) from (mr_cg (mr_cg hr12.2.2.1 ((xst_row (by decide)).trans (xst_row (by decide)))) (xst_row (by omega))).1.2.2]
    exact x_iret G Rt dX7_tell_58 ⟨rfl, rfl, _, rfl, (by
          refine ⟨Or.inr ⟨hr12.1, rfl, (mr_cg (mr_cg hr12.2.2.1 ((xst_row (by decide)).trans (xst_row (by decide)))) (xst_row (by omega))), hr12.2.2.2, mh_nil (xst_same ..)⟩, by rw [xst_nq (by decide), xst_nq (by decide), xst_same], (xst_nq (by decide)).trans (xst_same ..), fun q hq => ?_⟩
          rw [xst_row (by omega), xst_row (by omega), xst_row (by omega), h12.2.1 q (by omega) (by omega), h8.2 q (by omega), h1.2 q (by omega)])⟩
  · skip
    refine x_aload_n G 1 rfl rfl dX7_tell_30 ?_
    refine x_aload_n G 1 rfl rfl dX7_tell_31 ?_
    refine x_get G (xR 206) xf7_13 lk_X7_41 (ly_n hY 195 (by decide)) (ly_k hY 195 (by decide)) (Or.inr ⟨rfl, _, (ly_r hY 195 13 (by decide) (by decide)), rfl⟩) dX7_tell_32 ?_
    refine x_iconst G (by decide) dX7_tell_35 ?_
    refine x_callVV G [] [xR 206, xI 0] rfl (by decide) (ly_n hY 195 (by decide)) (ly_k hY 195 (by decide)) hy_X7_exchanges hi_X7_exchanges hs_X7_exchanges ml_X7_205 rfl rfl (kX7_exchanges _ _ 206 511 0 hY (ly_n hY 206 (by decide)) (ly_k hY 206 (by decide)) (show _ = 511 from ly_l hY 206 (by decide)) (by decide) (by omega)) (by decide) (by decide) (Nat.le_of_ble_eq_true rfl) dX7_tell_36 (fun M36 h36 => ?_)
    refine x_bipush G (by decide) dX7_tell_39 ?_
    refine x_aload_n G 1 rfl rfl dX7_tell_41 ?_
    refine x_get G (xI (M36 195 20)) xf7_20 lk_X7_294 (ly_n hY 195 (by decide)) (ly_k hY 195 (by decide)) (Or.inl ⟨rfl, rfl⟩) dX7_tell_42 ?_
    have hw9 : (M36 195 20) = M12 195 20 := by rw [h36.2.2.2.2 20 (by decide), xst_nq (by decide), xst_nq (by decide)]
    have hrw := h12.1.resolve_left (fun g => by have g1 := g.2.1; omega)
    refine x_isub G (by omega) dX7_tell_45 ?_
    exact x_iret G Rt dX7_tell_46 ⟨rfl, rfl, _, rfl, (by
          have hr := h12.1.resolve_left (fun g => by have g1 := g.2.1; omega)
          have hmv : mrel (M36 196) V := mr_lt hv hN (fun k hk => by rw [h36.1 k hk, show (0 : Int).toNat + k = k from Nat.zero_add k, xst_row (by decide), xst_row (by decide), h12.2.1 206 (by decide) (by decide), h8.2 206 (by decide), h1.1 k hk])
          have hmh : mhst M36 Hs := mh_cg hH (by rw [h36.2.2.2.2 2 (by decide), xst_nq (by decide), xst_nq (by decide), h12.2.2 2 (by decide) (by decide) (by decide) (by decide), congrFun (h8.2 195 (by decide)) 2, congrFun (h1.2 195 (by decide)) 2]) (by rw [h36.2.2.2.1 197 (by decide) (by decide), xst_row (by decide), xst_row (by decide), h12.2.1 197 (by decide) (by decide), h8.2 197 (by decide), h1.2 197 (by decide)])
          refine ⟨Or.inl ⟨hr.1, by rw [← hr.2.2, hw9], hmv, hmh⟩, by rw [h36.2.2.2.2 18 (by decide), xst_nq (by decide), xst_same], h36.2.2.1, fun q hq => ?_⟩
          rw [h36.2.2.2.1 q (by omega) (by omega), xst_row (by omega), xst_row (by omega), h12.2.1 q (by omega) (by omega), h8.2 q (by omega), h1.2 q (by omega)])⟩
