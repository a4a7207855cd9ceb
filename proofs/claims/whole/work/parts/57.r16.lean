set_option maxRecDepth 100000 in
set_option maxHeartbeats 4000000 in
theorem kX7_fails (D : xD) (l : Launch) {n : Nat} {T : xT} {M : xM} (kd pl : Int) (hY : LayOK n T) (hb : -10000 ≤ 8 * pl + kd ∧ 8 * pl + kd ≤ 10000) (hp : -1000 ≤ pl ∧ pl ≤ 1000) : xC D l uX7_fails 0 0 0 0 [xR 195, xI kd, xI pl] n T M (xPI n T (fun z M2 => z = 0 ∧ M2 = xst M 195 20 (8 * pl + kd))) := by
  refine x_met uX7_fails (by decide) (Nat.le_of_ble_eq_true rfl) ?_
  intro Γ G Rt _
  have G : xG Γ RX7 cX7_fails 3 0 0 0 0 := G
  have Rt : xRt Γ (xPI n T (fun z M2 => z = 0 ∧ M2 = xst M 195 20 (8 * pl + kd))) (some .boolean) 0 0 := Rt
  show xX Γ 0 0 n T 0 [(0, xR 195), (1, xI kd), (2, xI pl)] [] M
  refine x_aload_n G 0 rfl rfl dX7_fails_0 ?_
  refine x_bipush G (by decide) dX7_fails_1 ?_
  refine x_iload_n G 2 rfl rfl dX7_fails_3 ?_
  refine x_imul G (by omega) dX7_fails_4 ?_
  refine x_iload_n G 1 rfl rfl dX7_fails_5 ?_
  refine x_iadd G (by omega) dX7_fails_6 ?_
  refine x_put G  xf7_20 lk_X7_294 (ly_n hY 195 (by decide)) (ly_k hY 195 (by decide)) rfl dX7_fails_7 ?_
  refine x_iconst G (by decide) dX7_fails_10 ?_
  exact x_zret G (by omega) Rt dX7_fails_11 ⟨rfl, rfl, _, rfl, ⟨rfl, rfl⟩⟩
set_option maxRecDepth 100000 in
set_option maxHeartbeats 4000000 in
theorem kX7_takesWord (D : xD) (l : Launch) {n : Nat} {T : xT} {M : xM} (bt : Int → Int) (len : Int) (a : Int) (si : Nat) (bs : List Int) (hY : LayOK n T) (hT : TB bt len) (hM : TMm M bt len) (ha : M 195 19 = a) (hal : 0 ≤ a ∧ a ≤ len) (hi : strI si bs) : xC D l uX7_takesWord 4 85 0 0 [xR 195, xR (1000000 + si)] n T M (xPI n T (fun z M2 => (z = b2i (tkw bt (skp bt a) bs) ∧ (tkw bt (skp bt a) bs → M2 195 19 = (skp bt a) + bs.length ∧ (skp bt a) + bs.length ≤ len) ∧ (¬ tkw bt (skp bt a) bs → M2 195 19 = (skp bt a))) ∧ tq1 M M2)) := by
  refine x_met uX7_takesWord (by decide) (Nat.le_of_ble_eq_true rfl) ?_
  intro Γ G Rt _
  have G : xG Γ RX7 cX7_takesWord 5 4 85 0 0 := G
  have Rt : xRt Γ (xPI n T (fun z M2 => (z = b2i (tkw bt (skp bt a) bs) ∧ (tkw bt (skp bt a) bs → M2 195 19 = (skp bt a) + bs.length ∧ (skp bt a) + bs.length ≤ len) ∧ (¬ tkw bt (skp bt a) bs → M2 195 19 = (skp bt a))) ∧ tq1 M M2)) (some .boolean) 0 0 := Rt
  show xX Γ 0 0 n T 0 [(0, xR 195), (1, xR (1000000 + si))] [] M
  have hlb := hT.1
  have hMl := hM.1
  have hsb := str_b hi
  have htb := hT.2.1
  refine x_aload_n G 0 rfl rfl dX7_takesWord_0 ?_
  refine x_callVI G [] [] rfl (by decide) (ly_n hY 195 (by decide)) (ly_k hY 195 (by decide)) hy_X7_nextByte hi_X7_nextByte hs_X7_nextByte ml_X7_297 rfl rfl (kX7_nextByte _ _ bt len a hY hT hM ha (by omega)) (by decide) (by decide) (Nat.le_of_ble_eq_true rfl) dX7_takesWord_1 (fun z1 M1 h1 => ?_)
  rw [h1.1.1]
  have hsk1 := skp_b hT (show a ≤ len by omega)
  refine x_iconst G (by decide) dX7_takesWord_4 ?_
  refine x_icmp_ne G 15 (by decide) dX7_takesWord_5 (fun c5 => ?_) (fun c5 => ?_)
  · skip
    refine x_aload_n G 0 rfl rfl dX7_takesWord_15 ?_
    refine x_get G (xI (M1 195 19)) xf7_19 lk_X7_288 (ly_n hY 195 (by decide)) (ly_k hY 195 (by decide)) (Or.inl ⟨rfl, rfl⟩) dX7_takesWord_16 ?_
    rw [show M1 195 19 = (skp bt a) from h1.1.2]
    refine x_istore_n G [(2, xI (skp bt a)), (0, xR 195), (1, xR (1000000 + si))] rfl (by decide) rfl dX7_takesWord_19 ?_
    refine x_iconst G (by decide) dX7_takesWord_20 ?_
    refine x_istore_n G [(3, xI 0), (2, xI (skp bt a)), (0, xR 195), (1, xR (1000000 + si))] rfl (by decide) rfl dX7_takesWord_21 ?_
    have loop22 : ∀ (d : Nat) (k : Int), (bs.length - k).toNat = d → (0 ≤ k ∧ k ≤ bs.length) → (∀ j : Nat, (j : Int) < k → bt ((skp bt a) + j) = bs.getD j 0) → xX Γ 0 0 n T 22 [(0, xR 195), (1, xR (1000000 + si)), (2, xI (skp bt a)), (3, xI k)] [] M1 := by
      intro d
      induction d using Nat.strongRecOn with
      | ind d ih22 =>
      intro k hd22 hk hno
      refine x_iload_n G 3 rfl rfl dX7_takesWord_22 ?_
      refine x_aload_n G 1 rfl rfl dX7_takesWord_23 ?_
      refine x_callStr G [xI k] [] hi rfl hy_J0_length_8abf5 hi_J0_length_8abf5 hs_J0_length_8abf5 ml_X7_246 rfl rfl (kJ0_length_8abf5 _ _ si bs hi) (by decide) (by decide) (Nat.le_of_ble_eq_true rfl) dX7_takesWord_24 ?_
      refine x_icmp_ge G 51 (by decide) dX7_takesWord_27 (fun c27 => ?_) (fun c27 => ?_)
      · skip
        refine x_iload_n G 3 rfl rfl dX7_takesWord_51 ?_
        refine x_aload_n G 1 rfl rfl dX7_takesWord_52 ?_
        refine x_callStr G [xI k] [] hi rfl hy_J0_length_8abf5 hi_J0_length_8abf5 hs_J0_length_8abf5 ml_X7_246 rfl rfl (kJ0_length_8abf5 _ _ si bs hi) (by decide) (by decide) (Nat.le_of_ble_eq_true rfl) dX7_takesWord_53 ?_
        refine x_icmp_ne G 83 (by decide) dX7_takesWord_56 (fun c56 => ?_) (fun c56 => ?_)
        · skip
          exfalso; omega
        · skip
          refine x_aload_n G 0 rfl rfl dX7_takesWord_59 ?_
          refine x_iload_n G 2 rfl rfl dX7_takesWord_60 ?_
          refine x_iload_n G 3 rfl rfl dX7_takesWord_61 ?_
          refine x_iadd G (by omega) dX7_takesWord_62 ?_
          refine x_callVp G [] [xI ((skp bt a) + k)] rfl (by decide) (ly_n hY 195 (by decide)) (ly_k hY 195 (by decide)) hy_X7_byteAt hi_X7_byteAt hs_X7_byteAt ml_X7_291 rfl rfl (kX7_byteAt _ _ bt len ((skp bt a) + k) hY hT (tmm_1 hM h1.2) (by omega)) (by decide) (by decide) (Nat.le_of_ble_eq_true rfl) dX7_takesWord_63 ?_
          refine x_i2l G dX7_takesWord_66 ?_
          refine x_ldc2 G (z := 97) (by decide) kc_X7_300 dX7_takesWord_67 ?_
          refine x_ldc2 G (z := 122) (by decide) kc_X7_302 dX7_takesWord_70 ?_
          refine x_callSp G [] [xL (bt ((skp bt a) + k)), xL 97, xL 122] hy_X7_in ht_X7_in ml_X7_54 rfl rfl (kX7_in _ _ (bt ((skp bt a) + k)) 97 122) (by decide) (by decide) (Nat.le_of_ble_eq_true rfl) dX7_takesWord_73 ?_
          refine x_if_ne G 83 (by decide) dX7_takesWord_76 (fun c76 => ?_) (fun c76 => ?_)
          · skip
            have c76 := b2i_ne0.mp c76
            refine x_iconst G (by decide) dX7_takesWord_83 ?_
            refine x_istore G [(4, xI 0), (0, xR 195), (1, xR (1000000 + si)), (2, xI (skp bt a)), (3, xI k)] (by decide) rfl dX7_takesWord_84 ?_
            refine x_iload G 0 rfl dX7_takesWord_86 ?_
            refine x_if_eq G 104 (by decide) dX7_takesWord_88 (fun _ => ?_) (fun c88 => absurd c88 (by decide))
            refine x_iload G 0 rfl dX7_takesWord_104 ?_
            exact x_zret G (by omega) Rt dX7_takesWord_106 ⟨rfl, rfl, _, rfl, (by
          have hke : k = bs.length := by omega
          have hno9 : ¬ tkw bt (skp bt a) bs := by exact fun h => h.2 (by rw [← hke]; omega)
          exact ⟨⟨(b2i_f hno9).symm, fun h => absurd h hno9, fun _ => h1.1.2⟩, (tq1_tr (tq1_refl _) h1.2)⟩)⟩
          · skip
            have c76 := b2i_eq0.mp c76
            refine x_iconst G (by decide) dX7_takesWord_79 ?_
            refine x_goto G 84 (by decide) dX7_takesWord_80 ?_
            refine x_istore G [(4, xI 1), (0, xR 195), (1, xR (1000000 + si)), (2, xI (skp bt a)), (3, xI k)] (by decide) rfl dX7_takesWord_84 ?_
            refine x_iload G 0 rfl dX7_takesWord_86 ?_
            refine x_if_eq G 104 (by decide) dX7_takesWord_88 (fun c88 => absurd c88 (by decide)) (fun _ => ?_)
            refine x_aload_n G 1 rfl rfl dX7_takesWord_91 ?_
            refine x_dup G rfl dX7_takesWord_92 ?_
            refine x_get G (xI (M1 195 19)) xf7_19 lk_X7_288 (ly_n hY 195 (by decide)) (ly_k hY 195 (by decide)) (Or.inl ⟨rfl, rfl⟩) dX7_takesWord_93 ?_
            rw [show M1 195 19 = (skp bt a) from h1.1.2]
            refine x_aload_n G 2 rfl rfl dX7_takesWord_96 ?_
            refine x_callStr G [xI (skp bt a), xR 195] [] hi rfl hy_J0_length_8abf5 hi_J0_length_8abf5 hs_J0_length_8abf5 ml_X7_246 rfl rfl (kJ0_length_8abf5 _ _ si bs hi) (by decide) (by decide) (Nat.le_of_ble_eq_true rfl) dX7_takesWord_97 ?_
            refine x_iadd G (by omega) dX7_takesWord_100 ?_
            refine x_put G  xf7_19 lk_X7_288 (ly_n hY 195 (by decide)) (ly_k hY 195 (by decide)) rfl dX7_takesWord_101 ?_
            refine x_iload G 0 rfl dX7_takesWord_104 ?_
            exact x_zret G (by omega) Rt dX7_takesWord_106 ⟨rfl, rfl, _, rfl, (by
          have hke : k = bs.length := by omega
          have hyes : tkw bt (skp bt a) bs := ⟨fun j hj => hno j (by omega), by rw [← hke]; omega⟩
          exact ⟨⟨(b2i_t hyes).symm, fun _ => ⟨(xst_same ..), tkw_b hT (fun j hj => (hsb.2 j hj).1) (by omega) hyes⟩, fun h => absurd hyes h⟩, (tq1_st (tq1_tr (tq1_refl _) h1.2))⟩)⟩
      · skip
        refine x_aload_n G 0 rfl rfl dX7_takesWord_30 ?_
        refine x_iload_n G 2 rfl rfl dX7_takesWord_31 ?_
        refine x_iload_n G 3 rfl rfl dX7_takesWord_32 ?_
        refine x_iadd G (by omega) dX7_takesWord_33 ?_
        refine x_callVp G [] [xI ((skp bt a) + k)] rfl (by decide) (ly_n hY 195 (by decide)) (ly_k hY 195 (by decide)) hy_X7_byteAt hi_X7_byteAt hs_X7_byteAt ml_X7_291 rfl rfl (kX7_byteAt _ _ bt len ((skp bt a) + k) hY hT (tmm_1 hM h1.2) (by omega)) (by decide) (by decide) (Nat.le_of_ble_eq_true rfl) dX7_takesWord_34 ?_
        refine x_aload_n G 1 rfl rfl dX7_takesWord_37 ?_
        refine x_iload_n G 3 rfl rfl dX7_takesWord_38 ?_
        refine x_callStr G [xI (bt ((skp bt a) + k))] [xI k] hi rfl hy_J0_charAt_5068e hi_J0_charAt_5068e hs_J0_charAt_5068e ml_X7_251 rfl rfl (kJ0_charAt_5068e _ _ si bs k hi (by omega) (by omega)) (by decide) (by decide) (Nat.le_of_ble_eq_true rfl) dX7_takesWord_39 ?_
        refine x_icmp_ne G 51 (by decide) dX7_takesWord_42 (fun c42 => ?_) (fun c42 => ?_)
        · skip
          refine x_iload_n G 3 rfl rfl dX7_takesWord_51 ?_
          refine x_aload_n G 1 rfl rfl dX7_takesWord_52 ?_
          refine x_callStr G [xI k] [] hi rfl hy_J0_length_8abf5 hi_J0_length_8abf5 hs_J0_length_8abf5 ml_X7_246 rfl rfl (kJ0_length_8abf5 _ _ si bs hi) (by decide) (by decide) (Nat.le_of_ble_eq_true rfl) dX7_takesWord_53 ?_
          refine x_icmp_ne G 83 (by decide) dX7_takesWord_56 (fun c56 => ?_) (fun c56 => ?_)
          · skip
            refine x_iconst G (by decide) dX7_takesWord_83 ?_
            refine x_istore G [(4, xI 0), (0, xR 195), (1, xR (1000000 + si)), (2, xI (skp bt a)), (3, xI k)] (by decide) rfl dX7_takesWord_84 ?_
            refine x_iload G 0 rfl dX7_takesWord_86 ?_
            refine x_if_eq G 104 (by decide) dX7_takesWord_88 (fun _ => ?_) (fun c88 => absurd c88 (by decide))
            refine x_iload G 0 rfl dX7_takesWord_104 ?_
            exact x_zret G (by omega) Rt dX7_takesWord_106 ⟨rfl, rfl, _, rfl, (by
          have hno9 : ¬ tkw bt (skp bt a) bs := by exact fun h => c42 (by have h2 := h.1 k.toNat (by omega); rw [show (((k.toNat : Nat) : Int)) = k by omega] at h2; exact h2)
          exact ⟨⟨(b2i_f hno9).symm, fun h => absurd h hno9, fun _ => h1.1.2⟩, (tq1_tr (tq1_refl _) h1.2)⟩)⟩
          · skip
            exfalso; omega
        · skip
          refine x_iinc G [(3, xI (k + 1)), (0, xR 195), (1, xR (1000000 + si)), (2, xI (skp bt a))] 3 rfl (by decide) (by omega) rfl dX7_takesWord_45 ?_
          refine x_goto G 22 (by decide) dX7_takesWord_48 ?_
          refine x_sub [(0, xR 195), (1, xR (1000000 + si)), (2, xI (skp bt a)), (3, xI (k + 1))] [1, 2, 3, 0] rfl ?_
          exact ih22 _ (by omega) (k + 1) rfl (by omega) (by intro j hj; rcases Int.lt_or_le (j : Int) k with g | g; exact hno j g; (have e : k.toNat = j := by omega); rw [show (j : Int) = k by omega]; rw [← e]; exact c42)
    refine x_sub [(0, xR 195), (1, xR (1000000 + si)), (2, xI (skp bt a)), (3, xI 0)] [2, 3, 1, 0] rfl ?_
    exact loop22 _ 0 rfl (by omega) (fun j hj => by omega)
  · skip
    refine x_aload_n G 0 rfl rfl dX7_takesWord_8 ?_
    refine x_get G (xI (M1 195 18)) xf7_18 lk_X7_282 (ly_n hY 195 (by decide)) (ly_k hY 195 (by decide)) (Or.inl ⟨rfl, rfl⟩) dX7_takesWord_9 ?_
    rw [show M1 195 18 = skp bt a from by (have h9 : ¬ skp bt a < len := fun g => by have h8 := hT.2.1 (skp bt a) (by omega) g; omega); have h7 : M1 195 18 = M 195 18 := h1.2.2 18 (by decide); omega]
    skip
    refine x_goto G 19 (by decide) dX7_takesWord_12 ?_
    refine x_istore_n G [(2, xI (skp bt a)), (0, xR 195), (1, xR (1000000 + si))] rfl (by decide) rfl dX7_takesWord_19 ?_
    refine x_iconst G (by decide) dX7_takesWord_20 ?_
    refine x_istore_n G [(3, xI 0), (2, xI (skp bt a)), (0, xR 195), (1, xR (1000000 + si))] rfl (by decide) rfl dX7_takesWord_21 ?_
    have loop22 : ∀ (d : Nat) (k : Int), (bs.length - k).toNat = d → (0 ≤ k ∧ k ≤ bs.length) → (∀ j : Nat, (j : Int) < k → bt ((skp bt a) + j) = bs.getD j 0) → xX Γ 0 0 n T 22 [(0, xR 195), (1, xR (1000000 + si)), (2, xI (skp bt a)), (3, xI k)] [] M1 := by
      intro d
      induction d using Nat.strongRecOn with
      | ind d ih22 =>
      intro k hd22 hk hno
      refine x_iload_n G 3 rfl rfl dX7_takesWord_22 ?_
      refine x_aload_n G 1 rfl rfl dX7_takesWord_23 ?_
      refine x_callStr G [xI k] [] hi rfl hy_J0_length_8abf5 hi_J0_length_8abf5 hs_J0_length_8abf5 ml_X7_246 rfl rfl (kJ0_length_8abf5 _ _ si bs hi) (by decide) (by decide) (Nat.le_of_ble_eq_true rfl) dX7_takesWord_24 ?_
      refine x_icmp_ge G 51 (by decide) dX7_takesWord_27 (fun c27 => ?_) (fun c27 => ?_)
      · skip
        refine x_iload_n G 3 rfl rfl dX7_takesWord_51 ?_
        refine x_aload_n G 1 rfl rfl dX7_takesWord_52 ?_
        refine x_callStr G [xI k] [] hi rfl hy_J0_length_8abf5 hi_J0_length_8abf5 hs_J0_length_8abf5 ml_X7_246 rfl rfl (kJ0_length_8abf5 _ _ si bs hi) (by decide) (by decide) (Nat.le_of_ble_eq_true rfl) dX7_takesWord_53 ?_
        refine x_icmp_ne G 83 (by decide) dX7_takesWord_56 (fun c56 => ?_) (fun c56 => ?_)
        · skip
          exfalso; omega
        · skip
          refine x_aload_n G 0 rfl rfl dX7_takesWord_59 ?_
          refine x_iload_n G 2 rfl rfl dX7_takesWord_60 ?_
          refine x_iload_n G 3 rfl rfl dX7_takesWord_61 ?_
          refine x_iadd G (by omega) dX7_takesWord_62 ?_
          refine x_callVp G [] [xI ((skp bt a) + k)] rfl (by decide) (ly_n hY 195 (by decide)) (ly_k hY 195 (by decide)) hy_X7_byteAt hi_X7_byteAt hs_X7_byteAt ml_X7_291 rfl rfl (kX7_byteAt _ _ bt len ((skp bt a) + k) hY hT (tmm_1 hM h1.2) (by omega)) (by decide) (by decide) (Nat.le_of_ble_eq_true rfl) dX7_takesWord_63 ?_
          refine x_i2l G dX7_takesWord_66 ?_
          refine x_ldc2 G (z := 97) (by decide) kc_X7_300 dX7_takesWord_67 ?_
          refine x_ldc2 G (z := 122) (by decide) kc_X7_302 dX7_takesWord_70 ?_
          refine x_callSp G [] [xL (bt ((skp bt a) + k)), xL 97, xL 122] hy_X7_in ht_X7_in ml_X7_54 rfl rfl (kX7_in _ _ (bt ((skp bt a) + k)) 97 122) (by decide) (by decide) (Nat.le_of_ble_eq_true rfl) dX7_takesWord_73 ?_
          refine x_if_ne G 83 (by decide) dX7_takesWord_76 (fun c76 => ?_) (fun c76 => ?_)
          · skip
            have c76 := b2i_ne0.mp c76
            refine x_iconst G (by decide) dX7_takesWord_83 ?_
            refine x_istore G [(4, xI 0), (0, xR 195), (1, xR (1000000 + si)), (2, xI (skp bt a)), (3, xI k)] (by decide) rfl dX7_takesWord_84 ?_
            refine x_iload G 0 rfl dX7_takesWord_86 ?_
            refine x_if_eq G 104 (by decide) dX7_takesWord_88 (fun _ => ?_) (fun c88 => absurd c88 (by decide))
            refine x_iload G 0 rfl dX7_takesWord_104 ?_
            exact x_zret G (by omega) Rt dX7_takesWord_106 ⟨rfl, rfl, _, rfl, (by
          have hke : k = bs.length := by omega
          have hno9 : ¬ tkw bt (skp bt a) bs := by exact fun h => h.2 (by rw [← hke]; omega)
          exact ⟨⟨(b2i_f hno9).symm, fun h => absurd h hno9, fun _ => h1.1.2⟩, (tq1_tr (tq1_refl _) h1.2)⟩)⟩
          · skip
            have c76 := b2i_eq0.mp c76
            refine x_iconst G (by decide) dX7_takesWord_79 ?_
            refine x_goto G 84 (by decide) dX7_takesWord_80 ?_
            refine x_istore G [(4, xI 1), (0, xR 195), (1, xR (1000000 + si)), (2, xI (skp bt a)), (3, xI k)] (by decide) rfl dX7_takesWord_84 ?_
            refine x_iload G 0 rfl dX7_takesWord_86 ?_
            refine x_if_eq G 104 (by decide) dX7_takesWord_88 (fun c88 => absurd c88 (by decide)) (fun _ => ?_)
            refine x_aload_n G 1 rfl rfl dX7_takesWord_91 ?_
            refine x_dup G rfl dX7_takesWord_92 ?_
            refine x_get G (xI (M1 195 19)) xf7_19 lk_X7_288 (ly_n hY 195 (by decide)) (ly_k hY 195 (by decide)) (Or.inl ⟨rfl, rfl⟩) dX7_takesWord_93 ?_
            rw [show M1 195 19 = (skp bt a) from h1.1.2]
            refine x_aload_n G 2 rfl rfl dX7_takesWord_96 ?_
            refine x_callStr G [xI (skp bt a), xR 195] [] hi rfl hy_J0_length_8abf5 hi_J0_length_8abf5 hs_J0_length_8abf5 ml_X7_246 rfl rfl (kJ0_length_8abf5 _ _ si bs hi) (by decide) (by decide) (Nat.le_of_ble_eq_true rfl) dX7_takesWord_97 ?_
            refine x_iadd G (by omega) dX7_takesWord_100 ?_
            refine x_put G  xf7_19 lk_X7_288 (ly_n hY 195 (by decide)) (ly_k hY 195 (by decide)) rfl dX7_takesWord_101 ?_
            refine x_iload G 0 rfl dX7_takesWord_104 ?_
            exact x_zret G (by omega) Rt dX7_takesWord_106 ⟨rfl, rfl, _, rfl, (by
          have hke : k = bs.length := by omega
          have hyes : tkw bt (skp bt a) bs := ⟨fun j hj => hno j (by omega), by rw [← hke]; omega⟩
          exact ⟨⟨(b2i_t hyes).symm, fun _ => ⟨(xst_same ..), tkw_b hT (fun j hj => (hsb.2 j hj).1) (by omega) hyes⟩, fun h => absurd hyes h⟩, (tq1_st (tq1_tr (tq1_refl _) h1.2))⟩)⟩
      · skip
        refine x_aload_n G 0 rfl rfl dX7_takesWord_30 ?_
        refine x_iload_n G 2 rfl rfl dX7_takesWord_31 ?_
        refine x_iload_n G 3 rfl rfl dX7_takesWord_32 ?_
        refine x_iadd G (by omega) dX7_takesWord_33 ?_
        refine x_callVp G [] [xI ((skp bt a) + k)] rfl (by decide) (ly_n hY 195 (by decide)) (ly_k hY 195 (by decide)) hy_X7_byteAt hi_X7_byteAt hs_X7_byteAt ml_X7_291 rfl rfl (kX7_byteAt _ _ bt len ((skp bt a) + k) hY hT (tmm_1 hM h1.2) (by omega)) (by decide) (by decide) (Nat.le_of_ble_eq_true rfl) dX7_takesWord_34 ?_
        refine x_aload_n G 1 rfl rfl dX7_takesWord_37 ?_
        refine x_iload_n G 3 rfl rfl dX7_takesWord_38 ?_
        refine x_callStr G [xI (bt ((skp bt a) + k))] [xI k] hi rfl hy_J0_charAt_5068e hi_J0_charAt_5068e hs_J0_charAt_5068e ml_X7_251 rfl rfl (kJ0_charAt_5068e _ _ si bs k hi (by omega) (by omega)) (by decide) (by decide) (Nat.le_of_ble_eq_true rfl) dX7_takesWord_39 ?_
        refine x_icmp_ne G 51 (by decide) dX7_takesWord_42 (fun c42 => ?_) (fun c42 => ?_)
        · skip
          refine x_iload_n G 3 rfl rfl dX7_takesWord_51 ?_
          refine x_aload_n G 1 rfl rfl dX7_takesWord_52 ?_
          refine x_callStr G [xI k] [] hi rfl hy_J0_length_8abf5 hi_J0_length_8abf5 hs_J0_length_8abf5 ml_X7_246 rfl rfl (kJ0_length_8abf5 _ _ si bs hi) (by decide) (by decide) (Nat.le_of_ble_eq_true rfl) dX7_takesWord_53 ?_
          refine x_icmp_ne G 83 (by decide) dX7_takesWord_56 (fun c56 => ?_) (fun c56 => ?_)
          · skip
            refine x_iconst G (by decide) dX7_takesWord_83 ?_
            refine x_istore G [(4, xI 0), (0, xR 195), (1, xR (1000000 + si)), (2, xI (skp bt a)), (3, xI k)] (by decide) rfl dX7_takesWord_84 ?_
            refine x_iload G 0 rfl dX7_takesWord_86 ?_
            refine x_if_eq G 104 (by decide) dX7_takesWord_88 (fun _ => ?_) (fun c88 => absurd c88 (by decide))
            refine x_iload G 0 rfl dX7_takesWord_104 ?_
            exact x_zret G (by omega) Rt dX7_takesWord_106 ⟨rfl, rfl, _, rfl, (by
          have hno9 : ¬ tkw bt (skp bt a) bs := by exact fun h => c42 (by have h2 := h.1 k.toNat (by omega); rw [show (((k.toNat : Nat) : Int)) = k by omega] at h2; exact h2)
          exact ⟨⟨(b2i_f hno9).symm, fun h => absurd h hno9, fun _ => h1.1.2⟩, (tq1_tr (tq1_refl _) h1.2)⟩)⟩
          · skip
            exfalso; omega
        · skip
          refine x_iinc G [(3, xI (k + 1)), (0, xR 195), (1, xR (1000000 + si)), (2, xI (skp bt a))] 3 rfl (by decide) (by omega) rfl dX7_takesWord_45 ?_
          refine x_goto G 22 (by decide) dX7_takesWord_48 ?_
          refine x_sub [(0, xR 195), (1, xR (1000000 + si)), (2, xI (skp bt a)), (3, xI (k + 1))] [1, 2, 3, 0] rfl ?_
          exact ih22 _ (by omega) (k + 1) rfl (by omega) (by intro j hj; rcases Int.lt_or_le (j : Int) k with g | g; exact hno j g; (have e : k.toNat = j := by omega); rw [show (j : Int) = k by omega]; rw [← e]; exact c42)
    refine x_sub [(0, xR 195), (1, xR (1000000 + si)), (2, xI (skp bt a)), (3, xI 0)] [2, 3, 1, 0] rfl ?_
    exact loop22 _ 0 rfl (by omega) (fun j hj => by omega)
theorem dvl_st {bt : Int → Int} {s e : Int} (h : s ≤ e) : dvl bt s (e + 1 - s).toNat = 10 * dvl bt s (e - s).toNat + (bt e - 48) := by
  rw [show (e + 1 - s).toNat = (e - s).toNat + 1 by omega]
  show 10 * dvl bt s (e - s).toNat + (bt (s + ((e - s).toNat : Nat)) - 48) = _
  rw [show s + (((e - s).toNat : Nat) : Int) = e by omega]
theorem bnd_y {r : Int × Int × Int} {V : xM} {f : Int → Int → pR} (h : r.1 = -1) : bnd r V f = f r.2.1 r.2.2 := by unfold bnd; rw [if_pos h]
theorem bnd_n {r : Int × Int × Int} {V : xM} {f : Int → Int → pR} (h : ¬ r.1 = -1) : bnd r V f = (r.1, 0, V) := by unfold bnd; rw [if_neg h]
theorem bnd_cy {r r2 : Int × Int × Int} {V : xM} {f : Int → Int → pR} (e : r = r2) (h : r2.1 = -1) : bnd r V f = f r2.2.1 r2.2.2 := by rw [e]; exact bnd_y h
theorem bnd_cn {r r2 : Int × Int × Int} {V : xM} {f : Int → Int → pR} (e : r = r2) (h : ¬ r2.1 = -1) : bnd r V f = (r2.1, 0, V) := by rw [e]; exact bnd_n h
set_option maxRecDepth 100000 in
set_option maxHeartbeats 4000000 in
theorem kX7_readsNumber (D : xD) (l : Launch) {n : Nat} {T : xT} {M : xM} (bt : Int → Int) (len : Int) (a lo hi : Int) (hY : LayOK n T) (hT : TB bt len) (hM : TMm M bt len) (ha : M 195 19 = a) (hal : 0 ≤ a ∧ a ≤ len) (hlo : 0 ≤ lo) (hhi : hi < 1000000) : xC D l uX7_readsNumber 2 41 0 0 [xR 195, xI lo, xI hi] n T M (xPI n T (fun z M2 => (((pnum bt a lo hi).1 = -1 ∧ z = 1 ∧ M2 195 21 = (pnum bt a lo hi).2.1 ∧ M2 195 19 = (pnum bt a lo hi).2.2) ∨ (¬ (pnum bt a lo hi).1 = -1 ∧ z = 0 ∧ M2 195 20 = (pnum bt a lo hi).1)) ∧ tq3 M M2)) := by
  refine x_met uX7_readsNumber (by decide) (Nat.le_of_ble_eq_true rfl) ?_
  intro Γ G Rt _
  have G : xG Γ RX7 cX7_readsNumber 4 2 41 0 0 := G
  have Rt : xRt Γ (xPI n T (fun z M2 => (((pnum bt a lo hi).1 = -1 ∧ z = 1 ∧ M2 195 21 = (pnum bt a lo hi).2.1 ∧ M2 195 19 = (pnum bt a lo hi).2.2) ∨ (¬ (pnum bt a lo hi).1 = -1 ∧ z = 0 ∧ M2 195 20 = (pnum bt a lo hi).1)) ∧ tq3 M M2)) (some .boolean) 0 0 := Rt
  show xX Γ 0 0 n T 0 [(0, xR 195), (1, xI lo), (2, xI hi)] [] M
  have hlb := hT.1
  have hMl := hM.1
  refine x_aload_n G 0 rfl rfl dX7_readsNumber_0 ?_
  refine x_callVI G [] [] rfl (by decide) (ly_n hY 195 (by decide)) (ly_k hY 195 (by decide)) hy_X7_nextByte hi_X7_nextByte hs_X7_nextByte ml_X7_297 rfl rfl (kX7_nextByte _ _ bt len a hY hT hM ha (by omega)) (by decide) (by decide) (Nat.le_of_ble_eq_true rfl) dX7_readsNumber_1 (fun z1 M1 h1 => ?_)
  rw [h1.1.1]
  have hsk1 := skp_b hT (show a ≤ len by omega)
  refine x_i2l G dX7_readsNumber_4 ?_
  refine x_ldc2 G (z := 48) (by decide) kc_X7_304 dX7_readsNumber_5 ?_
  refine x_ldc2 G (z := 57) (by decide) kc_X7_306 dX7_readsNumber_8 ?_
  refine x_callSp G [] [xL (bt (skp bt a)), xL 48, xL 57] hy_X7_in ht_X7_in ml_X7_54 rfl rfl (kX7_in _ _ (bt (skp bt a)) 48 57) (by decide) (by decide) (Nat.le_of_ble_eq_true rfl) dX7_readsNumber_11 ?_
  refine x_if_ne G 27 (by decide) dX7_readsNumber_14 (fun c14 => ?_) (fun c14 => ?_)
  · skip
    have c14 := b2i_ne0.mp c14
    have hdr := dge_run hT hsk1.2.1
    refine x_aload_n G 0 rfl rfl dX7_readsNumber_27 ?_
    refine x_get G (xI (M1 195 19)) xf7_19 lk_X7_288 (ly_n hY 195 (by decide)) (ly_k hY 195 (by decide)) (Or.inl ⟨rfl, rfl⟩) dX7_readsNumber_28 ?_
    rw [show M1 195 19 = (skp bt a) from h1.1.2]
    refine x_istore_n G [(3, xI (skp bt a)), (0, xR 195), (1, xI lo), (2, xI hi)] rfl (by decide) rfl dX7_readsNumber_31 ?_
    refine x_aload_n G 1 rfl rfl dX7_readsNumber_32 ?_
    refine x_iconst G (by decide) dX7_readsNumber_33 ?_
    refine x_put G  xf7_21 lk_X7_311 (ly_n hY 195 (by decide)) (ly_k hY 195 (by decide)) rfl dX7_readsNumber_34 ?_
    have loop37 : ∀ (d : Nat) (e : Int) (v : Int) (N1 : xM), (len + 1 - e).toNat = d → (N1 195 19 = e) → (N1 195 21 = v) → (skp bt a ≤ e ∧ e ≤ dge bt (skp bt a)) → (v = dvl bt (skp bt a) (e - skp bt a).toNat ∨ (1000000 ≤ v ∧ 1000000 ≤ dvl bt (skp bt a) (e - skp bt a).toNat)) → (0 ≤ v ∧ v ≤ 10000000) → (tq3 M N1) → xX Γ 0 0 n T 37 [(0, xR 195), (1, xI lo), (2, xI hi), (3, xI (skp bt a))] [] N1 := by
      intro d
      induction d using Nat.strongRecOn with
      | ind d ih37 =>
      intro e v N1 hd37 hs1 hv1 he hval hvb hf1
      skip
      refine x_aload_n G 0 rfl rfl dX7_readsNumber_37 ?_
      refine x_aload_n G 0 rfl rfl dX7_readsNumber_38 ?_
      refine x_get G (xI (N1 195 19)) xf7_19 lk_X7_288 (ly_n hY 195 (by decide)) (ly_k hY 195 (by decide)) (Or.inl ⟨rfl, rfl⟩) dX7_readsNumber_39 ?_
      rw [show N1 195 19 = e from hs1]
      refine x_callVp G [] [xI e] rfl (by decide) (ly_n hY 195 (by decide)) (ly_k hY 195 (by decide)) hy_X7_byteAt hi_X7_byteAt hs_X7_byteAt ml_X7_291 rfl rfl (kX7_byteAt _ _ bt len e hY hT (tmm_3 hM hf1) (by omega)) (by decide) (by decide) (Nat.le_of_ble_eq_true rfl) dX7_readsNumber_42 ?_
      refine x_i2l G dX7_readsNumber_45 ?_
      refine x_ldc2 G (z := 48) (by decide) kc_X7_304 dX7_readsNumber_46 ?_
      refine x_ldc2 G (z := 57) (by decide) kc_X7_306 dX7_readsNumber_49 ?_
      refine x_callSp G [] [xL (bt e), xL 48, xL 57] hy_X7_in ht_X7_in ml_X7_54 rfl rfl (kX7_in _ _ (bt e) 48 57) (by decide) (by decide) (Nat.le_of_ble_eq_true rfl) dX7_readsNumber_52 ?_
      refine x_if_eq G 103 (by decide) dX7_readsNumber_55 (fun c55 => ?_) (fun c55 => ?_)
      · skip
        have c55 := b2i_eq0.mp c55
        have hee : e = dge bt (skp bt a) := by (rcases Int.lt_or_le e (dge bt (skp bt a)) with g | g; exact absurd (hdr.1.2.1 e (by omega) g) c55; omega)
        refine x_aload_n G 0 rfl rfl dX7_readsNumber_103 ?_
        refine x_get G (xI (N1 195 21)) xf7_21 lk_X7_311 (ly_n hY 195 (by decide)) (ly_k hY 195 (by decide)) (Or.inl ⟨rfl, rfl⟩) dX7_readsNumber_104 ?_
        rw [show N1 195 21 = v from hv1]
        refine x_i2l G dX7_readsNumber_107 ?_
        refine x_iload_n G 1 rfl rfl dX7_readsNumber_108 ?_
        refine x_i2l G dX7_readsNumber_109 ?_
        refine x_iload_n G 2 rfl rfl dX7_readsNumber_110 ?_
        refine x_i2l G dX7_readsNumber_111 ?_
        refine x_callSp G [] [xL v, xL lo, xL hi] hy_X7_in ht_X7_in ml_X7_54 rfl rfl (kX7_in _ _ v lo hi) (by decide) (by decide) (Nat.le_of_ble_eq_true rfl) dX7_readsNumber_112 ?_
        refine x_if_ne G 127 (by decide) dX7_readsNumber_115 (fun c115 => ?_) (fun c115 => ?_)
        · skip
          have c115 := b2i_ne0.mp c115
          refine x_iconst G (by decide) dX7_readsNumber_127 ?_
          refine x_goto G 132 (by decide) dX7_readsNumber_128 ?_
          exact x_zret G (by omega) Rt dX7_readsNumber_132 ⟨rfl, rfl, _, rfl, (by
          have e9 : pnum bt a lo hi = (-1, v, e) := by unfold pnum; rw [if_pos c14, ← hee, show dvl bt (skp bt a) (e - skp bt a).toNat = v by omega, if_pos (by omega)]
          rw [e9]
          exact ⟨Or.inl ⟨rfl, rfl, hv1, hs1⟩, hf1⟩)⟩
        · skip
          have c115 := b2i_eq0.mp c115
          refine x_aload_n G 0 rfl rfl dX7_readsNumber_118 ?_
          refine x_iconst G (by decide) dX7_readsNumber_119 ?_
          refine x_iload_n G 3 rfl rfl dX7_readsNumber_120 ?_
          refine x_callVI G [] [xI 2, xI (skp bt a)] rfl (by decide) (ly_n hY 195 (by decide)) (ly_k hY 195 (by decide)) hy_X7_fails hi_X7_fails hs_X7_fails ml_X7_308 rfl rfl (kX7_fails _ _ 2 (skp bt a) hY (by omega) (by omega)) (by decide) (by decide) (Nat.le_of_ble_eq_true rfl) dX7_readsNumber_121 (fun z121 M121 h121 => ?_)
          obtain ⟨hz121, rfl⟩ := h121
          rw [hz121]
          show xX Γ 0 0 n T 124 [(0, xR 195), (1, xI lo), (2, xI hi), (3, xI (skp bt a))] [xI 0] (xst N1 195 20 (8 * (skp bt a) + 2))
          refine x_if_eq G 131 (by decide) dX7_readsNumber_124 (fun _ => ?_) (fun c124 => absurd c124 (by decide))
          refine x_iconst G (by decide) dX7_readsNumber_131 ?_
          exact x_zret G (by omega) Rt dX7_readsNumber_132 ⟨rfl, rfl, _, rfl, (by
          have e9 : pnum bt a lo hi = (8 * skp bt a + 2, 0, 0) := by unfold pnum; rw [if_pos c14, ← hee, if_neg (by omega)]
          rw [e9]
          exact ⟨Or.inr ⟨by show ¬ 8 * skp bt a + 2 = -1; omega, rfl, xst_same ..⟩, (tq3_st hf1 (by omega))⟩)⟩
      · skip
        have c55 := b2i_ne0.mp c55
        have hbe := hT.2.1 e (by omega) (by rcases Int.lt_or_le e len with g | g; exact g; have h9 := hT.2.2 e g; omega)
        have hlt : e < dge bt (skp bt a) := by (rcases Int.lt_or_le e (dge bt (skp bt a)) with g | g; exact g; exact absurd c55 (by rw [show e = dge bt (skp bt a) by omega]; exact hdr.1.2.2))
        have hdv := dvl_st (bt := bt) (show skp bt a ≤ e by omega)
        refine x_aload_n G 0 rfl rfl dX7_readsNumber_58 ?_
        refine x_get G (xI (N1 195 21)) xf7_21 lk_X7_311 (ly_n hY 195 (by decide)) (ly_k hY 195 (by decide)) (Or.inl ⟨rfl, rfl⟩) dX7_readsNumber_59 ?_
        rw [show N1 195 21 = v from hv1]
        refine x_ldc G (z := 1000000) (by decide) kc_X7_186 dX7_readsNumber_62 ?_
        refine x_icmp_ge G 90 (by decide) dX7_readsNumber_64 (fun c64 => ?_) (fun c64 => ?_)
        · skip
          refine x_aload_n G 0 rfl rfl dX7_readsNumber_90 ?_
          refine x_dup G rfl dX7_readsNumber_91 ?_
          refine x_get G (xI (N1 195 19)) xf7_19 lk_X7_288 (ly_n hY 195 (by decide)) (ly_k hY 195 (by decide)) (Or.inl ⟨rfl, rfl⟩) dX7_readsNumber_92 ?_
          rw [show N1 195 19 = e from hs1]
          refine x_iconst G (by decide) dX7_readsNumber_95 ?_
          refine x_iadd G (by omega) dX7_readsNumber_96 ?_
          refine x_put G  xf7_19 lk_X7_288 (ly_n hY 195 (by decide)) (ly_k hY 195 (by decide)) rfl dX7_readsNumber_97 ?_
          refine x_goto G 37 (by decide) dX7_readsNumber_100 ?_
          refine x_sub [(0, xR 195), (1, xI lo), (2, xI hi), (3, xI (skp bt a))] [0, 1, 2, 3] rfl ?_
          exact ih37 _ (by omega) (e + 1) v (xst N1 195 19 (e + 1)) rfl (xst_same ..) (((xst_nq (by omega)).trans hv1)) (by omega) (by omega) (by omega) ((tq3_st hf1 (by omega)))
        · skip
          refine x_aload_n G 0 rfl rfl dX7_readsNumber_67 ?_
          refine x_bipush G (by decide) dX7_readsNumber_68 ?_
          refine x_aload_n G 0 rfl rfl dX7_readsNumber_70 ?_
          refine x_get G (xI (N1 195 21)) xf7_21 lk_X7_311 (ly_n hY 195 (by decide)) (ly_k hY 195 (by decide)) (Or.inl ⟨rfl, rfl⟩) dX7_readsNumber_71 ?_
          rw [show N1 195 21 = v from hv1]
          refine x_imul G (by omega) dX7_readsNumber_74 ?_
          refine x_aload_n G 0 rfl rfl dX7_readsNumber_75 ?_
          refine x_aload_n G 0 rfl rfl dX7_readsNumber_76 ?_
          refine x_get G (xI (N1 195 19)) xf7_19 lk_X7_288 (ly_n hY 195 (by decide)) (ly_k hY 195 (by decide)) (Or.inl ⟨rfl, rfl⟩) dX7_readsNumber_77 ?_
          rw [show N1 195 19 = e from hs1]
          refine x_callVp G [xI (10 * v), xR 195] [xI e] rfl (by decide) (ly_n hY 195 (by decide)) (ly_k hY 195 (by decide)) hy_X7_byteAt hi_X7_byteAt hs_X7_byteAt ml_X7_291 rfl rfl (kX7_byteAt _ _ bt len e hY hT (tmm_3 hM hf1) (by omega)) (by decide) (by decide) (Nat.le_of_ble_eq_true rfl) dX7_readsNumber_80 ?_
          refine x_iadd G (by omega) dX7_readsNumber_83 ?_
          refine x_bipush G (by decide) dX7_readsNumber_84 ?_
          refine x_isub G (by omega) dX7_readsNumber_86 ?_
          refine x_put G  xf7_21 lk_X7_311 (ly_n hY 195 (by decide)) (ly_k hY 195 (by decide)) rfl dX7_readsNumber_87 ?_
          refine x_aload_n G 0 rfl rfl dX7_readsNumber_90 ?_
          refine x_dup G rfl dX7_readsNumber_91 ?_
          refine x_get G (xI ((xst N1 195 21 (((10 * v) + (bt e)) - 48)) 195 19)) xf7_19 lk_X7_288 (ly_n hY 195 (by decide)) (ly_k hY 195 (by decide)) (Or.inl ⟨rfl, rfl⟩) dX7_readsNumber_92 ?_
          rw [show (xst N1 195 21 (((10 * v) + (bt e)) - 48)) 195 19 = e from ((xst_nq (by omega)).trans hs1)]
          refine x_iconst G (by decide) dX7_readsNumber_95 ?_
          refine x_iadd G (by omega) dX7_readsNumber_96 ?_
          refine x_put G  xf7_19 lk_X7_288 (ly_n hY 195 (by decide)) (ly_k hY 195 (by decide)) rfl dX7_readsNumber_97 ?_
          refine x_goto G 37 (by decide) dX7_readsNumber_100 ?_
          refine x_sub [(0, xR 195), (1, xI lo), (2, xI hi), (3, xI (skp bt a))] [0, 1, 2, 3] rfl ?_
          exact ih37 _ (by omega) (e + 1) (((10 * v) + (bt e)) - 48) (xst (xst N1 195 21 (((10 * v) + (bt e)) - 48)) 195 19 (e + 1)) rfl (xst_same ..) (((xst_nq (by omega)).trans (xst_same ..))) (by omega) (by omega) (by omega) ((tq3_st (tq3_st hf1 (by omega)) (by omega)))
    refine x_sub [(0, xR 195), (1, xI lo), (2, xI hi), (3, xI (skp bt a))] [1, 2, 3, 0] rfl ?_
    exact loop37 _ (skp bt a) 0 (xst M1 195 21 0) rfl (((xst_nq (by omega)).trans h1.1.2)) ((xst_same ..)) (⟨by omega, hdr.1.1⟩) (Or.inl (by rw [show (skp bt a - skp bt a).toNat = 0 by omega]; rfl)) (by omega) ((tq3_st (tq3_tr (tq3_refl _) (tq13 h1.2)) (by omega)))
  · skip
    have c14 := b2i_eq0.mp c14
    refine x_aload_n G 0 rfl rfl dX7_readsNumber_17 ?_
    refine x_iconst G (by decide) dX7_readsNumber_18 ?_
    refine x_aload_n G 0 rfl rfl dX7_readsNumber_19 ?_
    refine x_get G (xI (M1 195 19)) xf7_19 lk_X7_288 (ly_n hY 195 (by decide)) (ly_k hY 195 (by decide)) (Or.inl ⟨rfl, rfl⟩) dX7_readsNumber_20 ?_
    rw [show M1 195 19 = (skp bt a) from h1.1.2]
    refine x_callVI G [] [xI 1, xI (skp bt a)] rfl (by decide) (ly_n hY 195 (by decide)) (ly_k hY 195 (by decide)) hy_X7_fails hi_X7_fails hs_X7_fails ml_X7_308 rfl rfl (kX7_fails _ _ 1 (skp bt a) hY (by omega) (by omega)) (by decide) (by decide) (Nat.le_of_ble_eq_true rfl) dX7_readsNumber_23 (fun z23 M23 h23 => ?_)
    obtain ⟨hz23, rfl⟩ := h23
    rw [hz23]
    show xX Γ 0 0 n T 26 [(0, xR 195), (1, xI lo), (2, xI hi)] [xI 0] (xst M1 195 20 (8 * (skp bt a) + 1))
    exact x_zret G (by omega) Rt dX7_readsNumber_26 ⟨rfl, rfl, _, rfl, (by
          have e9 : pnum bt a lo hi = (8 * skp bt a + 1, 0, 0) := by unfold pnum; rw [if_neg c14]
          rw [e9]
          exact ⟨Or.inr ⟨by show ¬ 8 * skp bt a + 1 = -1; omega, rfl, xst_same ..⟩, (tq3_st (tq3_tr (tq3_refl _) (tq13 h1.2)) (by omega))⟩)⟩
set_option maxRecDepth 100000 in
set_option maxHeartbeats 4000000 in
theorem kX7_readsLabel (D : xD) (l : Launch) {n : Nat} {T : xT} {M : xM} (bt : Int → Int) (len : Int) (a : Int) (hY : LayOK n T) (hT : TB bt len) (hM : TMm M bt len) (ha : M 195 19 = a) (hal : 0 ≤ a ∧ a ≤ len) : xC D l uX7_readsLabel 2 41 0 0 [xR 195] n T M (xPI n T (fun z M2 => (((plab bt a).1 = -1 ∧ z = 1 ∧ M2 195 21 = (plab bt a).2.1 ∧ M2 195 19 = (plab bt a).2.2) ∨ (¬ (plab bt a).1 = -1 ∧ z = 0 ∧ M2 195 20 = (plab bt a).1)) ∧ tq3 M M2)) := by
  refine x_met uX7_readsLabel (by decide) (Nat.le_of_ble_eq_true rfl) ?_
  intro Γ G Rt _
  have G : xG Γ RX7 cX7_readsLabel 2 2 41 0 0 := G
  have Rt : xRt Γ (xPI n T (fun z M2 => (((plab bt a).1 = -1 ∧ z = 1 ∧ M2 195 21 = (plab bt a).2.1 ∧ M2 195 19 = (plab bt a).2.2) ∨ (¬ (plab bt a).1 = -1 ∧ z = 0 ∧ M2 195 20 = (plab bt a).1)) ∧ tq3 M M2)) (some .boolean) 0 0 := Rt
  show xX Γ 0 0 n T 0 [(0, xR 195)] [] M
  have hlb := hT.1
  have hMl := hM.1
  refine x_aload_n G 0 rfl rfl dX7_readsLabel_0 ?_
  refine x_callVI G [] [] rfl (by decide) (ly_n hY 195 (by decide)) (ly_k hY 195 (by decide)) hy_X7_nextByte hi_X7_nextByte hs_X7_nextByte ml_X7_297 rfl rfl (kX7_nextByte _ _ bt len a hY hT hM ha (by omega)) (by decide) (by decide) (Nat.le_of_ble_eq_true rfl) dX7_readsLabel_1 (fun z1 M1 h1 => ?_)
  rw [h1.1.1]
  have hsk1 := skp_b hT (show a ≤ len by omega)
  refine x_istore_n G [(1, xI (bt (skp bt a))), (0, xR 195)] rfl (by decide) rfl dX7_readsLabel_4 ?_
  refine x_iload_n G 0 rfl rfl dX7_readsLabel_5 ?_
  refine x_i2l G dX7_readsLabel_6 ?_
  refine x_ldc2 G (z := 97) (by decide) kc_X7_300 dX7_readsLabel_7 ?_
  refine x_ldc2 G (z := 122) (by decide) kc_X7_302 dX7_readsLabel_10 ?_
  refine x_callSp G [] [xL (bt (skp bt a)), xL 97, xL 122] hy_X7_in ht_X7_in ml_X7_54 rfl rfl (kX7_in _ _ (bt (skp bt a)) 97 122) (by decide) (by decide) (Nat.le_of_ble_eq_true rfl) dX7_readsLabel_13 ?_
  refine x_if_eq G 42 (by decide) dX7_readsLabel_16 (fun c16 => ?_) (fun c16 => ?_)
  · skip
    have c16 := b2i_eq0.mp c16
    refine x_aload_n G 1 rfl rfl dX7_readsLabel_42 ?_
    refine x_iconst G (by decide) dX7_readsLabel_43 ?_
    refine x_aload_n G 1 rfl rfl dX7_readsLabel_44 ?_
    refine x_get G (xI (M1 195 19)) xf7_19 lk_X7_288 (ly_n hY 195 (by decide)) (ly_k hY 195 (by decide)) (Or.inl ⟨rfl, rfl⟩) dX7_readsLabel_45 ?_
    rw [show M1 195 19 = (skp bt a) from h1.1.2]
    refine x_callVI G [] [xI 1, xI (skp bt a)] rfl (by decide) (ly_n hY 195 (by decide)) (ly_k hY 195 (by decide)) hy_X7_fails hi_X7_fails hs_X7_fails ml_X7_308 rfl rfl (kX7_fails _ _ 1 (skp bt a) hY (by omega) (by omega)) (by decide) (by decide) (Nat.le_of_ble_eq_true rfl) dX7_readsLabel_48 (fun z48 M48 h48 => ?_)
    obtain ⟨hz48, rfl⟩ := h48
    rw [hz48]
    show xX Γ 0 0 n T 51 [(1, xI (bt (skp bt a))), (0, xR 195)] [xI 0] (xst M1 195 20 (8 * (skp bt a) + 1))
    exact x_zret G (by omega) Rt dX7_readsLabel_51 ⟨rfl, rfl, _, rfl, (by
          have e9 : plab bt a = (8 * skp bt a + 1, 0, 0) := by unfold plab; rw [if_neg (by omega)]
          rw [e9]
          exact ⟨Or.inr ⟨by show ¬ 8 * skp bt a + 1 = -1; omega, rfl, xst_same ..⟩, (tq3_st (tq3_tr (tq3_refl _) (tq13 h1.2)) (by omega))⟩)⟩
  · skip
    have c16 := b2i_ne0.mp c16
    refine x_aload_n G 1 rfl rfl dX7_readsLabel_19 ?_
    refine x_aload_n G 1 rfl rfl dX7_readsLabel_20 ?_
    refine x_get G (xI (M1 195 19)) xf7_19 lk_X7_288 (ly_n hY 195 (by decide)) (ly_k hY 195 (by decide)) (Or.inl ⟨rfl, rfl⟩) dX7_readsLabel_21 ?_
    rw [show M1 195 19 = (skp bt a) from h1.1.2]
    refine x_iconst G (by decide) dX7_readsLabel_24 ?_
    refine x_iadd G (by omega) dX7_readsLabel_25 ?_
    refine x_callVp G [] [xI ((skp bt a) + 1)] rfl (by decide) (ly_n hY 195 (by decide)) (ly_k hY 195 (by decide)) hy_X7_byteAt hi_X7_byteAt hs_X7_byteAt ml_X7_291 rfl rfl (kX7_byteAt _ _ bt len ((skp bt a) + 1) hY hT (tmm_1 hM h1.2) (by omega)) (by decide) (by decide) (Nat.le_of_ble_eq_true rfl) dX7_readsLabel_26 ?_
    refine x_i2l G dX7_readsLabel_29 ?_
    refine x_ldc2 G (z := 97) (by decide) kc_X7_300 dX7_readsLabel_30 ?_
    refine x_ldc2 G (z := 122) (by decide) kc_X7_302 dX7_readsLabel_33 ?_
    refine x_callSp G [] [xL (bt ((skp bt a) + 1)), xL 97, xL 122] hy_X7_in ht_X7_in ml_X7_54 rfl rfl (kX7_in _ _ (bt ((skp bt a) + 1)) 97 122) (by decide) (by decide) (Nat.le_of_ble_eq_true rfl) dX7_readsLabel_36 ?_
    refine x_if_eq G 52 (by decide) dX7_readsLabel_39 (fun c39 => ?_) (fun c39 => ?_)
    · skip
      have c39 := b2i_eq0.mp c39
      refine x_aload_n G 1 rfl rfl dX7_readsLabel_52 ?_
      refine x_iload_n G 0 rfl rfl dX7_readsLabel_53 ?_
      refine x_bipush G (by decide) dX7_readsLabel_54 ?_
      refine x_isub G (by omega) dX7_readsLabel_56 ?_
      refine x_put G  xf7_21 lk_X7_311 (ly_n hY 195 (by decide)) (ly_k hY 195 (by decide)) rfl dX7_readsLabel_57 ?_
      refine x_aload_n G 1 rfl rfl dX7_readsLabel_60 ?_
      refine x_dup G rfl dX7_readsLabel_61 ?_
      refine x_get G (xI ((xst M1 195 21 ((bt (skp bt a)) - 97)) 195 19)) xf7_19 lk_X7_288 (ly_n hY 195 (by decide)) (ly_k hY 195 (by decide)) (Or.inl ⟨rfl, rfl⟩) dX7_readsLabel_62 ?_
      rw [show (xst M1 195 21 ((bt (skp bt a)) - 97)) 195 19 = (skp bt a) from ((xst_nq (by omega)).trans h1.1.2)]
      refine x_iconst G (by decide) dX7_readsLabel_65 ?_
      refine x_iadd G (by omega) dX7_readsLabel_66 ?_
      refine x_put G  xf7_19 lk_X7_288 (ly_n hY 195 (by decide)) (ly_k hY 195 (by decide)) rfl dX7_readsLabel_67 ?_
      refine x_iconst G (by decide) dX7_readsLabel_70 ?_
      exact x_zret G (by omega) Rt dX7_readsLabel_71 ⟨rfl, rfl, _, rfl, (by
          have e9 : plab bt a = (-1, bt (skp bt a) - 97, skp bt a + 1) := by unfold plab; rw [if_pos ⟨c16, c39⟩]
          rw [e9]
          exact ⟨Or.inl ⟨rfl, rfl, ((xst_nq (by omega)).trans (xst_same ..)), (xst_same ..)⟩, (tq3_st (tq3_st (tq3_tr (tq3_refl _) (tq13 h1.2)) (by omega)) (by omega))⟩)⟩
    · skip
      have c39 := b2i_ne0.mp c39
      refine x_aload_n G 1 rfl rfl dX7_readsLabel_42 ?_
      refine x_iconst G (by decide) dX7_readsLabel_43 ?_
      refine x_aload_n G 1 rfl rfl dX7_readsLabel_44 ?_
      refine x_get G (xI (M1 195 19)) xf7_19 lk_X7_288 (ly_n hY 195 (by decide)) (ly_k hY 195 (by decide)) (Or.inl ⟨rfl, rfl⟩) dX7_readsLabel_45 ?_
      rw [show M1 195 19 = (skp bt a) from h1.1.2]
      refine x_callVI G [] [xI 1, xI (skp bt a)] rfl (by decide) (ly_n hY 195 (by decide)) (ly_k hY 195 (by decide)) hy_X7_fails hi_X7_fails hs_X7_fails ml_X7_308 rfl rfl (kX7_fails _ _ 1 (skp bt a) hY (by omega) (by omega)) (by decide) (by decide) (Nat.le_of_ble_eq_true rfl) dX7_readsLabel_48 (fun z48 M48 h48 => ?_)
      obtain ⟨hz48, rfl⟩ := h48
      rw [hz48]
      show xX Γ 0 0 n T 51 [(1, xI (bt (skp bt a))), (0, xR 195)] [xI 0] (xst M1 195 20 (8 * (skp bt a) + 1))
      exact x_zret G (by omega) Rt dX7_readsLabel_51 ⟨rfl, rfl, _, rfl, (by
          have e9 : plab bt a = (8 * skp bt a + 1, 0, 0) := by unfold plab; rw [if_neg (by omega)]
          rw [e9]
          exact ⟨Or.inr ⟨by show ¬ 8 * skp bt a + 1 = -1; omega, rfl, xst_same ..⟩, (tq3_st (tq3_tr (tq3_refl _) (tq13 h1.2)) (by omega))⟩)⟩
