theorem mr_lt {N N2 : Nat → Int} {V : xM} (hv : VOK V) (h : mrel N V) (e : ∀ k, k < 511 → N2 k = N k) : mrel N2 V := by
  have hc := ok_c hv
  refine ⟨by rw [e 0 (by omega), e 1 (by omega), e 2 (by omega)]; exact h.1, fun s hs => by rw [e _ (by omega), e _ (by omega)]; exact h.2.1 s hs, fun i hi => ?_⟩
  rw [e _ (by omega), e _ (by omega), e _ (by omega), e _ (by omega), e _ (by omega)]
  exact h.2.2 i hi
abbrev mhst (M : xM) (Hs : List xM) : Prop := M 195 2 = (Hs.length : Int) ∧ Hs.length ≤ 10 ∧ ∀ j : Nat, j < Hs.length → VOK (Hs.getD j v0) ∧ mrel (fun k => M 197 (511 * (Hs.length - 1 - j) + k)) (Hs.getD j v0)
theorem mh_cg {M M2 : xM} {Hs : List xM} (h : mhst M Hs) (e1 : M2 195 2 = M 195 2) (e2 : M2 197 = M 197) : mhst M2 Hs := by
  unfold mhst; rw [e1, e2]; exact h
abbrev mafr (M M2 : xM) : Prop := (∀ q, q < 195 ∨ q = 198 ∨ q = 199 ∨ 207 ≤ q → M2 q = M q) ∧ M2 195 18 = M 195 18
theorem maf_refl (M : xM) : mafr M M := ⟨fun _ _ => rfl, rfl⟩
theorem maf_tr {M M1 M2 : xM} (h : mafr M M1) (h2 : mafr M1 M2) : mafr M M2 := ⟨fun q hq => (h2.1 q hq).trans (h.1 q hq), h2.2.trans h.2⟩
theorem maf_st {M M1 : xM} {k j : Nat} {z : Int} (h : mafr M M1) (hk : (k = 195 ∧ j ≠ 18) ∨ k = 196 ∨ k = 197 ∨ (200 ≤ k ∧ k < 207)) : mafr M (xst M1 k j z) := ⟨fun q hq => by rw [xst_row (by omega)]; exact h.1 q hq, by rw [xst_nq (by omega)]; exact h.2⟩
theorem maf_mf {M M1 M2 : xM} {b : Nat} (h : mafr M M1) (h2 : mfx b M1 M2) (hb : b ≤ 207 := by decide) : mafr M M2 := ⟨fun q hq => (h2.1 q (by omega)).trans (h.1 q hq), h2.2.2.trans h.2⟩
theorem maf_of {M M1 M2 : xM} (h : mafr M M1) (h2 : xof [200, 201] M1 M2) : mafr M M2 := ⟨fun q hq => (h2 q (by simp; omega)).trans (h.1 q hq), (congrFun (h2 195 (by simp)) 18).trans h.2⟩
set_option maxRecDepth 100000 in
set_option maxHeartbeats 4000000 in
theorem kX7_exchanges (D : xD) (l : Launch) {n : Nat} {T : xT} {M : xM} (x len : Nat) (at9 : Int) (hY : LayOK n T) (hxn : x < n) (hxk : (T x).1 = 9) (hxl : (T x).2.1 = len) (hx6 : x ≠ 196) (ha : 0 ≤ at9 ∧ at9 + 511 ≤ len ∧ len ≤ 100000) : xC D l uX7_exchanges 0 0 0 0 [xR 195, xR x, xI at9] n T M (xPV n T (fun M2 => (∀ k : Nat, k < 511 → M2 196 k = M x (at9.toNat + k)) ∧ (∀ k, 511 ≤ k → M2 196 k = M 196 k) ∧ M2 195 10 = 0 ∧ (∀ q, q ≠ 195 → q ≠ 196 → M2 q = M q) ∧ ∀ j, j ≠ 10 → M2 195 j = M 195 j)) := by
  refine x_met uX7_exchanges (by decide) (Nat.le_of_ble_eq_true rfl) ?_
  intro Γ G Rt _
  have G : xG Γ RX7 cX7_exchanges 4 0 0 0 0 := G
  have Rt : xRt Γ (xPV n T (fun M2 => (∀ k : Nat, k < 511 → M2 196 k = M x (at9.toNat + k)) ∧ (∀ k, 511 ≤ k → M2 196 k = M 196 k) ∧ M2 195 10 = 0 ∧ (∀ q, q ≠ 195 → q ≠ 196 → M2 q = M q) ∧ ∀ j, j ≠ 10 → M2 195 j = M 195 j)) none 0 0 := Rt
  show xX Γ 0 0 n T 0 [(0, xR 195), (1, xR x), (2, xI at9)] [] M
  refine x_iconst G (by decide) dX7_exchanges_0 ?_
  refine x_istore_n G [(3, xI 0), (0, xR 195), (1, xR x), (2, xI at9)] rfl (by decide) rfl dX7_exchanges_1 ?_
  have loop2 : ∀ (d : Nat) (k : Int) (N1 : xM), (511 - k).toNat = d → (0 ≤ k ∧ k ≤ 511) → (∀ q, q ≠ 196 → N1 q = M q) → (∀ j : Nat, (j : Int) < k → N1 196 j = M x (at9.toNat + j)) → (∀ j : Nat, k ≤ j → N1 196 j = M 196 j) → xX Γ 0 0 n T 2 [(0, xR 195), (1, xR x), (2, xI at9), (3, xI k)] [] N1 := by
    intro d
    induction d using Nat.strongRecOn with
    | ind d ih2 =>
    intro k N1 hd2 hk hfr hlo hhi
    refine x_iload_n G 3 rfl rfl dX7_exchanges_2 ?_
    refine x_sipush G (by decide) dX7_exchanges_3 ?_
    refine x_icmp_ge G 26 (by decide) dX7_exchanges_6 (fun c6 => ?_) (fun c6 => ?_)
    · skip
      refine x_aload_n G 0 rfl rfl dX7_exchanges_26 ?_
      refine x_iconst G (by decide) dX7_exchanges_27 ?_
      refine x_putz G (by omega) xf7_10 lk_X7_107 (ly_n hY 195 (by decide)) (ly_k hY 195 (by decide)) rfl dX7_exchanges_28 ?_
      exact x_vret G Rt dX7_exchanges_31 ⟨rfl, rfl, rfl, ⟨fun k hk => by rw [xst_row (by decide)]; exact hlo k (by omega), fun k hk => by rw [xst_row (by decide)]; exact hhi k (by omega), xst_same .., fun q h1 h2 => (xst_row h1).trans (hfr q h2), fun j hj => by rw [xst_nq (Or.inr hj), hfr 195 (by decide)]⟩⟩
    · skip
      refine x_aload_n G 0 rfl rfl dX7_exchanges_9 ?_
      refine x_get G (xR 196) xf7_0 lk_X7_7 (ly_n hY 195 (by decide)) (ly_k hY 195 (by decide)) (Or.inr ⟨rfl, _, (ly_r hY 195 0 (by decide) (by decide)), rfl⟩) dX7_exchanges_10 ?_
      refine x_iload_n G 3 rfl rfl dX7_exchanges_13 ?_
      refine x_aload_n G 1 rfl rfl dX7_exchanges_14 ?_
      refine x_iload_n G 2 rfl rfl dX7_exchanges_15 ?_
      refine x_iload_n G 3 rfl rfl dX7_exchanges_16 ?_
      refine x_iadd G (by omega) dX7_exchanges_17 ?_
      refine x_iald G hxn hxk (hxl) (by omega) (by omega) dX7_exchanges_18 ?_
      refine x_iast G (ly_n hY 196 (by decide)) (ly_k hY 196 (by decide)) (show _ = 511 from ly_l hY 196 (by decide)) (by omega) (by omega) dX7_exchanges_19 ?_
      refine x_iinc G [(3, xI (k + 1)), (0, xR 195), (1, xR x), (2, xI at9)] 3 rfl (by decide) (by omega) rfl dX7_exchanges_20 ?_
      refine x_goto G 2 (by decide) dX7_exchanges_23 ?_
      refine x_sub [(0, xR 195), (1, xR x), (2, xI at9), (3, xI (k + 1))] [1, 2, 3, 0] rfl ?_
      exact ih2 _ (by omega) (k + 1) (xst N1 196 k.toNat (N1 x (at9 + k).toNat)) rfl (by omega) (fun q hq => (xst_row hq).trans (hfr q hq)) (by intro j hj; rw [xst_eq]; by_cases e : j = k.toNat; (rw [if_pos ⟨rfl, e⟩, hfr x hx6, show (at9 + k).toNat = at9.toNat + j by omega]); (rw [if_neg (fun h => e h.2)]; exact hlo j (by omega))) (fun j hj => (xst_nq (by omega)).trans (hhi j (by omega)))
  refine x_sub [(0, xR 195), (1, xR x), (2, xI at9), (3, xI 0)] [1, 2, 3, 0] rfl ?_
  exact loop2 _ 0 M rfl (by omega) (fun _ _ => rfl) (fun j hj => by omega) (fun _ _ => rfl)
set_option maxRecDepth 100000 in
set_option maxHeartbeats 4000000 in
theorem kX7_putsAside (D : xD) (l : Launch) {n : Nat} {T : xT} {M : xM}  (hY : LayOK n T) : xC D l uX7_putsAside 0 0 0 0 [xR 195] n T M (xPV n T (fun M2 => (∀ k : Nat, k < 511 → M2 206 k = M 196 k) ∧ ∀ q, q ≠ 206 → M2 q = M q)) := by
  refine x_met uX7_putsAside (by decide) (Nat.le_of_ble_eq_true rfl) ?_
  intro Γ G Rt _
  have G : xG Γ RX7 cX7_putsAside 2 0 0 0 0 := G
  have Rt : xRt Γ (xPV n T (fun M2 => (∀ k : Nat, k < 511 → M2 206 k = M 196 k) ∧ ∀ q, q ≠ 206 → M2 q = M q)) none 0 0 := Rt
  show xX Γ 0 0 n T 0 [(0, xR 195)] [] M
  refine x_iconst G (by decide) dX7_putsAside_0 ?_
  refine x_istore_n G [(1, xI 0), (0, xR 195)] rfl (by decide) rfl dX7_putsAside_1 ?_
  have loop2 : ∀ (d : Nat) (k : Int) (N1 : xM), (511 - k).toNat = d → (0 ≤ k ∧ k ≤ 511) → (∀ q, q ≠ 206 → N1 q = M q) → (∀ j : Nat, (j : Int) < k → N1 206 j = M 196 j) → xX Γ 0 0 n T 2 [(0, xR 195), (1, xI k)] [] N1 := by
    intro d
    induction d using Nat.strongRecOn with
    | ind d ih2 =>
    intro k N1 hd2 hk hfr hlo
    refine x_iload_n G 1 rfl rfl dX7_putsAside_2 ?_
    refine x_sipush G (by decide) dX7_putsAside_3 ?_
    refine x_icmp_ge G 27 (by decide) dX7_putsAside_6 (fun c6 => ?_) (fun c6 => ?_)
    · skip
      exact x_vret G Rt dX7_putsAside_27 ⟨rfl, rfl, rfl, ⟨fun k hk => hlo k (by omega), hfr⟩⟩
    · skip
      refine x_aload_n G 0 rfl rfl dX7_putsAside_9 ?_
      refine x_get G (xR 206) xf7_13 lk_X7_41 (ly_n hY 195 (by decide)) (ly_k hY 195 (by decide)) (Or.inr ⟨rfl, _, (ly_r hY 195 13 (by decide) (by decide)), rfl⟩) dX7_putsAside_10 ?_
      refine x_iload_n G 1 rfl rfl dX7_putsAside_13 ?_
      refine x_aload_n G 0 rfl rfl dX7_putsAside_14 ?_
      refine x_get G (xR 196) xf7_0 lk_X7_7 (ly_n hY 195 (by decide)) (ly_k hY 195 (by decide)) (Or.inr ⟨rfl, _, (ly_r hY 195 0 (by decide) (by decide)), rfl⟩) dX7_putsAside_15 ?_
      refine x_iload_n G 1 rfl rfl dX7_putsAside_18 ?_
      refine x_iald G (ly_n hY 196 (by decide)) (ly_k hY 196 (by decide)) (show _ = 511 from ly_l hY 196 (by decide)) (by omega) (by omega) dX7_putsAside_19 ?_
      refine x_iast G (ly_n hY 206 (by decide)) (ly_k hY 206 (by decide)) (show _ = 511 from ly_l hY 206 (by decide)) (by omega) (by omega) dX7_putsAside_20 ?_
      refine x_iinc G [(1, xI (k + 1)), (0, xR 195)] 1 rfl (by decide) (by omega) rfl dX7_putsAside_21 ?_
      refine x_goto G 2 (by decide) dX7_putsAside_24 ?_
      refine x_sub [(0, xR 195), (1, xI (k + 1))] [1, 0] rfl ?_
      exact ih2 _ (by omega) (k + 1) (xst N1 206 k.toNat (N1 196 k.toNat)) rfl (by omega) (fun q hq => (xst_row hq).trans (hfr q hq)) (by intro j hj; rw [xst_eq]; by_cases e : j = k.toNat; (rw [if_pos ⟨rfl, e⟩, hfr 196 (by decide), e]); (rw [if_neg (fun h => e h.2)]; exact hlo j (by omega)))
  refine x_sub [(0, xR 195), (1, xI 0)] [1, 0] rfl ?_
  exact loop2 _ 0 M rfl (by omega) (fun _ _ => rfl) (fun j hj => by omega)
set_option maxRecDepth 100000 in
set_option maxHeartbeats 4000000 in
theorem kX7_same (D : xD) (l : Launch) {n : Nat} {T : xT} {M : xM} (V W : xM) (kp sf sh : Int) (hY : LayOK n T) (hN : mrel (M 196) V) (hv : VOK V) (hs : Srt V (V 10) (V 0 10).toNat) (hR : Rk M V) (hkp : (0 ≤ sf ∧ sf ≤ 1) → M 199 sf.toNat = b2i (bit kp sf)) (hW : (0 ≤ sf ∧ sf ≤ 1) → bit kp sf → mrel (fun k => M 198 (511 * sf.toNat + k)) W ∧ VOK W ∧ Srt W (W 10) (W 0 10).toNat) : xC D l uX7_same 9 212 0 0 [xR 195, xI sf, xI sh] n T M (xPI n T (fun z M2 => z = qSame V W kp sf sh ∧ mfr M M2 ∧ Rk M2 V)) := by
  refine x_met uX7_same (by decide) (Nat.le_of_ble_eq_true rfl) ?_
  intro Γ G Rt _
  have G : xG Γ RX7 cX7_same 6 9 212 0 0 := G
  have Rt : xRt Γ (xPI n T (fun z M2 => z = qSame V W kp sf sh ∧ mfr M M2 ∧ Rk M2 V)) (some .int) 0 0 := Rt
  show xX Γ 0 0 n T 0 [(0, xR 195), (1, xI sf), (2, xI sh)] [] M
  have hc := ok_c hv
  refine x_iload_n G 1 rfl rfl dX7_same_0 ?_
  refine x_i2l G dX7_same_1 ?_
  refine x_lconst G dX7_same_2 ?_
  show xX Γ 0 0 n T 3 [(0, xR 195), (1, xI sf), (2, xI sh)] [xL 0, xL sf] M
  refine x_lconst G dX7_same_3 ?_
  show xX Γ 0 0 n T 4 [(0, xR 195), (1, xI sf), (2, xI sh)] [xL 1, xL 0, xL sf] M
  refine x_callSp G [] [xL sf, xL 0, xL 1] hy_X7_in ht_X7_in ml_X7_54 rfl rfl (kX7_in _ _ sf 0 1) (by decide) (by decide) (Nat.le_of_ble_eq_true rfl) dX7_same_4 ?_
  refine x_if_eq G 17 (by decide) dX7_same_7 (fun c7 => ?_) (fun c7 => ?_)
  · skip
    have c7 := b2i_eq0.mp c7
    refine x_iconst G (by decide) dX7_same_17 ?_
    exact x_iret G Rt dX7_same_18 ⟨rfl, rfl, _, rfl, ⟨(by unfold qSame; (repeat (first | rw [if_pos (by omega)] | rw [if_neg (by omega)])) <;> try rfl), mfr_refl _, hR⟩⟩
  · skip
    have c7 := b2i_ne0.mp c7
    refine x_iload_n G 2 rfl rfl dX7_same_10 ?_
    refine x_callSp G [] [xI sh] hy_X7_isShard ht_X7_isShard ml_X7_143 rfl rfl (kX7_isShard _ _ sh) (by decide) (by decide) (Nat.le_of_ble_eq_true rfl) dX7_same_11 ?_
    refine x_if_ne G 19 (by decide) dX7_same_14 (fun c14 => ?_) (fun c14 => ?_)
    · skip
      have c14 := b2i_ne0.mp c14
      have hs12 := sm_12 hv (sh := sh) (by omega)
      have hkp9 := hkp (by omega)
      refine x_aload_n G 0 rfl rfl dX7_same_19 ?_
      refine x_get G (xR 199) xf7_4 lk_X7_19 (ly_n hY 195 (by decide)) (ly_k hY 195 (by decide)) (Or.inr ⟨rfl, _, (ly_r hY 195 4 (by decide) (by decide)), rfl⟩) dX7_same_20 ?_
      refine x_iload_n G 1 rfl rfl dX7_same_23 ?_
      refine x_zald G (ly_n hY 199 (by decide)) (ly_k hY 199 (by decide)) (show _ = 2 from ly_l hY 199 (by decide)) (by omega) (by omega) dX7_same_24 ?_
      rw [hkp9]
      skip
      refine x_if_ne G 31 (by decide) dX7_same_25 (fun c25 => ?_) (fun c25 => ?_)
      · skip
        have c25 := b2i_ne0.mp c25
        obtain ⟨hWm, hWv, hWs⟩ := hW (by omega) c25
        have hs12w := sm_12 hWv (sh := sh) (by omega)
        refine x_aload_n G 0 rfl rfl dX7_same_31 ?_
        refine x_iload_n G 2 rfl rfl dX7_same_32 ?_
        refine x_callVV G [] [xI sh] rfl (by decide) (ly_n hY 195 (by decide)) (ly_k hY 195 (by decide)) hy_X7_laysSample hi_X7_laysSample hs_X7_laysSample ml_X7_137 rfl rfl (kX7_laysSample _ _ V sh hY hN hv hs hR (by omega)) (by decide) (by decide) (Nat.le_of_ble_eq_true rfl) dX7_same_33 (fun M33 h33 => ?_)
        have hn33 := h33.1.1
        have hl33 : (smL V sh).length ≤ 100 := take_len (alL_len hv _ _ _ _)
        refine x_aload_n G 0 rfl rfl dX7_same_36 ?_
        refine x_get G (xI (M33 195 8)) xf7_8 lk_X7_103 (ly_n hY 195 (by decide)) (ly_k hY 195 (by decide)) (Or.inl ⟨rfl, rfl⟩) dX7_same_37 ?_
        rw [show M33 195 8 = ((smL V sh).length : Int) from h33.1.1]
        refine x_istore_n G [(3, xI ((smL V sh).length : Int)), (0, xR 195), (1, xI sf), (2, xI sh)] rfl (by decide) rfl dX7_same_40 ?_
        refine x_iconst G (by decide) dX7_same_41 ?_
        refine x_istore G [(4, xI 0), (3, xI ((smL V sh).length : Int)), (0, xR 195), (1, xI sf), (2, xI sh)] (by decide) rfl dX7_same_42 ?_
        have loop44 : ∀ (d : Nat) (k : Int) (N1 : xM), ((smL V sh).length - k).toNat = d → (0 ≤ k ∧ k ≤ (smL V sh).length) → (mfr M N1) → (Rk N1 V) → (Rw N1 (smL V sh)) → (Sav N1 (smL V sh) k) → xX Γ 0 0 n T 44 [(0, xR 195), (1, xI sf), (2, xI sh), (3, xI ((smL V sh).length : Int)), (4, xI k)] [] N1 := by
          intro d
          induction d using Nat.strongRecOn with
          | ind d ih44 =>
          intro k N1 hd44 hk hf1 hR1 hw1 hsv
          skip
          refine x_iload G 4 rfl dX7_same_44 ?_
          refine x_iload_n G 3 rfl rfl dX7_same_46 ?_
          refine x_icmp_ge G 70 (by decide) dX7_same_47 (fun c47 => ?_) (fun c47 => ?_)
          · skip
            refine x_aload_n G 0 rfl rfl dX7_same_70 ?_
            refine x_callVV G [] [] rfl (by decide) (ly_n hY 195 (by decide)) (ly_k hY 195 (by decide)) hy_X7_putsAside hi_X7_putsAside hs_X7_putsAside ml_X7_202 rfl rfl (kX7_putsAside _ _ hY) (by decide) (by decide) (Nat.le_of_ble_eq_true rfl) dX7_same_71 (fun M71 h71 => ?_)
            refine x_aload_n G 0 rfl rfl dX7_same_74 ?_
            refine x_aload_n G 0 rfl rfl dX7_same_75 ?_
            refine x_get G (xR 198) xf7_3 lk_X7_16 (ly_n hY 195 (by decide)) (ly_k hY 195 (by decide)) (Or.inr ⟨rfl, _, (ly_r hY 195 3 (by decide) (by decide)), rfl⟩) dX7_same_76 ?_
            refine x_sipush G (by decide) dX7_same_79 ?_
            refine x_iload_n G 1 rfl rfl dX7_same_82 ?_
            refine x_imul G (by omega) dX7_same_83 ?_
            refine x_callVV G [] [xR 198, xI (511 * sf)] rfl (by decide) (ly_n hY 195 (by decide)) (ly_k hY 195 (by decide)) hy_X7_exchanges hi_X7_exchanges hs_X7_exchanges ml_X7_205 rfl rfl (kX7_exchanges _ _ 198 1022 (511 * sf) hY (ly_n hY 198 (by decide)) (ly_k hY 198 (by decide)) (show _ = 1022 from ly_l hY 198 (by decide)) (by decide) (by omega)) (by decide) (by decide) (Nat.le_of_ble_eq_true rfl) dX7_same_84 (fun M84 h84 => ?_)
            have hrow : ∀ k, k < 511 → M84 196 k = M 198 (511 * sf.toNat + k) := fun k hk9 => by rw [h84.1 k hk9, h71.2 198 (by decide), hf1.1 198 (by omega), show (511 * sf).toNat = 511 * sf.toNat by omega]
            skip
            refine x_aload_n G 0 rfl rfl dX7_same_87 ?_
            refine x_iload_n G 2 rfl rfl dX7_same_88 ?_
            refine x_callVV G [] [xI sh] rfl (by decide) (ly_n hY 195 (by decide)) (ly_k hY 195 (by decide)) hy_X7_laysSample hi_X7_laysSample hs_X7_laysSample ml_X7_137 rfl rfl (kX7_laysSample _ _ W sh hY (mr_lt hWv hWm (fun k hk => hrow k hk)) hWv hWs (Or.inl h84.2.2.1) (by omega)) (by decide) (by decide) (Nat.le_of_ble_eq_true rfl) dX7_same_89 (fun M89 h89 => ?_)
            have hn89 := h89.1.1
            have hl89 : (smL W sh).length ≤ 100 := take_len (alL_len hWv _ _ _ _)
            refine x_aload_n G 0 rfl rfl dX7_same_92 ?_
            refine x_get G (xI (M89 195 8)) xf7_8 lk_X7_103 (ly_n hY 195 (by decide)) (ly_k hY 195 (by decide)) (Or.inl ⟨rfl, rfl⟩) dX7_same_93 ?_
            rw [show M89 195 8 = ((smL W sh).length : Int) from h89.1.1]
            refine x_iload_n G 3 rfl rfl dX7_same_96 ?_
            refine x_icmp_ne G 104 (by decide) dX7_same_97 (fun c97 => ?_) (fun c97 => ?_)
            · skip
              refine x_iconst G (by decide) dX7_same_104 ?_
              refine x_istore G [(4, xI 0), (0, xR 195), (1, xI sf), (2, xI sh), (3, xI ((smL V sh).length : Int))] (by decide) rfl dX7_same_105 ?_
              refine x_iconst G (by decide) dX7_same_107 ?_
              refine x_istore G [(5, xI 0), (4, xI 0), (0, xR 195), (1, xI sf), (2, xI sh), (3, xI ((smL V sh).length : Int))] (by decide) rfl dX7_same_108 ?_
              have loop110 : ∀ (d : Nat) (q : Int) (like : Int), ((smL W sh).length + 1 - q + like).toNat = d → (0 ≤ q ∧ q ≤ (smL W sh).length) → ((like = 1 ∧ (smL W sh).length = (smL V sh).length ∧ ∀ j : Nat, (j : Int) < q → (smL W sh).getD j 0 = (smL V sh).getD j 0) ∨ (like = 0 ∧ ¬ (smL W sh) = (smL V sh))) → xX Γ 0 0 n T 110 [(0, xR 195), (1, xI sf), (2, xI sh), (3, xI ((smL V sh).length : Int)), (4, xI like), (5, xI q)] [] M89 := by
                intro d
                induction d using Nat.strongRecOn with
                | ind d ih110 =>
                intro q like hd110 hq9 hlk
                refine x_iload G 5 rfl dX7_same_110 ?_
                refine x_aload_n G 0 rfl rfl dX7_same_112 ?_
                refine x_get G (xI (M89 195 8)) xf7_8 lk_X7_103 (ly_n hY 195 (by decide)) (ly_k hY 195 (by decide)) (Or.inl ⟨rfl, rfl⟩) dX7_same_113 ?_
                rw [show M89 195 8 = ((smL W sh).length : Int) from h89.1.1]
                refine x_icmp_ge G 154 (by decide) dX7_same_116 (fun c116 => ?_) (fun c116 => ?_)
                · skip
                  refine x_aload_n G 0 rfl rfl dX7_same_154 ?_
                  refine x_aload_n G 0 rfl rfl dX7_same_155 ?_
                  refine x_get G (xR 206) xf7_13 lk_X7_41 (ly_n hY 195 (by decide)) (ly_k hY 195 (by decide)) (Or.inr ⟨rfl, _, (ly_r hY 195 13 (by decide) (by decide)), rfl⟩) dX7_same_156 ?_
                  refine x_iconst G (by decide) dX7_same_159 ?_
                  refine x_callVV G [] [xR 206, xI 0] rfl (by decide) (ly_n hY 195 (by decide)) (ly_k hY 195 (by decide)) hy_X7_exchanges hi_X7_exchanges hs_X7_exchanges ml_X7_205 rfl rfl (kX7_exchanges _ _ 206 511 0 hY (ly_n hY 206 (by decide)) (ly_k hY 206 (by decide)) (show _ = 511 from ly_l hY 206 (by decide)) (by decide) (by omega)) (by decide) (by decide) (Nat.le_of_ble_eq_true rfl) dX7_same_160 (fun M160 h160 => ?_)
                  have hfin : mfr M M160 := ⟨fun q hq => by (by_cases e : q = 196; (subst e; funext k; by_cases g : k < 511; (rw [h160.1 k g, show (0 : Int).toNat + k = k from Nat.zero_add k, h89.2.1.1 206 (by omega), h84.2.2.2.1 206 (by omega) (by omega), h71.1 k g, hf1.1 196 (by omega)]); (rw [h160.2.1 k (by omega), h89.2.1.1 196 (by omega), h84.2.1 k (by omega), h71.2 196 (by omega), hf1.1 196 (by omega)])); (rw [h160.2.2.2.1 q (by omega) e, h89.2.1.1 q (by omega), h84.2.2.2.1 q (by omega) e, h71.2 q (by omega), hf1.1 q (by omega)])), by rw [h160.2.2.2.2 2 (by decide), h89.2.1.2.1, h84.2.2.2.2 2 (by decide), h71.2 195 (by decide)]; exact hf1.2.1, by rw [h160.2.2.2.2 18 (by decide), h89.2.1.2.2, h84.2.2.2.2 18 (by decide), h71.2 195 (by decide)]; exact hf1.2.2⟩
                  refine x_iload G 4 rfl dX7_same_163 ?_
                  refine x_if_eq G 172 (by decide) dX7_same_165 (fun c165 => ?_) (fun c165 => ?_)
                  · skip
                    refine x_iconst G (by decide) dX7_same_172 ?_
                    exact x_iret G Rt dX7_same_173 ⟨rfl, rfl, _, rfl, ⟨(by unfold qSame; rw [if_pos (by omega), if_pos c25]; (rcases hlk with ⟨g1, g2, g3⟩ | ⟨g1, g2⟩; (first | exact (b2i_t (list_eq g2 (fun j hj => g3 j (by omega))).symm).symm | (exfalso; omega)); (first | exact (b2i_f (fun e => g2 e.symm)).symm | (exfalso; omega)))), hfin, Or.inl h160.2.2.1⟩⟩
                  · skip
                    refine x_iconst G (by decide) dX7_same_168 ?_
                    refine x_goto G 173 (by decide) dX7_same_169 ?_
                    exact x_iret G Rt dX7_same_173 ⟨rfl, rfl, _, rfl, ⟨(by unfold qSame; rw [if_pos (by omega), if_pos c25]; (rcases hlk with ⟨g1, g2, g3⟩ | ⟨g1, g2⟩; (first | exact (b2i_t (list_eq g2 (fun j hj => g3 j (by omega))).symm).symm | (exfalso; omega)); (first | exact (b2i_f (fun e => g2 e.symm)).symm | (exfalso; omega)))), hfin, Or.inl h160.2.2.1⟩⟩
                · skip
                  refine x_iload G 4 rfl dX7_same_119 ?_
                  refine x_if_eq G 154 (by decide) dX7_same_121 (fun c121 => ?_) (fun c121 => ?_)
                  · skip
                    refine x_aload_n G 0 rfl rfl dX7_same_154 ?_
                    refine x_aload_n G 0 rfl rfl dX7_same_155 ?_
                    refine x_get G (xR 206) xf7_13 lk_X7_41 (ly_n hY 195 (by decide)) (ly_k hY 195 (by decide)) (Or.inr ⟨rfl, _, (ly_r hY 195 13 (by decide) (by decide)), rfl⟩) dX7_same_156 ?_
                    refine x_iconst G (by decide) dX7_same_159 ?_
                    refine x_callVV G [] [xR 206, xI 0] rfl (by decide) (ly_n hY 195 (by decide)) (ly_k hY 195 (by decide)) hy_X7_exchanges hi_X7_exchanges hs_X7_exchanges ml_X7_205 rfl rfl (kX7_exchanges _ _ 206 511 0 hY (ly_n hY 206 (by decide)) (ly_k hY 206 (by decide)) (show _ = 511 from ly_l hY 206 (by decide)) (by decide) (by omega)) (by decide) (by decide) (Nat.le_of_ble_eq_true rfl) dX7_same_160 (fun M160 h160 => ?_)
                    have hfin : mfr M M160 := ⟨fun q hq => by (by_cases e : q = 196; (subst e; funext k; by_cases g : k < 511; (rw [h160.1 k g, show (0 : Int).toNat + k = k from Nat.zero_add k, h89.2.1.1 206 (by omega), h84.2.2.2.1 206 (by omega) (by omega), h71.1 k g, hf1.1 196 (by omega)]); (rw [h160.2.1 k (by omega), h89.2.1.1 196 (by omega), h84.2.1 k (by omega), h71.2 196 (by omega), hf1.1 196 (by omega)])); (rw [h160.2.2.2.1 q (by omega) e, h89.2.1.1 q (by omega), h84.2.2.2.1 q (by omega) e, h71.2 q (by omega), hf1.1 q (by omega)])), by rw [h160.2.2.2.2 2 (by decide), h89.2.1.2.1, h84.2.2.2.2 2 (by decide), h71.2 195 (by decide)]; exact hf1.2.1, by rw [h160.2.2.2.2 18 (by decide), h89.2.1.2.2, h84.2.2.2.2 18 (by decide), h71.2 195 (by decide)]; exact hf1.2.2⟩
                    refine x_iload G 4 rfl dX7_same_163 ?_
                    refine x_if_eq G 172 (by decide) dX7_same_165 (fun c165 => ?_) (fun c165 => ?_)
                    · skip
                      refine x_iconst G (by decide) dX7_same_172 ?_
                      exact x_iret G Rt dX7_same_173 ⟨rfl, rfl, _, rfl, ⟨(by unfold qSame; rw [if_pos (by omega), if_pos c25]; (rcases hlk with ⟨g1, g2, g3⟩ | ⟨g1, g2⟩; (first | exact (b2i_t (list_eq g2 (fun j hj => g3 j (by omega))).symm).symm | (exfalso; omega)); (first | exact (b2i_f (fun e => g2 e.symm)).symm | (exfalso; omega)))), hfin, Or.inl h160.2.2.1⟩⟩
                    · skip
                      refine x_iconst G (by decide) dX7_same_168 ?_
                      refine x_goto G 173 (by decide) dX7_same_169 ?_
                      exact x_iret G Rt dX7_same_173 ⟨rfl, rfl, _, rfl, ⟨(by unfold qSame; rw [if_pos (by omega), if_pos c25]; (rcases hlk with ⟨g1, g2, g3⟩ | ⟨g1, g2⟩; (first | exact (b2i_t (list_eq g2 (fun j hj => g3 j (by omega))).symm).symm | (exfalso; omega)); (first | exact (b2i_f (fun e => g2 e.symm)).symm | (exfalso; omega)))), hfin, Or.inl h160.2.2.1⟩⟩
                  · skip
                    have hsq := hsv q.toNat (by omega)
                    refine x_aload_n G 0 rfl rfl dX7_same_124 ?_
                    refine x_get G (xR 202) xf7_7 lk_X7_29 (ly_n hY 195 (by decide)) (ly_k hY 195 (by decide)) (Or.inr ⟨rfl, _, (ly_r hY 195 7 (by decide) (by decide)), rfl⟩) dX7_same_125 ?_
                    refine x_iload G 5 rfl dX7_same_128 ?_
                    refine x_iald G (ly_n hY 202 (by decide)) (ly_k hY 202 (by decide)) (show _ = 100 from ly_l hY 202 (by decide)) (by omega) (by omega) dX7_same_130 ?_
                    rw [show M89 202 q.toNat = (((smL W sh).getD q.toNat 0 : Nat) : Int) from (h89.1.2 q.toNat (by omega))]
                    refine x_aload_n G 0 rfl rfl dX7_same_131 ?_
                    refine x_get G (xR 204) xf7_11 lk_X7_35 (ly_n hY 195 (by decide)) (ly_k hY 195 (by decide)) (Or.inr ⟨rfl, _, (ly_r hY 195 11 (by decide) (by decide)), rfl⟩) dX7_same_132 ?_
                    refine x_iload G 5 rfl dX7_same_135 ?_
                    refine x_iald G (ly_n hY 204 (by decide)) (ly_k hY 204 (by decide)) (show _ = 12 from ly_l hY 204 (by decide)) (by omega) (by omega) dX7_same_137 ?_
                    rw [show M89 204 q.toNat = (N1 204 q.toNat) from ((congrFun (h89.2.1.1 204 (by omega)) q.toNat).trans ((congrFun (h84.2.2.2.1 204 (by omega) (by omega)) q.toNat).trans (congrFun (h71.2 204 (by omega)) q.toNat)))]
                    refine x_icmp_ne G 145 (by decide) dX7_same_138 (fun c138 => ?_) (fun c138 => ?_)
                    · skip
                      refine x_iconst G (by decide) dX7_same_145 ?_
                      refine x_istore G [(4, xI 0), (0, xR 195), (1, xI sf), (2, xI sh), (3, xI ((smL V sh).length : Int)), (5, xI q)] (by decide) rfl dX7_same_146 ?_
                      refine x_iinc G [(5, xI (q + 1)), (4, xI 0), (0, xR 195), (1, xI sf), (2, xI sh), (3, xI ((smL V sh).length : Int))] 5 rfl (by decide) (by omega) rfl dX7_same_148 ?_
                      refine x_goto G 110 (by decide) dX7_same_151 ?_
                      refine x_sub [(0, xR 195), (1, xI sf), (2, xI sh), (3, xI ((smL V sh).length : Int)), (4, xI 0), (5, xI (q + 1))] [2, 3, 4, 5, 1, 0] rfl ?_
                      exact ih110 _ (by omega) (q + 1) 0 rfl (by omega) (by (rcases hlk with ⟨g1, g2, g3⟩ | ⟨g1, g2⟩; (first | exact Or.inr ⟨rfl, fun e => absurd (show (smL W sh).getD q.toNat 0 = (smL V sh).getD q.toNat 0 by rw [e]) (by omega)⟩ | exact Or.inl ⟨rfl, g2, fun j hj => by rcases Int.lt_or_le j q with g | g; exact g3 j g; have e : j = q.toNat := (by omega); rw [e]; omega⟩); omega))
                    · skip
                      refine x_iconst G (by decide) dX7_same_141 ?_
                      refine x_goto G 146 (by decide) dX7_same_142 ?_
                      refine x_istore G [(4, xI 1), (0, xR 195), (1, xI sf), (2, xI sh), (3, xI ((smL V sh).length : Int)), (5, xI q)] (by decide) rfl dX7_same_146 ?_
                      refine x_iinc G [(5, xI (q + 1)), (4, xI 1), (0, xR 195), (1, xI sf), (2, xI sh), (3, xI ((smL V sh).length : Int))] 5 rfl (by decide) (by omega) rfl dX7_same_148 ?_
                      refine x_goto G 110 (by decide) dX7_same_151 ?_
                      refine x_sub [(0, xR 195), (1, xI sf), (2, xI sh), (3, xI ((smL V sh).length : Int)), (4, xI 1), (5, xI (q + 1))] [2, 3, 4, 5, 1, 0] rfl ?_
                      exact ih110 _ (by omega) (q + 1) 1 rfl (by omega) (by (rcases hlk with ⟨g1, g2, g3⟩ | ⟨g1, g2⟩; (first | exact Or.inr ⟨rfl, fun e => absurd (show (smL W sh).getD q.toNat 0 = (smL V sh).getD q.toNat 0 by rw [e]) (by omega)⟩ | exact Or.inl ⟨rfl, g2, fun j hj => by rcases Int.lt_or_le j q with g | g; exact g3 j g; have e : j = q.toNat := (by omega); rw [e]; omega⟩); omega))
              refine x_sub [(0, xR 195), (1, xI sf), (2, xI sh), (3, xI ((smL V sh).length : Int)), (4, xI 0), (5, xI 0)] [2, 3, 4, 5, 1, 0] rfl ?_
              exact loop110 _ 0 0 rfl (by omega) (by first | exact Or.inl ⟨rfl, by omega, fun j hj => by omega⟩ | exact Or.inr ⟨rfl, fun e => by have e2 := congrArg List.length e; omega⟩)
            · skip
              refine x_iconst G (by decide) dX7_same_100 ?_
              refine x_goto G 105 (by decide) dX7_same_101 ?_
              refine x_istore G [(4, xI 1), (0, xR 195), (1, xI sf), (2, xI sh), (3, xI ((smL V sh).length : Int))] (by decide) rfl dX7_same_105 ?_
              refine x_iconst G (by decide) dX7_same_107 ?_
              refine x_istore G [(5, xI 0), (4, xI 1), (0, xR 195), (1, xI sf), (2, xI sh), (3, xI ((smL V sh).length : Int))] (by decide) rfl dX7_same_108 ?_
              have loop110 : ∀ (d : Nat) (q : Int) (like : Int), ((smL W sh).length + 1 - q + like).toNat = d → (0 ≤ q ∧ q ≤ (smL W sh).length) → ((like = 1 ∧ (smL W sh).length = (smL V sh).length ∧ ∀ j : Nat, (j : Int) < q → (smL W sh).getD j 0 = (smL V sh).getD j 0) ∨ (like = 0 ∧ ¬ (smL W sh) = (smL V sh))) → xX Γ 0 0 n T 110 [(0, xR 195), (1, xI sf), (2, xI sh), (3, xI ((smL V sh).length : Int)), (4, xI like), (5, xI q)] [] M89 := by
                intro d
                induction d using Nat.strongRecOn with
                | ind d ih110 =>
                intro q like hd110 hq9 hlk
                refine x_iload G 5 rfl dX7_same_110 ?_
                refine x_aload_n G 0 rfl rfl dX7_same_112 ?_
                refine x_get G (xI (M89 195 8)) xf7_8 lk_X7_103 (ly_n hY 195 (by decide)) (ly_k hY 195 (by decide)) (Or.inl ⟨rfl, rfl⟩) dX7_same_113 ?_
                rw [show M89 195 8 = ((smL W sh).length : Int) from h89.1.1]
                refine x_icmp_ge G 154 (by decide) dX7_same_116 (fun c116 => ?_) (fun c116 => ?_)
                · skip
                  refine x_aload_n G 0 rfl rfl dX7_same_154 ?_
                  refine x_aload_n G 0 rfl rfl dX7_same_155 ?_
                  refine x_get G (xR 206) xf7_13 lk_X7_41 (ly_n hY 195 (by decide)) (ly_k hY 195 (by decide)) (Or.inr ⟨rfl, _, (ly_r hY 195 13 (by decide) (by decide)), rfl⟩) dX7_same_156 ?_
                  refine x_iconst G (by decide) dX7_same_159 ?_
                  refine x_callVV G [] [xR 206, xI 0] rfl (by decide) (ly_n hY 195 (by decide)) (ly_k hY 195 (by decide)) hy_X7_exchanges hi_X7_exchanges hs_X7_exchanges ml_X7_205 rfl rfl (kX7_exchanges _ _ 206 511 0 hY (ly_n hY 206 (by decide)) (ly_k hY 206 (by decide)) (show _ = 511 from ly_l hY 206 (by decide)) (by decide) (by omega)) (by decide) (by decide) (Nat.le_of_ble_eq_true rfl) dX7_same_160 (fun M160 h160 => ?_)
                  have hfin : mfr M M160 := ⟨fun q hq => by (by_cases e : q = 196; (subst e; funext k; by_cases g : k < 511; (rw [h160.1 k g, show (0 : Int).toNat + k = k from Nat.zero_add k, h89.2.1.1 206 (by omega), h84.2.2.2.1 206 (by omega) (by omega), h71.1 k g, hf1.1 196 (by omega)]); (rw [h160.2.1 k (by omega), h89.2.1.1 196 (by omega), h84.2.1 k (by omega), h71.2 196 (by omega), hf1.1 196 (by omega)])); (rw [h160.2.2.2.1 q (by omega) e, h89.2.1.1 q (by omega), h84.2.2.2.1 q (by omega) e, h71.2 q (by omega), hf1.1 q (by omega)])), by rw [h160.2.2.2.2 2 (by decide), h89.2.1.2.1, h84.2.2.2.2 2 (by decide), h71.2 195 (by decide)]; exact hf1.2.1, by rw [h160.2.2.2.2 18 (by decide), h89.2.1.2.2, h84.2.2.2.2 18 (by decide), h71.2 195 (by decide)]; exact hf1.2.2⟩
                  refine x_iload G 4 rfl dX7_same_163 ?_
                  refine x_if_eq G 172 (by decide) dX7_same_165 (fun c165 => ?_) (fun c165 => ?_)
                  · skip
                    refine x_iconst G (by decide) dX7_same_172 ?_
                    exact x_iret G Rt dX7_same_173 ⟨rfl, rfl, _, rfl, ⟨(by unfold qSame; rw [if_pos (by omega), if_pos c25]; (rcases hlk with ⟨g1, g2, g3⟩ | ⟨g1, g2⟩; (first | exact (b2i_t (list_eq g2 (fun j hj => g3 j (by omega))).symm).symm | (exfalso; omega)); (first | exact (b2i_f (fun e => g2 e.symm)).symm | (exfalso; omega)))), hfin, Or.inl h160.2.2.1⟩⟩
                  · skip
                    refine x_iconst G (by decide) dX7_same_168 ?_
                    refine x_goto G 173 (by decide) dX7_same_169 ?_
                    exact x_iret G Rt dX7_same_173 ⟨rfl, rfl, _, rfl, ⟨(by unfold qSame; rw [if_pos (by omega), if_pos c25]; (rcases hlk with ⟨g1, g2, g3⟩ | ⟨g1, g2⟩; (first | exact (b2i_t (list_eq g2 (fun j hj => g3 j (by omega))).symm).symm | (exfalso; omega)); (first | exact (b2i_f (fun e => g2 e.symm)).symm | (exfalso; omega)))), hfin, Or.inl h160.2.2.1⟩⟩
                · skip
                  refine x_iload G 4 rfl dX7_same_119 ?_
                  refine x_if_eq G 154 (by decide) dX7_same_121 (fun c121 => ?_) (fun c121 => ?_)
                  · skip
                    refine x_aload_n G 0 rfl rfl dX7_same_154 ?_
                    refine x_aload_n G 0 rfl rfl dX7_same_155 ?_
                    refine x_get G (xR 206) xf7_13 lk_X7_41 (ly_n hY 195 (by decide)) (ly_k hY 195 (by decide)) (Or.inr ⟨rfl, _, (ly_r hY 195 13 (by decide) (by decide)), rfl⟩) dX7_same_156 ?_
                    refine x_iconst G (by decide) dX7_same_159 ?_
                    refine x_callVV G [] [xR 206, xI 0] rfl (by decide) (ly_n hY 195 (by decide)) (ly_k hY 195 (by decide)) hy_X7_exchanges hi_X7_exchanges hs_X7_exchanges ml_X7_205 rfl rfl (kX7_exchanges _ _ 206 511 0 hY (ly_n hY 206 (by decide)) (ly_k hY 206 (by decide)) (show _ = 511 from ly_l hY 206 (by decide)) (by decide) (by omega)) (by decide) (by decide) (Nat.le_of_ble_eq_true rfl) dX7_same_160 (fun M160 h160 => ?_)
                    have hfin : mfr M M160 := ⟨fun q hq => by (by_cases e : q = 196; (subst e; funext k; by_cases g : k < 511; (rw [h160.1 k g, show (0 : Int).toNat + k = k from Nat.zero_add k, h89.2.1.1 206 (by omega), h84.2.2.2.1 206 (by omega) (by omega), h71.1 k g, hf1.1 196 (by omega)]); (rw [h160.2.1 k (by omega), h89.2.1.1 196 (by omega), h84.2.1 k (by omega), h71.2 196 (by omega), hf1.1 196 (by omega)])); (rw [h160.2.2.2.1 q (by omega) e, h89.2.1.1 q (by omega), h84.2.2.2.1 q (by omega) e, h71.2 q (by omega), hf1.1 q (by omega)])), by rw [h160.2.2.2.2 2 (by decide), h89.2.1.2.1, h84.2.2.2.2 2 (by decide), h71.2 195 (by decide)]; exact hf1.2.1, by rw [h160.2.2.2.2 18 (by decide), h89.2.1.2.2, h84.2.2.2.2 18 (by decide), h71.2 195 (by decide)]; exact hf1.2.2⟩
                    refine x_iload G 4 rfl dX7_same_163 ?_
                    refine x_if_eq G 172 (by decide) dX7_same_165 (fun c165 => ?_) (fun c165 => ?_)
                    · skip
                      refine x_iconst G (by decide) dX7_same_172 ?_
                      exact x_iret G Rt dX7_same_173 ⟨rfl, rfl, _, rfl, ⟨(by unfold qSame; rw [if_pos (by omega), if_pos c25]; (rcases hlk with ⟨g1, g2, g3⟩ | ⟨g1, g2⟩; (first | exact (b2i_t (list_eq g2 (fun j hj => g3 j (by omega))).symm).symm | (exfalso; omega)); (first | exact (b2i_f (fun e => g2 e.symm)).symm | (exfalso; omega)))), hfin, Or.inl h160.2.2.1⟩⟩
                    · skip
                      refine x_iconst G (by decide) dX7_same_168 ?_
                      refine x_goto G 173 (by decide) dX7_same_169 ?_
                      exact x_iret G Rt dX7_same_173 ⟨rfl, rfl, _, rfl, ⟨(by unfold qSame; rw [if_pos (by omega), if_pos c25]; (rcases hlk with ⟨g1, g2, g3⟩ | ⟨g1, g2⟩; (first | exact (b2i_t (list_eq g2 (fun j hj => g3 j (by omega))).symm).symm | (exfalso; omega)); (first | exact (b2i_f (fun e => g2 e.symm)).symm | (exfalso; omega)))), hfin, Or.inl h160.2.2.1⟩⟩
                  · skip
                    have hsq := hsv q.toNat (by omega)
                    refine x_aload_n G 0 rfl rfl dX7_same_124 ?_
                    refine x_get G (xR 202) xf7_7 lk_X7_29 (ly_n hY 195 (by decide)) (ly_k hY 195 (by decide)) (Or.inr ⟨rfl, _, (ly_r hY 195 7 (by decide) (by decide)), rfl⟩) dX7_same_125 ?_
                    refine x_iload G 5 rfl dX7_same_128 ?_
                    refine x_iald G (ly_n hY 202 (by decide)) (ly_k hY 202 (by decide)) (show _ = 100 from ly_l hY 202 (by decide)) (by omega) (by omega) dX7_same_130 ?_
                    rw [show M89 202 q.toNat = (((smL W sh).getD q.toNat 0 : Nat) : Int) from (h89.1.2 q.toNat (by omega))]
                    refine x_aload_n G 0 rfl rfl dX7_same_131 ?_
                    refine x_get G (xR 204) xf7_11 lk_X7_35 (ly_n hY 195 (by decide)) (ly_k hY 195 (by decide)) (Or.inr ⟨rfl, _, (ly_r hY 195 11 (by decide) (by decide)), rfl⟩) dX7_same_132 ?_
                    refine x_iload G 5 rfl dX7_same_135 ?_
                    refine x_iald G (ly_n hY 204 (by decide)) (ly_k hY 204 (by decide)) (show _ = 12 from ly_l hY 204 (by decide)) (by omega) (by omega) dX7_same_137 ?_
                    rw [show M89 204 q.toNat = (N1 204 q.toNat) from ((congrFun (h89.2.1.1 204 (by omega)) q.toNat).trans ((congrFun (h84.2.2.2.1 204 (by omega) (by omega)) q.toNat).trans (congrFun (h71.2 204 (by omega)) q.toNat)))]
                    refine x_icmp_ne G 145 (by decide) dX7_same_138 (fun c138 => ?_) (fun c138 => ?_)
                    · skip
                      refine x_iconst G (by decide) dX7_same_145 ?_
                      refine x_istore G [(4, xI 0), (0, xR 195), (1, xI sf), (2, xI sh), (3, xI ((smL V sh).length : Int)), (5, xI q)] (by decide) rfl dX7_same_146 ?_
                      refine x_iinc G [(5, xI (q + 1)), (4, xI 0), (0, xR 195), (1, xI sf), (2, xI sh), (3, xI ((smL V sh).length : Int))] 5 rfl (by decide) (by omega) rfl dX7_same_148 ?_
                      refine x_goto G 110 (by decide) dX7_same_151 ?_
                      refine x_sub [(0, xR 195), (1, xI sf), (2, xI sh), (3, xI ((smL V sh).length : Int)), (4, xI 0), (5, xI (q + 1))] [2, 3, 4, 5, 1, 0] rfl ?_
                      exact ih110 _ (by omega) (q + 1) 0 rfl (by omega) (by (rcases hlk with ⟨g1, g2, g3⟩ | ⟨g1, g2⟩; (first | exact Or.inr ⟨rfl, fun e => absurd (show (smL W sh).getD q.toNat 0 = (smL V sh).getD q.toNat 0 by rw [e]) (by omega)⟩ | exact Or.inl ⟨rfl, g2, fun j hj => by rcases Int.lt_or_le j q with g | g; exact g3 j g; have e : j = q.toNat := (by omega); rw [e]; omega⟩); omega))
                    · skip
                      refine x_iconst G (by decide) dX7_same_141 ?_
                      refine x_goto G 146 (by decide) dX7_same_142 ?_
                      refine x_istore G [(4, xI 1), (0, xR 195), (1, xI sf), (2, xI sh), (3, xI ((smL V sh).length : Int)), (5, xI q)] (by decide) rfl dX7_same_146 ?_
                      refine x_iinc G [(5, xI (q + 1)), (4, xI 1), (0, xR 195), (1, xI sf), (2, xI sh), (3, xI ((smL V sh).length : Int))] 5 rfl (by decide) (by omega) rfl dX7_same_148 ?_
                      refine x_goto G 110 (by decide) dX7_same_151 ?_
                      refine x_sub [(0, xR 195), (1, xI sf), (2, xI sh), (3, xI ((smL V sh).length : Int)), (4, xI 1), (5, xI (q + 1))] [2, 3, 4, 5, 1, 0] rfl ?_
                      exact ih110 _ (by omega) (q + 1) 1 rfl (by omega) (by (rcases hlk with ⟨g1, g2, g3⟩ | ⟨g1, g2⟩; (first | exact Or.inr ⟨rfl, fun e => absurd (show (smL W sh).getD q.toNat 0 = (smL V sh).getD q.toNat 0 by rw [e]) (by omega)⟩ | exact Or.inl ⟨rfl, g2, fun j hj => by rcases Int.lt_or_le j q with g | g; exact g3 j g; have e : j = q.toNat := (by omega); rw [e]; omega⟩); omega))
              refine x_sub [(0, xR 195), (1, xI sf), (2, xI sh), (3, xI ((smL V sh).length : Int)), (4, xI 1), (5, xI 0)] [2, 3, 4, 5, 1, 0] rfl ?_
              exact loop110 _ 0 1 rfl (by omega) (by first | exact Or.inl ⟨rfl, by omega, fun j hj => by omega⟩ | exact Or.inr ⟨rfl, fun e => by have e2 := congrArg List.length e; omega⟩)
          · skip
            refine x_aload_n G 0 rfl rfl dX7_same_50 ?_
            refine x_get G (xR 204) xf7_11 lk_X7_35 (ly_n hY 195 (by decide)) (ly_k hY 195 (by decide)) (Or.inr ⟨rfl, _, (ly_r hY 195 11 (by decide) (by decide)), rfl⟩) dX7_same_51 ?_
            refine x_iload G 4 rfl dX7_same_54 ?_
            refine x_aload_n G 0 rfl rfl dX7_same_56 ?_
            refine x_get G (xR 202) xf7_7 lk_X7_29 (ly_n hY 195 (by decide)) (ly_k hY 195 (by decide)) (Or.inr ⟨rfl, _, (ly_r hY 195 7 (by decide) (by decide)), rfl⟩) dX7_same_57 ?_
            refine x_iload G 4 rfl dX7_same_60 ?_
            refine x_iald G (ly_n hY 202 (by decide)) (ly_k hY 202 (by decide)) (show _ = 100 from ly_l hY 202 (by decide)) (by omega) (by omega) dX7_same_62 ?_
            rw [show N1 202 k.toNat = (((smL V sh).getD k.toNat 0 : Nat) : Int) from (hw1.2 k.toNat (by omega))]
            refine x_iast G (ly_n hY 204 (by decide)) (ly_k hY 204 (by decide)) (show _ = 12 from ly_l hY 204 (by decide)) (by omega) (by omega) dX7_same_63 ?_
            refine x_iinc G [(4, xI (k + 1)), (0, xR 195), (1, xI sf), (2, xI sh), (3, xI ((smL V sh).length : Int))] 4 rfl (by decide) (by omega) rfl dX7_same_64 ?_
            refine x_goto G 44 (by decide) dX7_same_67 ?_
            refine x_sub [(0, xR 195), (1, xI sf), (2, xI sh), (3, xI ((smL V sh).length : Int)), (4, xI (k + 1))] [1, 2, 3, 4, 0] rfl ?_
            exact ih44 _ (by omega) (k + 1) (xst N1 204 k.toNat (((smL V sh).getD k.toNat 0 : Nat) : Int)) rfl (by omega) ((mfr_st hf1 (by omega))) ((rk_cg hR1 (xst_nq (by omega)) (xst_row (by omega)))) ((rw_cg hw1 (xst_nq (by omega)) (xst_row (by omega)))) ((sav_st hsv hk.1))
        refine x_sub [(0, xR 195), (1, xI sf), (2, xI sh), (3, xI ((smL V sh).length : Int)), (4, xI 0)] [2, 3, 4, 1, 0] rfl ?_
        exact loop44 _ 0 M33 rfl (by omega) ((mfr_tr (mfr_refl _) (mfx_w 207 h33.2.1 (by decide)))) (h33.2.2) (h33.1) (fun j hj => by omega)
      · skip
        have c25 := b2i_eq0.mp c25
        refine x_bipush G (by decide) dX7_same_28 ?_
        exact x_iret G Rt dX7_same_30 ⟨rfl, rfl, _, rfl, ⟨(by unfold qSame; rw [if_pos (by omega), if_neg c25]), mfr_refl _, hR⟩⟩
    · skip
      have c14 := b2i_eq0.mp c14
      refine x_iconst G (by decide) dX7_same_17 ?_
      exact x_iret G Rt dX7_same_18 ⟨rfl, rfl, _, rfl, ⟨(by unfold qSame; (repeat (first | rw [if_pos (by omega)] | rw [if_neg (by omega)])) <;> try rfl), mfr_refl _, hR⟩⟩
