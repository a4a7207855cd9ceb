theorem mh_add {M M2 V : xM} {Hs : List xM} {sf : Nat} (h : mhst M Hs) (hv : VOK V) (hN : mrel (M 196) V) (h1 : M2 195 2 = (min 10 (Hs.length + 1) : Nat)) (hsf : sf = if Hs.length = 10 then 511 else 0) (hold : ∀ j : Nat, j < 511 * (min 10 (Hs.length + 1) - 1) → M2 197 j = M 197 (j + sf)) (hnew : ∀ j : Nat, j < 511 → M2 197 (511 * (min 10 (Hs.length + 1) - 1) + j) = M 196 j) : mhst M2 ((V :: Hs).take 10) := by
  obtain ⟨g1, g2, g3⟩ := h
  have el : ((V :: Hs).take 10).length = min 10 (Hs.length + 1) := by rw [List.length_take]; rfl
  refine ⟨by rw [h1, el], by omega, fun j hj => ?_⟩
  rw [el] at hj
  have eg : ((V :: Hs).take 10).getD j v0 = (V :: Hs).getD j v0 := by
    simp only [List.getD]
    rw [List.getElem?_take_of_lt (by omega)]
  rw [eg, el]
  cases j with
  | zero =>
    refine ⟨hv, mr_lt hv hN (fun k hk => ?_)⟩
    exact hnew k hk
  | succ j =>
    have g := g3 j (by omega)
    refine ⟨g.1, mr_lt g.1 g.2 (fun k hk => ?_)⟩
    show M2 197 (511 * (min 10 (Hs.length + 1) - 1 - (j + 1)) + k) = M 197 (511 * (Hs.length - 1 - j) + k)
    rw [hold _ (by omega)]
    congr 1
    by_cases e : Hs.length = 10
    · rw [hsf, if_pos e]; omega
    · rw [hsf, if_neg e]; omega
set_option maxRecDepth 100000 in
set_option maxHeartbeats 4000000 in
theorem kX7_keepsAct (D : xD) (l : Launch) {n : Nat} {T : xT} {M : xM} (V : xM) (Hs : List xM) (hY : LayOK n T) (hN : mrel (M 196) V) (hv : VOK V) (hH : mhst M Hs) : xC D l uX7_keepsAct 0 0 0 0 [xR 195] n T M (xPV n T (fun M2 => mhst M2 ((V :: Hs).take 10) ∧ M2 195 10 = 0 ∧ (∀ q, q ≠ 195 → q ≠ 197 → M2 q = M q) ∧ ∀ j, j ≠ 2 → j ≠ 10 → M2 195 j = M 195 j)) := by
  refine x_met uX7_keepsAct (by decide) (Nat.le_of_ble_eq_true rfl) ?_
  intro Γ G Rt _
  have G : xG Γ RX7 cX7_keepsAct 2 0 0 0 0 := G
  have Rt : xRt Γ (xPV n T (fun M2 => mhst M2 ((V :: Hs).take 10) ∧ M2 195 10 = 0 ∧ (∀ q, q ≠ 195 → q ≠ 197 → M2 q = M q) ∧ ∀ j, j ≠ 2 → j ≠ 10 → M2 195 j = M 195 j)) none 0 0 := Rt
  show xX Γ 0 0 n T 0 [(0, xR 195)] [] M
  have hu := hH.1
  have hu2 := hH.2.1
  refine x_aload_n G 0 rfl rfl dX7_keepsAct_0 ?_
  refine x_get G (xI (M 195 2)) xf7_2 lk_X7_209 (ly_n hY 195 (by decide)) (ly_k hY 195 (by decide)) (Or.inl ⟨rfl, rfl⟩) dX7_keepsAct_1 ?_
  have join52 : ∀ (M5 : xM) (sf : Nat), (M5 195 2 = ((min 10 (Hs.length + 1) - 1) : Nat)) → (sf = if Hs.length = 10 then 511 else 0) → (∀ j : Nat, j < 511 * (min 10 (Hs.length + 1) - 1) → M5 197 j = M 197 (j + sf)) → (∀ q, q ≠ 195 → q ≠ 197 → M5 q = M q) → (∀ j, j ≠ 2 → M5 195 j = M 195 j) → xX Γ 0 0 n T 52 [(0, xR 195)] [] M5 := by
    intro M5 sf hu5 hsf hold hf5 hs5
    refine x_iconst G (by decide) dX7_keepsAct_52 ?_
    refine x_istore_n G [(1, xI 0), (0, xR 195)] rfl (by decide) rfl dX7_keepsAct_53 ?_
    have loop54 : ∀ (d : Nat) (k : Int) (N1 : xM), (511 - k).toNat = d → (0 ≤ k ∧ k ≤ 511) → (∀ q, q ≠ 197 → N1 q = M5 q) → (∀ j : Nat, (j : Int) < k → N1 197 (511 * (min 10 (Hs.length + 1) - 1) + j) = M 196 j) → (∀ j : Nat, j < 511 * (min 10 (Hs.length + 1) - 1) → N1 197 j = M5 197 j) → xX Γ 0 0 n T 54 [(0, xR 195), (1, xI k)] [] N1 := by
      intro d
      induction d using Nat.strongRecOn with
      | ind d ih54 =>
      intro k N1 hd54 hk hfr hlo hhi
      have hun : N1 195 2 = M5 195 2 := by rw [hfr 195 (by decide)]
      refine x_iload_n G 1 rfl rfl dX7_keepsAct_54 ?_
      refine x_sipush G (by decide) dX7_keepsAct_55 ?_
      refine x_icmp_ge G 88 (by decide) dX7_keepsAct_58 (fun c58 => ?_) (fun c58 => ?_)
      · skip
        refine x_aload_n G 0 rfl rfl dX7_keepsAct_88 ?_
        refine x_dup G rfl dX7_keepsAct_89 ?_
        refine x_get G (xI (N1 195 2)) xf7_2 lk_X7_209 (ly_n hY 195 (by decide)) (ly_k hY 195 (by decide)) (Or.inl ⟨rfl, rfl⟩) dX7_keepsAct_90 ?_
        refine x_iconst G (by decide) dX7_keepsAct_93 ?_
        refine x_iadd G (by omega) dX7_keepsAct_94 ?_
        refine x_put G  xf7_2 lk_X7_209 (ly_n hY 195 (by decide)) (ly_k hY 195 (by decide)) rfl dX7_keepsAct_95 ?_
        refine x_aload_n G 0 rfl rfl dX7_keepsAct_98 ?_
        refine x_iconst G (by decide) dX7_keepsAct_99 ?_
        refine x_putz G (by omega) xf7_10 lk_X7_107 (ly_n hY 195 (by decide)) (ly_k hY 195 (by decide)) rfl dX7_keepsAct_100 ?_
        exact x_vret G Rt dX7_keepsAct_103 ⟨rfl, rfl, rfl, ⟨mh_add (sf := sf) hH hv hN (by rw [xst_nq (by omega), xst_same]; omega) hsf (fun j hj => by rw [xst_row (by decide), xst_row (by decide), hhi j hj]; exact hold j hj) (fun j hj => by rw [xst_row (by decide), xst_row (by decide)]; exact hlo j (by omega)), xst_same .., fun q h1 h2 => by rw [xst_row h1, xst_row h1, hfr q h2]; exact hf5 q h1 h2, fun j h1 h2 => by rw [xst_nq (Or.inr h2), xst_nq (Or.inr h1), hfr 195 (by decide)]; exact hs5 j h1⟩⟩
      · skip
        refine x_aload_n G 0 rfl rfl dX7_keepsAct_61 ?_
        refine x_get G (xR 197) xf7_1 lk_X7_13 (ly_n hY 195 (by decide)) (ly_k hY 195 (by decide)) (Or.inr ⟨rfl, _, (ly_r hY 195 1 (by decide) (by decide)), rfl⟩) dX7_keepsAct_62 ?_
        refine x_sipush G (by decide) dX7_keepsAct_65 ?_
        refine x_aload_n G 0 rfl rfl dX7_keepsAct_68 ?_
        refine x_get G (xI (N1 195 2)) xf7_2 lk_X7_209 (ly_n hY 195 (by decide)) (ly_k hY 195 (by decide)) (Or.inl ⟨rfl, rfl⟩) dX7_keepsAct_69 ?_
        refine x_imul G (by omega) dX7_keepsAct_72 ?_
        refine x_iload_n G 1 rfl rfl dX7_keepsAct_73 ?_
        refine x_iadd G (by omega) dX7_keepsAct_74 ?_
        refine x_aload_n G 0 rfl rfl dX7_keepsAct_75 ?_
        refine x_get G (xR 196) xf7_0 lk_X7_7 (ly_n hY 195 (by decide)) (ly_k hY 195 (by decide)) (Or.inr ⟨rfl, _, (ly_r hY 195 0 (by decide) (by decide)), rfl⟩) dX7_keepsAct_76 ?_
        refine x_iload_n G 1 rfl rfl dX7_keepsAct_79 ?_
        refine x_iald G (ly_n hY 196 (by decide)) (ly_k hY 196 (by decide)) (show _ = 511 from ly_l hY 196 (by decide)) (by omega) (by omega) dX7_keepsAct_80 ?_
        refine x_iast G (ly_n hY 197 (by decide)) (ly_k hY 197 (by decide)) (show _ = 5110 from ly_l hY 197 (by decide)) (by omega) (by omega) dX7_keepsAct_81 ?_
        refine x_iinc G [(1, xI (k + 1)), (0, xR 195)] 1 rfl (by decide) (by omega) rfl dX7_keepsAct_82 ?_
        refine x_goto G 54 (by decide) dX7_keepsAct_85 ?_
        refine x_sub [(0, xR 195), (1, xI (k + 1))] [1, 0] rfl ?_
        exact ih54 _ (by omega) (k + 1) (xst N1 197 ((511 * (N1 195 2)) + k).toNat (N1 196 k.toNat)) rfl (by omega) (fun q hq => (xst_row hq).trans (hfr q hq)) (by intro j hj; rw [xst_eq]; by_cases e : j = k.toNat; (rw [if_pos ⟨rfl, by omega⟩, hfr 196 (by decide), hf5 196 (by decide) (by decide), e]); (rw [if_neg (fun h => e (by have := h.2; omega))]; exact hlo j (by omega))) (fun j hj => (xst_nq (by omega)).trans (hhi j hj))
    refine x_sub [(0, xR 195), (1, xI 0)] [1, 0] rfl ?_
    exact loop54 _ 0 M5 rfl (by omega) (fun _ _ => rfl) (fun j hj => by omega) (fun _ _ => rfl)
  refine x_bipush G (by decide) dX7_keepsAct_4 ?_
  refine x_icmp_ne G 52 (by decide) dX7_keepsAct_6 (fun c6 => ?_) (fun c6 => ?_)
  · skip
    refine x_sub [(0, xR 195)] [0] rfl ?_
    exact join52 M 0 (by (first | (rw [xst_same]; omega) | omega)) (by first | rw [if_pos (by omega)] | rw [if_neg (by omega)]) (by intro j hj; first | rfl | (rw [xst_row (by decide)]; exact hlo j (by omega))) (fun q h1 h2 => by first | rfl | exact (xst_row h1).trans (hfr q h2)) (fun j h1 => by first | rfl | (rw [xst_nq (Or.inr h1), hfr 195 (by decide)]))
  · skip
    refine x_sipush G (by decide) dX7_keepsAct_9 ?_
    refine x_istore_n G [(1, xI 511), (0, xR 195)] rfl (by decide) rfl dX7_keepsAct_12 ?_
    have loop13 : ∀ (d : Nat) (k : Int) (N1 : xM), (5110 - k).toNat = d → (511 ≤ k ∧ k ≤ 5110) → (∀ q, q ≠ 197 → N1 q = M q) → (∀ j : Nat, (j : Int) < k - 511 → N1 197 j = M 197 (j + 511)) → (∀ j : Nat, k - 511 ≤ j → N1 197 j = M 197 j) → xX Γ 0 0 n T 13 [(0, xR 195), (1, xI k)] [] N1 := by
      intro d
      induction d using Nat.strongRecOn with
      | ind d ih13 =>
      intro k N1 hd13 hk hfr hlo hhi
      have hun0 : N1 195 2 = M 195 2 := by rw [hfr 195 (by decide)]
      refine x_iload_n G 1 rfl rfl dX7_keepsAct_13 ?_
      refine x_sipush G (by decide) dX7_keepsAct_14 ?_
      refine x_icmp_ge G 42 (by decide) dX7_keepsAct_17 (fun c17 => ?_) (fun c17 => ?_)
      · skip
        refine x_aload_n G 0 rfl rfl dX7_keepsAct_42 ?_
        refine x_dup G rfl dX7_keepsAct_43 ?_
        refine x_get G (xI (N1 195 2)) xf7_2 lk_X7_209 (ly_n hY 195 (by decide)) (ly_k hY 195 (by decide)) (Or.inl ⟨rfl, rfl⟩) dX7_keepsAct_44 ?_
        refine x_iconst G (by decide) dX7_keepsAct_47 ?_
        refine x_isub G (by omega) dX7_keepsAct_48 ?_
        refine x_put G  xf7_2 lk_X7_209 (ly_n hY 195 (by decide)) (ly_k hY 195 (by decide)) rfl dX7_keepsAct_49 ?_
        refine x_sub [(0, xR 195)] [0] rfl ?_
        exact join52 (xst N1 195 2 ((N1 195 2) - 1)) 511 (by (first | (rw [xst_same]; omega) | omega)) (by first | rw [if_pos (by omega)] | rw [if_neg (by omega)]) (by intro j hj; first | rfl | (rw [xst_row (by decide)]; exact hlo j (by omega))) (fun q h1 h2 => by first | rfl | exact (xst_row h1).trans (hfr q h2)) (fun j h1 => by first | rfl | (rw [xst_nq (Or.inr h1), hfr 195 (by decide)]))
      · skip
        refine x_aload_n G 0 rfl rfl dX7_keepsAct_20 ?_
        refine x_get G (xR 197) xf7_1 lk_X7_13 (ly_n hY 195 (by decide)) (ly_k hY 195 (by decide)) (Or.inr ⟨rfl, _, (ly_r hY 195 1 (by decide) (by decide)), rfl⟩) dX7_keepsAct_21 ?_
        refine x_iload_n G 1 rfl rfl dX7_keepsAct_24 ?_
        refine x_sipush G (by decide) dX7_keepsAct_25 ?_
        refine x_isub G (by omega) dX7_keepsAct_28 ?_
        refine x_aload_n G 0 rfl rfl dX7_keepsAct_29 ?_
        refine x_get G (xR 197) xf7_1 lk_X7_13 (ly_n hY 195 (by decide)) (ly_k hY 195 (by decide)) (Or.inr ⟨rfl, _, (ly_r hY 195 1 (by decide) (by decide)), rfl⟩) dX7_keepsAct_30 ?_
        refine x_iload_n G 1 rfl rfl dX7_keepsAct_33 ?_
        refine x_iald G (ly_n hY 197 (by decide)) (ly_k hY 197 (by decide)) (show _ = 5110 from ly_l hY 197 (by decide)) (by omega) (by omega) dX7_keepsAct_34 ?_
        refine x_iast G (ly_n hY 197 (by decide)) (ly_k hY 197 (by decide)) (show _ = 5110 from ly_l hY 197 (by decide)) (by omega) (by omega) dX7_keepsAct_35 ?_
        refine x_iinc G [(1, xI (k + 1)), (0, xR 195)] 1 rfl (by decide) (by omega) rfl dX7_keepsAct_36 ?_
        refine x_goto G 13 (by decide) dX7_keepsAct_39 ?_
        refine x_sub [(0, xR 195), (1, xI (k + 1))] [1, 0] rfl ?_
        exact ih13 _ (by omega) (k + 1) (xst N1 197 (k - 511).toNat (N1 197 k.toNat)) rfl (by omega) (fun q hq => (xst_row hq).trans (hfr q hq)) (by intro j hj; rw [xst_eq]; by_cases e : j = (k - 511).toNat; (rw [if_pos ⟨rfl, e⟩, hhi k.toNat (by omega)]; congr 1; omega); (rw [if_neg (fun h => e h.2)]; exact hlo j (by omega))) (fun j hj => (xst_nq (by omega)).trans (hhi j (by omega)))
    refine x_sub [(0, xR 195), (1, xI 511)] [1, 0] rfl ?_
    exact loop13 _ 511 M rfl (by omega) (fun _ _ => rfl) (fun j hj => by omega) (fun _ _ => rfl)
