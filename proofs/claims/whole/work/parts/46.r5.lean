theorem in_by {V : xM} (hv : VOK V) (hs : Srt V (V 10) (V 0 10).toNat) {i : Nat} {T w : Int} (hi : (i : Int) < V 0 10) (h9 : V 9 i = 0) (hT : 0 ≤ T) : i ∈ (alL V (V 4 i) T w (V 0 10)).take (V 11 (V 4 i).toNat).toNat ↔ inBy V i (if w = 0 then -1 else T - w) := by
  have hit := hv.2.2.1 i hi
  have hsw := ok_s hv hit.1.1 hit.1.2
  have key := in_take (V := V) hs (fun j : Nat => (j : Int) < V 0 10 ∧ V 9 j = 0 ∧ V 4 j = V 4 i ∧ (w = 0 ∨ T - w < V 8 j)) (V 11 (V 4 i).toNat).toNat i
  have hx : ∀ j : Nat, (j : Int) < V 0 10 → ((w = 0 ∨ T - w < V 8 j) ↔ (if w = 0 then -1 else T - w) < V 8 j) := fun j hj => by
    have := (hv.2.2.1 j hj).2.2.2.2.1
    by_cases e : w = 0
    · rw [if_pos e]; exact ⟨fun _ => by omega, fun _ => Or.inl e⟩
    · rw [if_neg e]; exact ⟨fun g => g.resolve_left e, fun g => Or.inr g⟩
  have e := si_cg (P := fun j : Nat => ((j : Int) < V 0 10 ∧ V 9 j = 0 ∧ V 4 j = V 4 i ∧ (w = 0 ∨ T - w < V 8 j)) ∧ ahd V j i) (Q := fun j : Nat => riv V i j ∧ (if w = 0 then -1 else T - w) < V 8 j) (n := (V 0 10).toNat) (fun j hj => by
    have h9 := hx j (by omega)
    constructor
    · rintro ⟨⟨g1, g2, g3, g4⟩, g5⟩
      exact ⟨⟨⟨g2, Or.inr g3, Or.inl rfl⟩, g5⟩, h9.mp g4⟩
    · rintro ⟨⟨⟨g2, g3, _⟩, g5⟩, g4⟩
      exact ⟨⟨by omega, g2, by have := hit.1; omega, h9.mpr g4⟩, g5⟩)
  have e9 : (alL V (V 4 i) T w (V 0 10)).take (V 11 (V 4 i).toNat).toNat = ((rkl V).filter fun j : Nat => decide ((j : Int) < V 0 10 ∧ V 9 j = 0 ∧ V 4 j = V 4 i ∧ (w = 0 ∨ T - w < V 8 j))).take (V 11 (V 4 i).toNat).toNat := rfl
  rw [e9]
  refine Iff.trans key ?_
  unfold inBy
  rw [← e, ← hx i hi]
  constructor
  · rintro ⟨_, g1, g2⟩
    exact ⟨g1.2.2.2, by omega⟩
  · rintro ⟨g1, g2⟩
    exact ⟨hi, ⟨hi, h9, rfl, g1⟩, by omega⟩
theorem inBy_cg {V : xM} {i : Nat} {x y : Int} (h0 : x < V 8 i ↔ y < V 8 i) (h : ∀ j : Nat, (j : Int) < V 0 10 → und V j (V 4 i) (-1) → (x < V 8 j ↔ y < V 8 j)) : inBy V i x ↔ inBy V i y := by
  unfold inBy
  rw [h0, si_cg (P := fun j => riv V i j ∧ x < V 8 j) (Q := fun j => riv V i j ∧ y < V 8 j) (fun j hj => ⟨fun g => ⟨g.1, (h j (by omega) g.1.1).mp g.2⟩, fun g => ⟨g.1, (h j (by omega) g.1.1).mpr g.2⟩⟩)]
set_option maxRecDepth 100000 in
set_option maxHeartbeats 4000000 in
theorem kX7_lessWindow (D : xD) (l : Launch) {n : Nat} {T : xT} {M : xM} (V : xM) (sh w : Int) (hY : LayOK n T) (hN : mrel (M 196) V) (hv : VOK V) (hsh : okS sh) (hw : 1 ≤ w ∧ w ≤ 9999) : xC D l uX7_lessWindow 2 43 0 0 [xR 195, xI sh, xI w] n T M (xPI n T (fun z M2 => ((0 ≤ z ∧ z < w) ∧ ∀ j : Nat, (j : Int) < V 0 10 → V 9 j = 0 → V 4 j = sh → V 0 11 - V 8 j < w → V 0 11 - V 8 j ≤ z) ∧ M2 = M)) := by
  refine x_met uX7_lessWindow (by decide) (Nat.le_of_ble_eq_true rfl) ?_
  intro Γ G Rt _
  have G : xG Γ RX7 cX7_lessWindow 6 2 43 0 0 := G
  have Rt : xRt Γ (xPI n T (fun z M2 => ((0 ≤ z ∧ z < w) ∧ ∀ j : Nat, (j : Int) < V 0 10 → V 9 j = 0 → V 4 j = sh → V 0 11 - V 8 j < w → V 0 11 - V 8 j ≤ z) ∧ M2 = M)) (some .int) 0 0 := Rt
  show xX Γ 0 0 n T 0 [(0, xR 195), (1, xI sh), (2, xI w)] [] M
  have hc := ok_c hv
  have hsc := hv.1
  refine x_iconst G (by decide) dX7_lessWindow_0 ?_
  refine x_istore_n G [(3, xI 0), (0, xR 195), (1, xI sh), (2, xI w)] rfl (by decide) rfl dX7_lessWindow_1 ?_
  refine x_iconst G (by decide) dX7_lessWindow_2 ?_
  refine x_istore G [(4, xI 0), (3, xI 0), (0, xR 195), (1, xI sh), (2, xI w)] (by decide) rfl dX7_lessWindow_3 ?_
  have loop5 : ∀ (d : Nat) (k : Int) (b : Int), (V 0 10 - k).toNat = d → (0 ≤ k ∧ k ≤ V 0 10) → (0 ≤ b ∧ b < w) → (∀ j : Nat, (j : Int) < k → V 9 j = 0 → V 4 j = sh → V 0 11 - V 8 j < w → V 0 11 - V 8 j ≤ b) → xX Γ 0 0 n T 5 [(0, xR 195), (1, xI sh), (2, xI w), (3, xI b), (4, xI k)] [] M := by
    intro d
    induction d using Nat.strongRecOn with
    | ind d ih5 =>
    intro k b hd5 hk hb hq
    refine x_iload G 4 rfl dX7_lessWindow_5 ?_
    refine x_aload_n G 0 rfl rfl dX7_lessWindow_7 ?_
    refine x_get G (xR 196) xf7_0 lk_X7_7 (ly_n hY 195 (by decide)) (ly_k hY 195 (by decide)) (Or.inr ⟨rfl, _, (ly_r hY 195 0 (by decide) (by decide)), rfl⟩) dX7_lessWindow_8 ?_
    refine x_iconst G (by decide) dX7_lessWindow_11 ?_
    refine x_iald G (ly_n hY 196 (by decide)) (ly_k hY 196 (by decide)) (show _ = 511 from ly_l hY 196 (by decide)) (by omega) (by omega) dX7_lessWindow_12 ?_
    show xX Γ 0 0 n T 13 [(0, xR 195), (1, xI sh), (2, xI w), (3, xI b), (4, xI k)] [xI (M 196 2), xI k] M
    rw [show M 196 2 = (V 0 10) from hN.1.2.2]
    refine x_icmp_ge G 63 (by decide) dX7_lessWindow_13 (fun c13 => ?_) (fun c13 => ?_)
    · skip
      refine x_iload_n G 3 rfl rfl dX7_lessWindow_63 ?_
      exact x_iret G Rt dX7_lessWindow_64 ⟨rfl, rfl, _, rfl, ⟨⟨hb, fun j h1 => hq j (by omega)⟩, rfl⟩⟩
    · skip
      have hit := ok_i hv hk.1 (by omega)
      refine x_aload_n G 0 rfl rfl dX7_lessWindow_16 ?_
      refine x_get G (xR 196) xf7_0 lk_X7_7 (ly_n hY 195 (by decide)) (ly_k hY 195 (by decide)) (Or.inr ⟨rfl, _, (ly_r hY 195 0 (by decide) (by decide)), rfl⟩) dX7_lessWindow_17 ?_
      refine x_iconst G (by decide) dX7_lessWindow_20 ?_
      refine x_iald G (ly_n hY 196 (by decide)) (ly_k hY 196 (by decide)) (show _ = 511 from ly_l hY 196 (by decide)) (by omega) (by omega) dX7_lessWindow_21 ?_
      show xX Γ 0 0 n T 22 [(0, xR 195), (1, xI sh), (2, xI w), (3, xI b), (4, xI k)] [xI (M 196 0)] M
      rw [show M 196 0 = (V 0 11) from hN.1.1]
      refine x_aload_n G 0 rfl rfl dX7_lessWindow_22 ?_
      refine x_iload G 4 rfl dX7_lessWindow_23 ?_
      refine x_iconst G (by decide) dX7_lessWindow_25 ?_
      refine x_callVp G [xI (V 0 11)] [xI k, xI 4] rfl (by decide) (ly_n hY 195 (by decide)) (ly_k hY 195 (by decide)) hy_X7_item hi_X7_item hs_X7_item ml_X7_58 rfl rfl (kX7_item_4 _ _ V k hY hN hv (by omega)) (by decide) (by decide) (Nat.le_of_ble_eq_true rfl) dX7_lessWindow_26 ?_
      refine x_isub G (by omega) dX7_lessWindow_29 ?_
      refine x_istore G [(5, xI ((V 0 11) - (V 8 k.toNat))), (0, xR 195), (1, xI sh), (2, xI w), (3, xI b), (4, xI k)] (by decide) rfl dX7_lessWindow_30 ?_
      refine x_aload_n G 1 rfl rfl dX7_lessWindow_32 ?_
      refine x_iload G 5 rfl dX7_lessWindow_33 ?_
      refine x_callVp G [] [xI k] rfl (by decide) (ly_n hY 195 (by decide)) (ly_k hY 195 (by decide)) hy_X7_shardOf hi_X7_shardOf hs_X7_shardOf ml_X7_62 rfl rfl (kX7_shardOf _ _ V k hY hN hv (by omega)) (by decide) (by decide) (Nat.le_of_ble_eq_true rfl) dX7_lessWindow_35 ?_
      refine x_iload_n G 2 rfl rfl dX7_lessWindow_38 ?_
      refine x_icmp_ne G 57 (by decide) dX7_lessWindow_39 (fun c39 => ?_) (fun c39 => ?_)
      · skip
        refine x_iinc G [(4, xI (k + 1)), (5, xI ((V 0 11) - (V 8 k.toNat))), (0, xR 195), (1, xI sh), (2, xI w), (3, xI b)] 5 rfl (by decide) (by omega) rfl dX7_lessWindow_57 ?_
        refine x_goto G 5 (by decide) dX7_lessWindow_60 ?_
        refine x_sub [(0, xR 195), (1, xI sh), (2, xI w), (3, xI b), (4, xI (k + 1))] [2, 3, 4, 5, 0] rfl ?_
        exact ih5 _ (by omega) (k + 1) b rfl (by omega) (by omega) (by intro j h1 h2 h3 h4; rcases Int.lt_or_le j k with g | g; (have := hq j g h2 h3 h4; omega); (have e : j = k.toNat := (by omega); subst e; omega))
      · skip
        refine x_iload G 0 rfl dX7_lessWindow_42 ?_
        refine x_iload_n G 3 rfl rfl dX7_lessWindow_44 ?_
        refine x_icmp_ge G 57 (by decide) dX7_lessWindow_45 (fun c45 => ?_) (fun c45 => ?_)
        · skip
          refine x_iinc G [(4, xI (k + 1)), (5, xI ((V 0 11) - (V 8 k.toNat))), (0, xR 195), (1, xI sh), (2, xI w), (3, xI b)] 5 rfl (by decide) (by omega) rfl dX7_lessWindow_57 ?_
          refine x_goto G 5 (by decide) dX7_lessWindow_60 ?_
          refine x_sub [(0, xR 195), (1, xI sh), (2, xI w), (3, xI b), (4, xI (k + 1))] [2, 3, 4, 5, 0] rfl ?_
          exact ih5 _ (by omega) (k + 1) b rfl (by omega) (by omega) (by intro j h1 h2 h3 h4; rcases Int.lt_or_le j k with g | g; (have := hq j g h2 h3 h4; omega); (have e : j = k.toNat := (by omega); subst e; omega))
        · skip
          refine x_iload G 0 rfl dX7_lessWindow_48 ?_
          refine x_iload_n G 4 rfl rfl dX7_lessWindow_50 ?_
          refine x_icmp_le G 57 (by decide) dX7_lessWindow_51 (fun c51 => ?_) (fun c51 => ?_)
          · skip
            refine x_iinc G [(4, xI (k + 1)), (5, xI ((V 0 11) - (V 8 k.toNat))), (0, xR 195), (1, xI sh), (2, xI w), (3, xI b)] 5 rfl (by decide) (by omega) rfl dX7_lessWindow_57 ?_
            refine x_goto G 5 (by decide) dX7_lessWindow_60 ?_
            refine x_sub [(0, xR 195), (1, xI sh), (2, xI w), (3, xI b), (4, xI (k + 1))] [2, 3, 4, 5, 0] rfl ?_
            exact ih5 _ (by omega) (k + 1) b rfl (by omega) (by omega) (by intro j h1 h2 h3 h4; rcases Int.lt_or_le j k with g | g; (have := hq j g h2 h3 h4; omega); (have e : j = k.toNat := (by omega); subst e; omega))
          · skip
            refine x_iload G 0 rfl dX7_lessWindow_54 ?_
            refine x_istore_n G [(3, xI ((V 0 11) - (V 8 k.toNat))), (5, xI ((V 0 11) - (V 8 k.toNat))), (0, xR 195), (1, xI sh), (2, xI w), (4, xI k)] rfl (by decide) rfl dX7_lessWindow_56 ?_
            refine x_iinc G [(4, xI (k + 1)), (3, xI ((V 0 11) - (V 8 k.toNat))), (5, xI ((V 0 11) - (V 8 k.toNat))), (0, xR 195), (1, xI sh), (2, xI w)] 5 rfl (by decide) (by omega) rfl dX7_lessWindow_57 ?_
            refine x_goto G 5 (by decide) dX7_lessWindow_60 ?_
            refine x_sub [(0, xR 195), (1, xI sh), (2, xI w), (3, xI ((V 0 11) - (V 8 k.toNat))), (4, xI (k + 1))] [3, 4, 5, 1, 0] rfl ?_
            exact ih5 _ (by omega) (k + 1) ((V 0 11) - (V 8 k.toNat)) rfl (by omega) (by omega) (by intro j h1 h2 h3 h4; rcases Int.lt_or_le j k with g | g; (have := hq j g h2 h3 h4; omega); (have e : j = k.toNat := (by omega); subst e; omega))
  refine x_sub [(0, xR 195), (1, xI sh), (2, xI w), (3, xI 0), (4, xI 0)] [2, 3, 4, 1, 0] rfl ?_
  exact loop5 _ 0 0 rfl (by omega) (by omega) (fun j h1 => by omega)
set_option maxRecDepth 100000 in
set_option maxHeartbeats 4000000 in
theorem kX7_nextDeath (D : xD) (l : Launch) {n : Nat} {T : xT} {M : xM} (V : xM) (sh t : Int) (hY : LayOK n T) (hN : mrel (M 196) V) (hv : VOK V) (hsh : okS sh) (ht : 0 ≤ t) : xC D l uX7_nextDeath 2 43 0 0 [xR 195, xI sh, xI t] n T M (xPI n T (fun z M2 => ((z = 1000000 ∨ (t < z ∧ z < 1000000)) ∧ ∀ j : Nat, (j : Int) < V 0 10 → V 9 j = 0 → V 4 j = sh → t < (V 8 j + V 12 sh.toNat - V 0 11) → z ≤ (V 8 j + V 12 sh.toNat - V 0 11)) ∧ M2 = M)) := by
  refine x_met uX7_nextDeath (by decide) (Nat.le_of_ble_eq_true rfl) ?_
  intro Γ G Rt _
  have G : xG Γ RX7 cX7_nextDeath 6 2 43 0 0 := G
  have Rt : xRt Γ (xPI n T (fun z M2 => ((z = 1000000 ∨ (t < z ∧ z < 1000000)) ∧ ∀ j : Nat, (j : Int) < V 0 10 → V 9 j = 0 → V 4 j = sh → t < (V 8 j + V 12 sh.toNat - V 0 11) → z ≤ (V 8 j + V 12 sh.toNat - V 0 11)) ∧ M2 = M)) (some .int) 0 0 := Rt
  show xX Γ 0 0 n T 0 [(0, xR 195), (1, xI sh), (2, xI t)] [] M
  have hc := ok_c hv
  have hsc := hv.1
  have hsw := ok_s hv hsh.1 hsh.2
  refine x_ldc G (z := 1000000) (by decide) kc_X7_186 dX7_nextDeath_0 ?_
  refine x_istore_n G [(3, xI 1000000), (0, xR 195), (1, xI sh), (2, xI t)] rfl (by decide) rfl dX7_nextDeath_2 ?_
  refine x_iconst G (by decide) dX7_nextDeath_3 ?_
  refine x_istore G [(4, xI 0), (3, xI 1000000), (0, xR 195), (1, xI sh), (2, xI t)] (by decide) rfl dX7_nextDeath_4 ?_
  have loop6 : ∀ (d : Nat) (k : Int) (b : Int), (V 0 10 - k).toNat = d → (0 ≤ k ∧ k ≤ V 0 10) → (b = 1000000 ∨ (t < b ∧ b < 1000000)) → (∀ j : Nat, (j : Int) < k → V 9 j = 0 → V 4 j = sh → t < (V 8 j + V 12 sh.toNat - V 0 11) → b ≤ (V 8 j + V 12 sh.toNat - V 0 11)) → xX Γ 0 0 n T 6 [(0, xR 195), (1, xI sh), (2, xI t), (3, xI b), (4, xI k)] [] M := by
    intro d
    induction d using Nat.strongRecOn with
    | ind d ih6 =>
    intro k b hd6 hk hb hq
    refine x_iload G 4 rfl dX7_nextDeath_6 ?_
    refine x_aload_n G 0 rfl rfl dX7_nextDeath_8 ?_
    refine x_get G (xR 196) xf7_0 lk_X7_7 (ly_n hY 195 (by decide)) (ly_k hY 195 (by decide)) (Or.inr ⟨rfl, _, (ly_r hY 195 0 (by decide) (by decide)), rfl⟩) dX7_nextDeath_9 ?_
    refine x_iconst G (by decide) dX7_nextDeath_12 ?_
    refine x_iald G (ly_n hY 196 (by decide)) (ly_k hY 196 (by decide)) (show _ = 511 from ly_l hY 196 (by decide)) (by omega) (by omega) dX7_nextDeath_13 ?_
    show xX Γ 0 0 n T 14 [(0, xR 195), (1, xI sh), (2, xI t), (3, xI b), (4, xI k)] [xI (M 196 2), xI k] M
    rw [show M 196 2 = (V 0 10) from hN.1.2.2]
    refine x_icmp_ge G 74 (by decide) dX7_nextDeath_14 (fun c14 => ?_) (fun c14 => ?_)
    · skip
      refine x_iload_n G 3 rfl rfl dX7_nextDeath_74 ?_
      exact x_iret G Rt dX7_nextDeath_75 ⟨rfl, rfl, _, rfl, ⟨⟨hb, fun j h1 => hq j (by omega)⟩, rfl⟩⟩
    · skip
      have hit := ok_i hv hk.1 (by omega)
      refine x_aload_n G 0 rfl rfl dX7_nextDeath_17 ?_
      refine x_iload G 4 rfl dX7_nextDeath_18 ?_
      refine x_iconst G (by decide) dX7_nextDeath_20 ?_
      refine x_callVp G [] [xI k, xI 4] rfl (by decide) (ly_n hY 195 (by decide)) (ly_k hY 195 (by decide)) hy_X7_item hi_X7_item hs_X7_item ml_X7_58 rfl rfl (kX7_item_4 _ _ V k hY hN hv (by omega)) (by decide) (by decide) (Nat.le_of_ble_eq_true rfl) dX7_nextDeath_21 ?_
      refine x_aload_n G 0 rfl rfl dX7_nextDeath_24 ?_
      refine x_get G (xR 196) xf7_0 lk_X7_7 (ly_n hY 195 (by decide)) (ly_k hY 195 (by decide)) (Or.inr ⟨rfl, _, (ly_r hY 195 0 (by decide) (by decide)), rfl⟩) dX7_nextDeath_25 ?_
      refine x_bipush G (by decide) dX7_nextDeath_28 ?_
      refine x_iload_n G 1 rfl rfl dX7_nextDeath_30 ?_
      refine x_iadd G (by omega) dX7_nextDeath_31 ?_
      refine x_iald G (ly_n hY 196 (by decide)) (ly_k hY 196 (by decide)) (show _ = 511 from ly_l hY 196 (by decide)) (by omega) (by omega) dX7_nextDeath_32 ?_
      rw [show M 196 (7 + sh).toNat = (V 12 sh.toNat) from (mr_wd hN (by omega))]
      refine x_iadd G (by omega) dX7_nextDeath_33 ?_
      refine x_aload_n G 0 rfl rfl dX7_nextDeath_34 ?_
      refine x_get G (xR 196) xf7_0 lk_X7_7 (ly_n hY 195 (by decide)) (ly_k hY 195 (by decide)) (Or.inr ⟨rfl, _, (ly_r hY 195 0 (by decide) (by decide)), rfl⟩) dX7_nextDeath_35 ?_
      refine x_iconst G (by decide) dX7_nextDeath_38 ?_
      refine x_iald G (ly_n hY 196 (by decide)) (ly_k hY 196 (by decide)) (show _ = 511 from ly_l hY 196 (by decide)) (by omega) (by omega) dX7_nextDeath_39 ?_
      show xX Γ 0 0 n T 40 [(0, xR 195), (1, xI sh), (2, xI t), (3, xI b), (4, xI k)] [xI (M 196 0), xI ((V 8 k.toNat) + (V 12 sh.toNat))] M
      rw [show M 196 0 = (V 0 11) from hN.1.1]
      refine x_isub G (by omega) dX7_nextDeath_40 ?_
      refine x_istore G [(5, xI (((V 8 k.toNat) + (V 12 sh.toNat)) - (V 0 11))), (0, xR 195), (1, xI sh), (2, xI t), (3, xI b), (4, xI k)] (by decide) rfl dX7_nextDeath_41 ?_
      refine x_aload_n G 1 rfl rfl dX7_nextDeath_43 ?_
      refine x_iload G 5 rfl dX7_nextDeath_44 ?_
      refine x_callVp G [] [xI k] rfl (by decide) (ly_n hY 195 (by decide)) (ly_k hY 195 (by decide)) hy_X7_shardOf hi_X7_shardOf hs_X7_shardOf ml_X7_62 rfl rfl (kX7_shardOf _ _ V k hY hN hv (by omega)) (by decide) (by decide) (Nat.le_of_ble_eq_true rfl) dX7_nextDeath_46 ?_
      refine x_iload_n G 2 rfl rfl dX7_nextDeath_49 ?_
      refine x_icmp_ne G 68 (by decide) dX7_nextDeath_50 (fun c50 => ?_) (fun c50 => ?_)
      · skip
        refine x_iinc G [(4, xI (k + 1)), (5, xI (((V 8 k.toNat) + (V 12 sh.toNat)) - (V 0 11))), (0, xR 195), (1, xI sh), (2, xI t), (3, xI b)] 5 rfl (by decide) (by omega) rfl dX7_nextDeath_68 ?_
        refine x_goto G 6 (by decide) dX7_nextDeath_71 ?_
        refine x_sub [(0, xR 195), (1, xI sh), (2, xI t), (3, xI b), (4, xI (k + 1))] [2, 3, 4, 5, 0] rfl ?_
        exact ih6 _ (by omega) (k + 1) b rfl (by omega) (by omega) (by intro j h1 h2 h3 h4; rcases Int.lt_or_le j k with g | g; (have := hq j g h2 h3 h4; omega); (have e : j = k.toNat := (by omega); subst e; omega))
      · skip
        refine x_iload G 0 rfl dX7_nextDeath_53 ?_
        refine x_iload_n G 3 rfl rfl dX7_nextDeath_55 ?_
        refine x_icmp_le G 68 (by decide) dX7_nextDeath_56 (fun c56 => ?_) (fun c56 => ?_)
        · skip
          refine x_iinc G [(4, xI (k + 1)), (5, xI (((V 8 k.toNat) + (V 12 sh.toNat)) - (V 0 11))), (0, xR 195), (1, xI sh), (2, xI t), (3, xI b)] 5 rfl (by decide) (by omega) rfl dX7_nextDeath_68 ?_
          refine x_goto G 6 (by decide) dX7_nextDeath_71 ?_
          refine x_sub [(0, xR 195), (1, xI sh), (2, xI t), (3, xI b), (4, xI (k + 1))] [2, 3, 4, 5, 0] rfl ?_
          exact ih6 _ (by omega) (k + 1) b rfl (by omega) (by omega) (by intro j h1 h2 h3 h4; rcases Int.lt_or_le j k with g | g; (have := hq j g h2 h3 h4; omega); (have e : j = k.toNat := (by omega); subst e; omega))
        · skip
          refine x_iload G 0 rfl dX7_nextDeath_59 ?_
          refine x_iload_n G 4 rfl rfl dX7_nextDeath_61 ?_
          refine x_icmp_ge G 68 (by decide) dX7_nextDeath_62 (fun c62 => ?_) (fun c62 => ?_)
          · skip
            refine x_iinc G [(4, xI (k + 1)), (5, xI (((V 8 k.toNat) + (V 12 sh.toNat)) - (V 0 11))), (0, xR 195), (1, xI sh), (2, xI t), (3, xI b)] 5 rfl (by decide) (by omega) rfl dX7_nextDeath_68 ?_
            refine x_goto G 6 (by decide) dX7_nextDeath_71 ?_
            refine x_sub [(0, xR 195), (1, xI sh), (2, xI t), (3, xI b), (4, xI (k + 1))] [2, 3, 4, 5, 0] rfl ?_
            exact ih6 _ (by omega) (k + 1) b rfl (by omega) (by omega) (by intro j h1 h2 h3 h4; rcases Int.lt_or_le j k with g | g; (have := hq j g h2 h3 h4; omega); (have e : j = k.toNat := (by omega); subst e; omega))
          · skip
            refine x_iload G 0 rfl dX7_nextDeath_65 ?_
            refine x_istore_n G [(3, xI (((V 8 k.toNat) + (V 12 sh.toNat)) - (V 0 11))), (5, xI (((V 8 k.toNat) + (V 12 sh.toNat)) - (V 0 11))), (0, xR 195), (1, xI sh), (2, xI t), (4, xI k)] rfl (by decide) rfl dX7_nextDeath_67 ?_
            refine x_iinc G [(4, xI (k + 1)), (3, xI (((V 8 k.toNat) + (V 12 sh.toNat)) - (V 0 11))), (5, xI (((V 8 k.toNat) + (V 12 sh.toNat)) - (V 0 11))), (0, xR 195), (1, xI sh), (2, xI t)] 5 rfl (by decide) (by omega) rfl dX7_nextDeath_68 ?_
            refine x_goto G 6 (by decide) dX7_nextDeath_71 ?_
            refine x_sub [(0, xR 195), (1, xI sh), (2, xI t), (3, xI (((V 8 k.toNat) + (V 12 sh.toNat)) - (V 0 11))), (4, xI (k + 1))] [3, 4, 5, 1, 0] rfl ?_
            exact ih6 _ (by omega) (k + 1) (((V 8 k.toNat) + (V 12 sh.toNat)) - (V 0 11)) rfl (by omega) (by omega) (by intro j h1 h2 h3 h4; rcases Int.lt_or_le j k with g | g; (have := hq j g h2 h3 h4; omega); (have e : j = k.toNat := (by omega); subst e; omega))
  refine x_sub [(0, xR 195), (1, xI sh), (2, xI t), (3, xI 1000000), (4, xI 0)] [2, 3, 4, 1, 0] rfl ?_
  exact loop6 _ 0 1000000 rfl (by omega) (by omega) (fun j h1 => by omega)
set_option maxRecDepth 100000 in
set_option maxHeartbeats 4000000 in
theorem kX7_later (D : xD) (l : Launch) {n : Nat} {T : xT} {M : xM} (V : xM) (sh t k : Int) (hY : LayOK n T) (hN : mrel (M 196) V) (hv : VOK V) (hs : Srt V (V 10) (V 0 10).toNat) (hR : Rk M V) : xC D l uX7_later 7 170 0 0 [xR 195, xI sh, xI t, xI k] n T M (xPI n T (fun z M2 => z = qLater V sh t k ∧ mfr M M2 ∧ Rk M2 V)) := by
  refine x_met uX7_later (by decide) (Nat.le_of_ble_eq_true rfl) ?_
  intro Γ G Rt _
  have G : xG Γ RX7 cX7_later 4 7 170 0 0 := G
  have Rt : xRt Γ (xPI n T (fun z M2 => z = qLater V sh t k ∧ mfr M M2 ∧ Rk M2 V)) (some .int) 0 0 := Rt
  show xX Γ 0 0 n T 0 [(0, xR 195), (1, xI sh), (2, xI t), (3, xI k)] [] M
  have hc := ok_c hv
  refine x_iload_n G 1 rfl rfl dX7_later_0 ?_
  refine x_callSp G [] [xI sh] hy_X7_isShard ht_X7_isShard ml_X7_143 rfl rfl (kX7_isShard _ _ sh) (by decide) (by decide) (Nat.le_of_ble_eq_true rfl) dX7_later_1 ?_
  refine x_if_eq G 24 (by decide) dX7_later_4 (fun c4 => ?_) (fun c4 => ?_)
  · skip
    have c4 := b2i_eq0.mp c4
    refine x_iconst G (by decide) dX7_later_24 ?_
    exact x_iret G Rt dX7_later_25 ⟨rfl, rfl, _, rfl, ⟨(by unfold qLater; (repeat (first | rw [if_pos (by omega)] | rw [if_neg (by omega)])) <;> try rfl), (mfr_refl _), hR⟩⟩
  · skip
    have c4 := b2i_ne0.mp c4
    refine x_iload_n G 2 rfl rfl dX7_later_7 ?_
    refine x_i2l G dX7_later_8 ?_
    refine x_lconst G dX7_later_9 ?_
    show xX Γ 0 0 n T 10 [(0, xR 195), (1, xI sh), (2, xI t), (3, xI k)] [xL 0, xL t] M
    refine x_ldc2 G (z := 9999) (by decide) kc_X7_181 dX7_later_10 ?_
    refine x_callSp G [] [xL t, xL 0, xL 9999] hy_X7_in ht_X7_in ml_X7_54 rfl rfl (kX7_in _ _ t 0 9999) (by decide) (by decide) (Nat.le_of_ble_eq_true rfl) dX7_later_13 ?_
    refine x_if_eq G 24 (by decide) dX7_later_16 (fun c16 => ?_) (fun c16 => ?_)
    · skip
      have c16 := b2i_eq0.mp c16
      refine x_iconst G (by decide) dX7_later_24 ?_
      exact x_iret G Rt dX7_later_25 ⟨rfl, rfl, _, rfl, ⟨(by unfold qLater; (repeat (first | rw [if_pos (by omega)] | rw [if_neg (by omega)])) <;> try rfl), (mfr_refl _), hR⟩⟩
    · skip
      have c16 := b2i_ne0.mp c16
      refine x_iload_n G 3 rfl rfl dX7_later_19 ?_
      refine x_iconst G (by decide) dX7_later_20 ?_
      refine x_icmp_ge G 26 (by decide) dX7_later_21 (fun c21 => ?_) (fun c21 => ?_)
      · skip
        have hsc := hv.1
        have hsw := ok_s hv (s := sh) (by omega) (by omega)
        refine x_aload_n G 0 rfl rfl dX7_later_26 ?_
        refine x_iload_n G 1 rfl rfl dX7_later_27 ?_
        refine x_aload_n G 0 rfl rfl dX7_later_28 ?_
        refine x_get G (xR 196) xf7_0 lk_X7_7 (ly_n hY 195 (by decide)) (ly_k hY 195 (by decide)) (Or.inr ⟨rfl, _, (ly_r hY 195 0 (by decide) (by decide)), rfl⟩) dX7_later_29 ?_
        refine x_iconst G (by decide) dX7_later_32 ?_
        refine x_iald G (ly_n hY 196 (by decide)) (ly_k hY 196 (by decide)) (show _ = 511 from ly_l hY 196 (by decide)) (by omega) (by omega) dX7_later_33 ?_
        show xX Γ 0 0 n T 34 [(0, xR 195), (1, xI sh), (2, xI t), (3, xI k)] [xI (M 196 0), xI sh, xR 195] M
        rw [show M 196 0 = (V 0 11) from hN.1.1]
        refine x_iload_n G 2 rfl rfl dX7_later_34 ?_
        refine x_iadd G (by omega) dX7_later_35 ?_
        refine x_aload_n G 0 rfl rfl dX7_later_36 ?_
        refine x_get G (xR 196) xf7_0 lk_X7_7 (ly_n hY 195 (by decide)) (ly_k hY 195 (by decide)) (Or.inr ⟨rfl, _, (ly_r hY 195 0 (by decide) (by decide)), rfl⟩) dX7_later_37 ?_
        refine x_bipush G (by decide) dX7_later_40 ?_
        refine x_iload_n G 1 rfl rfl dX7_later_42 ?_
        refine x_iadd G (by omega) dX7_later_43 ?_
        refine x_iald G (ly_n hY 196 (by decide)) (ly_k hY 196 (by decide)) (show _ = 511 from ly_l hY 196 (by decide)) (by omega) (by omega) dX7_later_44 ?_
        rw [show M 196 (7 + sh).toNat = (V 12 sh.toNat) from (mr_wd hN (by omega))]
        refine x_aload_n G 0 rfl rfl dX7_later_45 ?_
        refine x_get G (xR 196) xf7_0 lk_X7_7 (ly_n hY 195 (by decide)) (ly_k hY 195 (by decide)) (Or.inr ⟨rfl, _, (ly_r hY 195 0 (by decide) (by decide)), rfl⟩) dX7_later_46 ?_
        refine x_iconst G (by decide) dX7_later_49 ?_
        refine x_iald G (ly_n hY 196 (by decide)) (ly_k hY 196 (by decide)) (show _ = 511 from ly_l hY 196 (by decide)) (by omega) (by omega) dX7_later_50 ?_
        show xX Γ 0 0 n T 51 [(0, xR 195), (1, xI sh), (2, xI t), (3, xI k)] [xI (M 196 2), xI (V 12 sh.toNat), xI ((V 0 11) + t), xI sh, xR 195] M
        rw [show M 196 2 = (V 0 10) from hN.1.2.2]
        refine x_callVV G [] [xI sh, xI ((V 0 11) + t), xI (V 12 sh.toNat), xI (V 0 10)] rfl (by decide) (ly_n hY 195 (by decide)) (ly_k hY 195 (by decide)) hy_X7_lays hi_X7_lays hs_X7_lays ml_X7_124 rfl rfl (kX7_lays _ _ V sh ((V 0 11) + t) (V 12 sh.toNat) (V 0 10) hY hN hv hs hR (by omega) (by omega) (by omega)) (by decide) (by decide) (Nat.le_of_ble_eq_true rfl) dX7_later_51 (fun M51 h51 => ?_)
        have hn51 := h51.1.1
        have hl51 : (alL V sh ((V 0 11) + t) (V 12 sh.toNat) (V 0 10)).length ≤ 100 := alL_len hv _ _ _ _
        refine x_aload_n G 0 rfl rfl dX7_later_54 ?_
        refine x_aload_n G 0 rfl rfl dX7_later_55 ?_
        refine x_get G (xR 196) xf7_0 lk_X7_7 (ly_n hY 195 (by decide)) (ly_k hY 195 (by decide)) (Or.inr ⟨rfl, _, (ly_r hY 195 0 (by decide) (by decide)), rfl⟩) dX7_later_56 ?_
        refine x_iconst G (by decide) dX7_later_59 ?_
        refine x_iload_n G 1 rfl rfl dX7_later_60 ?_
        refine x_iadd G (by omega) dX7_later_61 ?_
        refine x_iald G (ly_n hY 196 (by decide)) (ly_k hY 196 (by decide)) (show _ = 511 from ly_l hY 196 (by decide)) (by omega) (by omega) dX7_later_62 ?_
        rw [show M51 196 (3 + sh).toNat = (V 11 sh.toNat) from (mr_sz (mr_cg hN (h51.2.1.1 196 (by omega))) (by omega))]
        refine x_callVV G [] [xI (V 11 sh.toNat)] rfl (by decide) (ly_n hY 195 (by decide)) (ly_k hY 195 (by decide)) hy_X7_cuts hi_X7_cuts hs_X7_cuts ml_X7_131 rfl rfl (kX7_cuts _ _ (alL V sh ((V 0 11) + t) (V 12 sh.toNat) (V 0 10)) (V 11 sh.toNat) hY h51.1 hl51 (by omega)) (by decide) (by decide) (Nat.le_of_ble_eq_true rfl) dX7_later_63 (fun M63 h63 => ?_)
        subst h63
        show xX Γ 0 0 n T 66 [(0, xR 195), (1, xI sh), (2, xI t), (3, xI k)] [] (xst M51 195 8 (((alL V sh ((V 0 11) + t) (V 12 sh.toNat) (V 0 10)).take (V 11 sh.toNat).toNat).length : Int))
        refine x_aload_n G 0 rfl rfl dX7_later_66 ?_
        refine x_iload_n G 3 rfl rfl dX7_later_67 ?_
        refine x_callVp G [] [xI k] rfl (by decide) (ly_n hY 195 (by decide)) (ly_k hY 195 (by decide)) hy_X7_toldOf hi_X7_toldOf hs_X7_toldOf ml_X7_146 rfl rfl (kX7_toldOf _ _ ((alL V sh ((V 0 11) + t) (V 12 sh.toNat) (V 0 10)).take (V 11 sh.toNat).toNat) k hY (rw_take h51.1 (xst_same ..) (xst_row (by decide))) (take_len hl51) (by omega)) (by decide) (by decide) (Nat.le_of_ble_eq_true rfl) dX7_later_68 ?_
        exact x_iret G Rt dX7_later_71 ⟨rfl, rfl, _, rfl, ⟨(by unfold qLater; (repeat (first | rw [if_pos (by omega)] | rw [if_neg (by omega)])) <;> try rfl), (mfr_st (mfr_tr (mfr_refl _) (mfx_w 207 h51.2.1 (by decide))) (by omega)), (rk_cg h51.2.2 (xst_nq (by omega)) (xst_row (by omega)))⟩⟩
      · skip
        refine x_iconst G (by decide) dX7_later_24 ?_
        exact x_iret G Rt dX7_later_25 ⟨rfl, rfl, _, rfl, ⟨(by unfold qLater; (repeat (first | rw [if_pos (by omega)] | rw [if_neg (by omega)])) <;> try rfl), (mfr_refl _), hR⟩⟩
theorem less_cg {V : xM} {sh k z x : Int} (hsh : okS sh) (hq : ∀ j : Nat, (j : Int) < V 0 10 → V 9 j = 0 → V 4 j = sh → V 0 11 - V 8 j < k → V 0 11 - V 8 j ≤ z) (h1 : z < x) (h2 : x ≤ k) (j : Nat) (hj : (j : Int) < V 0 10) (hu : und V j sh (-1)) : V 0 11 - x < V 8 j ↔ V 0 11 - k < V 8 j := by
  have h := hq j hj hu.1 (by have := hu.2.1; omega)
  omega
theorem death_cg {V : xM} {sh t z x W : Int} (hsh : okS sh) (hq : ∀ j : Nat, (j : Int) < V 0 10 → V 9 j = 0 → V 4 j = sh → t < V 8 j + W - V 0 11 → z ≤ V 8 j + W - V 0 11) (h1 : t ≤ x) (h2 : x < z) (j : Nat) (hj : (j : Int) < V 0 10) (hu : und V j sh (-1)) : V 0 11 + x - W < V 8 j ↔ V 0 11 + t - W < V 8 j := by
  have h := hq j hj hu.1 (by have := hu.2.1; omega)
  omega
set_option maxRecDepth 100000 in
set_option maxHeartbeats 4000000 in
theorem kX7_windowFor (D : xD) (l : Launch) {n : Nat} {T : xT} {M : xM} (V : xM) (i : Int) (hY : LayOK n T) (hN : mrel (M 196) V) (hv : VOK V) (hs : Srt V (V 10) (V 0 10).toNat) (hR : Rk M V) : xC D l uX7_windowFor 7 170 0 0 [xR 195, xI i] n T M (xPI n T (fun z M2 => (qWindowFor V i z) ∧ mfr M M2 ∧ Rk M2 V)) := by
  refine x_met uX7_windowFor (by decide) (Nat.le_of_ble_eq_true rfl) ?_
  intro Γ G Rt _
  have G : xG Γ RX7 cX7_windowFor 5 7 170 0 0 := G
  have Rt : xRt Γ (xPI n T (fun z M2 => (qWindowFor V i z) ∧ mfr M M2 ∧ Rk M2 V)) (some .int) 0 0 := Rt
  show xX Γ 0 0 n T 0 [(0, xR 195), (1, xI i)] [] M
  have hc := ok_c hv
  have hsc := hv.1
  refine x_aload_n G 0 rfl rfl dX7_windowFor_0 ?_
  refine x_iload_n G 1 rfl rfl dX7_windowFor_1 ?_
  refine x_callVp G [] [xI i] rfl (by decide) (ly_n hY 195 (by decide)) (ly_k hY 195 (by decide)) hy_X7_isItem hi_X7_isItem hs_X7_isItem ml_X7_66 rfl rfl (kX7_isItem _ _ V i hY hN hv) (by decide) (by decide) (Nat.le_of_ble_eq_true rfl) dX7_windowFor_2 ?_
  refine x_if_ne G 10 (by decide) dX7_windowFor_5 (fun c5 => ?_) (fun c5 => ?_)
  · skip
    have c5 := b2i_ne0.mp c5
    refine x_aload_n G 0 rfl rfl dX7_windowFor_10 ?_
    refine x_iload_n G 1 rfl rfl dX7_windowFor_11 ?_
    refine x_callVp G [] [xI i] rfl (by decide) (ly_n hY 195 (by decide)) (ly_k hY 195 (by decide)) hy_X7_isDropped hi_X7_isDropped hs_X7_isDropped ml_X7_70 rfl rfl (kX7_isDropped _ _ V i hY hN hv (by omega)) (by decide) (by decide) (Nat.le_of_ble_eq_true rfl) dX7_windowFor_12 ?_
    refine x_if_eq G 21 (by decide) dX7_windowFor_15 (fun c15 => ?_) (fun c15 => ?_)
    · skip
      have c15 := b2i_eq0.mp c15
      have hit := ok_i hv (i := i) (by omega) (by omega)
      have h9 : V 9 i.toNat = 0 := Decidable.not_not.mp c15
      refine x_aload_n G 0 rfl rfl dX7_windowFor_21 ?_
      refine x_iload_n G 1 rfl rfl dX7_windowFor_22 ?_
      refine x_callVp G [] [xI i] rfl (by decide) (ly_n hY 195 (by decide)) (ly_k hY 195 (by decide)) hy_X7_shardOf hi_X7_shardOf hs_X7_shardOf ml_X7_62 rfl rfl (kX7_shardOf_u _ _ V i hY hN hv (by omega) (show V 9 i.toNat = 0 by omega)) (by decide) (by decide) (Nat.le_of_ble_eq_true rfl) dX7_windowFor_23 ?_
      refine x_istore_n G [(2, xI (V 4 i.toNat)), (0, xR 195), (1, xI i)] rfl (by decide) rfl dX7_windowFor_26 ?_
      refine x_bipush G (by decide) dX7_windowFor_27 ?_
      refine x_istore_n G [(3, xI (-2)), (2, xI (V 4 i.toNat)), (0, xR 195), (1, xI i)] rfl (by decide) rfl dX7_windowFor_29 ?_
      refine x_sipush G (by decide) dX7_windowFor_30 ?_
      refine x_istore G [(4, xI 9999), (3, xI (-2)), (2, xI (V 4 i.toNat)), (0, xR 195), (1, xI i)] (by decide) rfl dX7_windowFor_33 ?_
      have loop35 : ∀ (d : Nat) (k : Int) (b : Int) (N1 : xM), k.toNat = d → (0 ≤ k ∧ k ≤ 9999) → (mfr M N1) → (Rk N1 V) → ((b = -2 ∧ ∀ x, k < x → x ≤ 9999 → ¬ inBy V i.toNat (V 0 11 - x)) ∨ ((1 ≤ b ∧ b ≤ 9999) ∧ inBy V i.toNat (V 0 11 - b) ∧ ∀ x, b < x → x ≤ 9999 → ¬ inBy V i.toNat (V 0 11 - x))) → xX Γ 0 0 n T 35 [(0, xR 195), (1, xI i), (2, xI (V 4 i.toNat)), (3, xI b), (4, xI k)] [] N1 := by
        intro d
        induction d using Nat.strongRecOn with
        | ind d ih35 =>
        intro k b N1 hd35 hk hf1 hR1 hb
        skip
        refine x_iload G 4 rfl dX7_windowFor_35 ?_
        refine x_iconst G (by decide) dX7_windowFor_37 ?_
        refine x_icmp_lt G 104 (by decide) dX7_windowFor_38 (fun c38 => ?_) (fun c38 => ?_)
        · skip
          refine x_iload_n G 3 rfl rfl dX7_windowFor_104 ?_
          exact x_iret G Rt dX7_windowFor_105 ⟨rfl, rfl, _, rfl, ⟨Or.inr (Or.inr ⟨by omega, h9, by rcases hb with ⟨g1, g2⟩ | ⟨g1, g2, g3⟩; exact Or.inr ⟨g1, fun x a b => g2 x (by omega) b⟩; exact Or.inl ⟨g1, g2, g3⟩⟩), hf1, hR1⟩⟩
        · skip
          refine x_iload_n G 3 rfl rfl dX7_windowFor_41 ?_
          refine x_if_ge G 104 (by decide) dX7_windowFor_42 (fun c42 => ?_) (fun c42 => ?_)
          · skip
            refine x_iload_n G 3 rfl rfl dX7_windowFor_104 ?_
            exact x_iret G Rt dX7_windowFor_105 ⟨rfl, rfl, _, rfl, ⟨Or.inr (Or.inr ⟨by omega, h9, by rcases hb with ⟨g1, g2⟩ | ⟨g1, g2, g3⟩; exact Or.inr ⟨g1, fun x a b => g2 x (by omega) b⟩; exact Or.inl ⟨g1, g2, g3⟩⟩), hf1, hR1⟩⟩
          · skip
            have hsw := ok_s hv hit.1.1 hit.1.2
            refine x_aload_n G 0 rfl rfl dX7_windowFor_45 ?_
            refine x_iload_n G 2 rfl rfl dX7_windowFor_46 ?_
            refine x_aload_n G 0 rfl rfl dX7_windowFor_47 ?_
            refine x_get G (xR 196) xf7_0 lk_X7_7 (ly_n hY 195 (by decide)) (ly_k hY 195 (by decide)) (Or.inr ⟨rfl, _, (ly_r hY 195 0 (by decide) (by decide)), rfl⟩) dX7_windowFor_48 ?_
            refine x_iconst G (by decide) dX7_windowFor_51 ?_
            refine x_iald G (ly_n hY 196 (by decide)) (ly_k hY 196 (by decide)) (show _ = 511 from ly_l hY 196 (by decide)) (by omega) (by omega) dX7_windowFor_52 ?_
            show xX Γ 0 0 n T 53 [(0, xR 195), (1, xI i), (2, xI (V 4 i.toNat)), (3, xI b), (4, xI k)] [xI (N1 196 0), xI (V 4 i.toNat), xR 195] N1
            rw [show N1 196 0 = (V 0 11) from (mr_cg hN (hf1.1 196 (by omega))).1.1]
            refine x_iload G 4 rfl dX7_windowFor_53 ?_
            refine x_aload_n G 0 rfl rfl dX7_windowFor_55 ?_
            refine x_get G (xR 196) xf7_0 lk_X7_7 (ly_n hY 195 (by decide)) (ly_k hY 195 (by decide)) (Or.inr ⟨rfl, _, (ly_r hY 195 0 (by decide) (by decide)), rfl⟩) dX7_windowFor_56 ?_
            refine x_iconst G (by decide) dX7_windowFor_59 ?_
            refine x_iald G (ly_n hY 196 (by decide)) (ly_k hY 196 (by decide)) (show _ = 511 from ly_l hY 196 (by decide)) (by omega) (by omega) dX7_windowFor_60 ?_
            show xX Γ 0 0 n T 61 [(0, xR 195), (1, xI i), (2, xI (V 4 i.toNat)), (3, xI b), (4, xI k)] [xI (N1 196 2), xI k, xI (V 0 11), xI (V 4 i.toNat), xR 195] N1
            rw [show N1 196 2 = (V 0 10) from (mr_cg hN (hf1.1 196 (by omega))).1.2.2]
            refine x_callVV G [] [xI (V 4 i.toNat), xI (V 0 11), xI k, xI (V 0 10)] rfl (by decide) (ly_n hY 195 (by decide)) (ly_k hY 195 (by decide)) hy_X7_lays hi_X7_lays hs_X7_lays ml_X7_124 rfl rfl (kX7_lays _ _ V (V 4 i.toNat) (V 0 11) k (V 0 10) hY (mr_cg hN (hf1.1 196 (by omega))) hv hs hR1 (by omega) (by omega) (by omega)) (by decide) (by decide) (Nat.le_of_ble_eq_true rfl) dX7_windowFor_61 (fun M61 h61 => ?_)
            have hn61 := h61.1.1
            have hl61 : (alL V (V 4 i.toNat) (V 0 11) k (V 0 10)).length ≤ 100 := alL_len hv _ _ _ _
            refine x_aload_n G 0 rfl rfl dX7_windowFor_64 ?_
            refine x_aload_n G 0 rfl rfl dX7_windowFor_65 ?_
            refine x_get G (xR 196) xf7_0 lk_X7_7 (ly_n hY 195 (by decide)) (ly_k hY 195 (by decide)) (Or.inr ⟨rfl, _, (ly_r hY 195 0 (by decide) (by decide)), rfl⟩) dX7_windowFor_66 ?_
            refine x_iconst G (by decide) dX7_windowFor_69 ?_
            refine x_iload_n G 2 rfl rfl dX7_windowFor_70 ?_
            refine x_iadd G (by omega) dX7_windowFor_71 ?_
            refine x_iald G (ly_n hY 196 (by decide)) (ly_k hY 196 (by decide)) (show _ = 511 from ly_l hY 196 (by decide)) (by omega) (by omega) dX7_windowFor_72 ?_
            rw [show M61 196 (3 + (V 4 i.toNat)).toNat = (V 11 (V 4 i.toNat).toNat) from (mr_sz (mr_cg (mr_cg hN (hf1.1 196 (by omega))) (h61.2.1.1 196 (by omega))) (by omega))]
            refine x_callVV G [] [xI (V 11 (V 4 i.toNat).toNat)] rfl (by decide) (ly_n hY 195 (by decide)) (ly_k hY 195 (by decide)) hy_X7_cuts hi_X7_cuts hs_X7_cuts ml_X7_131 rfl rfl (kX7_cuts _ _ (alL V (V 4 i.toNat) (V 0 11) k (V 0 10)) (V 11 (V 4 i.toNat).toNat) hY h61.1 hl61 (by omega)) (by decide) (by decide) (Nat.le_of_ble_eq_true rfl) dX7_windowFor_73 (fun M73 h73 => ?_)
            subst h73
            show xX Γ 0 0 n T 76 [(0, xR 195), (1, xI i), (2, xI (V 4 i.toNat)), (3, xI b), (4, xI k)] [] (xst M61 195 8 (((alL V (V 4 i.toNat) (V 0 11) k (V 0 10)).take (V 11 (V 4 i.toNat).toNat).toNat).length : Int))
            refine x_aload_n G 0 rfl rfl dX7_windowFor_76 ?_
            refine x_iload_n G 1 rfl rfl dX7_windowFor_77 ?_
            refine x_callVp G [] [xI i] rfl (by decide) (ly_n hY 195 (by decide)) (ly_k hY 195 (by decide)) hy_X7_placeOf hi_X7_placeOf hs_X7_placeOf ml_X7_140 rfl rfl (kX7_placeOf _ _ ((alL V (V 4 i.toNat) (V 0 11) k (V 0 10)).take (V 11 (V 4 i.toNat).toNat).toNat) i hY (rw_take h61.1 (xst_same ..) (xst_row (by decide))) (take_len hl61) (by omega)) (by decide) (by decide) (Nat.le_of_ble_eq_true rfl) dX7_windowFor_78 ?_
            have hin9 := in_by hv hs (i := i.toNat) (T := V 0 11) (w := k) (by omega) h9 hsc.2.1.1
            rw [if_neg (by omega)] at hin9
            refine x_if_lt G 89 (by decide) dX7_windowFor_81 (fun c81 => ?_) (fun c81 => ?_)
            · skip
              have c81 : ¬ inBy V i.toNat (V 0 11 - k) := fun h => by have h2 := qpl_ge.mpr (hin9.mpr h); omega
              refine x_bipush G (by decide) dX7_windowFor_89 ?_
              refine x_istore_n G [(3, xI (-2)), (0, xR 195), (1, xI i), (2, xI (V 4 i.toNat)), (4, xI k)] rfl (by decide) rfl dX7_windowFor_91 ?_
              refine x_aload_n G 1 rfl rfl dX7_windowFor_92 ?_
              refine x_iload_n G 3 rfl rfl dX7_windowFor_93 ?_
              refine x_iload G 4 rfl dX7_windowFor_94 ?_
              refine x_callVI G [] [xI (V 4 i.toNat), xI k] rfl (by decide) (ly_n hY 195 (by decide)) (ly_k hY 195 (by decide)) hy_X7_lessWindow hi_X7_lessWindow hs_X7_lessWindow ml_X7_178 rfl rfl (kX7_lessWindow _ _ V (V 4 i.toNat) k hY (mr_cg (mr_cg (mr_cg hN (hf1.1 196 (by omega))) (h61.2.1.1 196 (by omega))) (xst_row (by omega))) hv (by omega) (by omega)) (by decide) (by decide) (Nat.le_of_ble_eq_true rfl) dX7_windowFor_96 (fun z96 M96 h96 => ?_)
              obtain ⟨hq96, hm96⟩ := h96
              have hm96 := hm96.symm
              subst hm96
              refine x_istore G [(4, xI z96), (3, xI (-2)), (0, xR 195), (1, xI i), (2, xI (V 4 i.toNat))] (by decide) rfl dX7_windowFor_99 ?_
              refine x_goto G 35 (by decide) dX7_windowFor_101 ?_
              refine x_sub [(0, xR 195), (1, xI i), (2, xI (V 4 i.toNat)), (3, xI (-2)), (4, xI z96)] [2, 3, 4, 1, 0] rfl ?_
              exact ih35 _ (by omega) z96 (-2) (xst M61 195 8 (((alL V (V 4 i.toNat) (V 0 11) k (V 0 10)).take (V 11 (V 4 i.toNat).toNat).toNat).length : Int)) rfl (by omega) ((mfr_st (mfr_tr hf1 (mfx_w 207 h61.2.1 (by decide))) (by omega))) ((rk_cg h61.2.2 (xst_nq (by omega)) (xst_row (by omega)))) (by rcases hb with ⟨g1, g2⟩ | ⟨g1, g2, g3⟩; exact Or.inl ⟨rfl, fun x a b => by rcases Int.lt_or_le k x with g | g; exact g2 x g b; exact fun h3 => c81 ((inBy_cg (less_cg hit.1 hq96.2 a g i.toNat (by omega) ⟨h9, Or.inr rfl, Or.inl rfl⟩) (fun j hj hu => less_cg hit.1 hq96.2 a g j hj hu)).mp h3)⟩; omega)
            · skip
              have c81 : inBy V i.toNat (V 0 11 - k) := hin9.mp (qpl_ge.mp (by omega))
              refine x_iload G 4 rfl dX7_windowFor_84 ?_
              refine x_goto G 91 (by decide) dX7_windowFor_86 ?_
              refine x_istore_n G [(3, xI k), (0, xR 195), (1, xI i), (2, xI (V 4 i.toNat)), (4, xI k)] rfl (by decide) rfl dX7_windowFor_91 ?_
              refine x_aload_n G 1 rfl rfl dX7_windowFor_92 ?_
              refine x_iload_n G 3 rfl rfl dX7_windowFor_93 ?_
              refine x_iload G 4 rfl dX7_windowFor_94 ?_
              refine x_callVI G [] [xI (V 4 i.toNat), xI k] rfl (by decide) (ly_n hY 195 (by decide)) (ly_k hY 195 (by decide)) hy_X7_lessWindow hi_X7_lessWindow hs_X7_lessWindow ml_X7_178 rfl rfl (kX7_lessWindow _ _ V (V 4 i.toNat) k hY (mr_cg (mr_cg (mr_cg hN (hf1.1 196 (by omega))) (h61.2.1.1 196 (by omega))) (xst_row (by omega))) hv (by omega) (by omega)) (by decide) (by decide) (Nat.le_of_ble_eq_true rfl) dX7_windowFor_96 (fun z96 M96 h96 => ?_)
              obtain ⟨hq96, hm96⟩ := h96
              have hm96 := hm96.symm
              subst hm96
              refine x_istore G [(4, xI z96), (3, xI k), (0, xR 195), (1, xI i), (2, xI (V 4 i.toNat))] (by decide) rfl dX7_windowFor_99 ?_
              refine x_goto G 35 (by decide) dX7_windowFor_101 ?_
              refine x_sub [(0, xR 195), (1, xI i), (2, xI (V 4 i.toNat)), (3, xI k), (4, xI z96)] [2, 3, 4, 1, 0] rfl ?_
              exact ih35 _ (by omega) z96 k (xst M61 195 8 (((alL V (V 4 i.toNat) (V 0 11) k (V 0 10)).take (V 11 (V 4 i.toNat).toNat).toNat).length : Int)) rfl (by omega) ((mfr_st (mfr_tr hf1 (mfx_w 207 h61.2.1 (by decide))) (by omega))) ((rk_cg h61.2.2 (xst_nq (by omega)) (xst_row (by omega)))) (by rcases hb with ⟨g1, g2⟩ | ⟨g1, g2, g3⟩; exact Or.inr ⟨by omega, c81, g2⟩; omega)
      refine x_sub [(0, xR 195), (1, xI i), (2, xI (V 4 i.toNat)), (3, xI (-2)), (4, xI 9999)] [3, 4, 2, 1, 0] rfl ?_
      exact loop35 _ 9999 (-2) M rfl (by omega) ((mfr_refl _)) (hR) (Or.inl ⟨rfl, by intro x a b; omega⟩)
    · skip
      have c15 := b2i_ne0.mp c15
      refine x_bipush G (by decide) dX7_windowFor_18 ?_
      exact x_iret G Rt dX7_windowFor_20 ⟨rfl, rfl, _, rfl, ⟨Or.inr (Or.inl ⟨by omega, c15, rfl⟩), (mfr_refl _), hR⟩⟩
  · skip
    have c5 := b2i_eq0.mp c5
    refine x_iconst G (by decide) dX7_windowFor_8 ?_
    exact x_iret G Rt dX7_windowFor_9 ⟨rfl, rfl, _, rfl, ⟨Or.inl ⟨by omega, rfl⟩, (mfr_refl _), hR⟩⟩
theorem inAt_cg {V : xM} (hv : VOK V) {i : Nat} {t z x : Int} (hi : (i : Int) < V 0 10) (h9 : V 9 i = 0) (hq : ∀ j : Nat, (j : Int) < V 0 10 → V 9 j = 0 → V 4 j = V 4 i → t < V 8 j + V 12 (V 4 i).toNat - V 0 11 → z ≤ V 8 j + V 12 (V 4 i).toNat - V 0 11) (h1 : t ≤ x) (h2 : x < z) : inAt V i x ↔ inAt V i t := by
  have hit := hv.2.2.1 i hi
  unfold inAt entW
  by_cases e : V 12 (V 4 i).toNat = 0
  · rw [if_pos e, if_pos e]
  · rw [if_neg e, if_neg e]
    exact inBy_cg (death_cg hit.1 hq h1 h2 i hi ⟨h9, Or.inr rfl, Or.inl rfl⟩) (fun j hj hu => death_cg hit.1 hq h1 h2 j hj hu)
theorem inAt_0 {V : xM} {i : Nat} (h : V 12 (V 4 i).toNat = 0) (x y : Int) : inAt V i x ↔ inAt V i y := by
  unfold inAt entW
  rw [if_pos h, if_pos h]
theorem inAt_no {V : xM} {i : Nat} {x : Int} (h : ¬ V 12 (V 4 i).toNat = 0) (h2 : V 8 i + V 12 (V 4 i).toNat - 1 - V 0 11 < x) : ¬ inAt V i x := fun g => by
  unfold inAt entW at g
  rw [if_neg h] at g
  have := g.1
  omega
set_option maxRecDepth 100000 in
set_option maxHeartbeats 4000000 in
theorem kX7_enters (D : xD) (l : Launch) {n : Nat} {T : xT} {M : xM} (V : xM) (i : Int) (hY : LayOK n T) (hN : mrel (M 196) V) (hv : VOK V) (hs : Srt V (V 10) (V 0 10).toNat) (hR : Rk M V) : xC D l uX7_enters 7 170 0 0 [xR 195, xI i] n T M (xPI n T (fun z M2 => (qEnters V i z) ∧ mfr M M2 ∧ Rk M2 V)) := by
  refine x_met uX7_enters (by decide) (Nat.le_of_ble_eq_true rfl) ?_
  intro Γ G Rt _
  have G : xG Γ RX7 cX7_enters 6 7 170 0 0 := G
  have Rt : xRt Γ (xPI n T (fun z M2 => (qEnters V i z) ∧ mfr M M2 ∧ Rk M2 V)) (some .int) 0 0 := Rt
  show xX Γ 0 0 n T 0 [(0, xR 195), (1, xI i)] [] M
  have hc := ok_c hv
  have hsc := hv.1
  refine x_aload_n G 0 rfl rfl dX7_enters_0 ?_
  refine x_iload_n G 1 rfl rfl dX7_enters_1 ?_
  refine x_callVp G [] [xI i] rfl (by decide) (ly_n hY 195 (by decide)) (ly_k hY 195 (by decide)) hy_X7_isItem hi_X7_isItem hs_X7_isItem ml_X7_66 rfl rfl (kX7_isItem _ _ V i hY hN hv) (by decide) (by decide) (Nat.le_of_ble_eq_true rfl) dX7_enters_2 ?_
  refine x_if_ne G 10 (by decide) dX7_enters_5 (fun c5 => ?_) (fun c5 => ?_)
  · skip
    have c5 := b2i_ne0.mp c5
    refine x_aload_n G 0 rfl rfl dX7_enters_10 ?_
    refine x_iload_n G 1 rfl rfl dX7_enters_11 ?_
    refine x_callVp G [] [xI i] rfl (by decide) (ly_n hY 195 (by decide)) (ly_k hY 195 (by decide)) hy_X7_isDropped hi_X7_isDropped hs_X7_isDropped ml_X7_70 rfl rfl (kX7_isDropped _ _ V i hY hN hv (by omega)) (by decide) (by decide) (Nat.le_of_ble_eq_true rfl) dX7_enters_12 ?_
    refine x_if_eq G 21 (by decide) dX7_enters_15 (fun c15 => ?_) (fun c15 => ?_)
    · skip
      have c15 := b2i_eq0.mp c15
      have hit := ok_i hv (i := i) (by omega) (by omega)
      have h9 : V 9 i.toNat = 0 := Decidable.not_not.mp c15
      have hsw := ok_s hv hit.1.1 hit.1.2
      refine x_aload_n G 0 rfl rfl dX7_enters_21 ?_
      refine x_iload_n G 1 rfl rfl dX7_enters_22 ?_
      refine x_callVp G [] [xI i] rfl (by decide) (ly_n hY 195 (by decide)) (ly_k hY 195 (by decide)) hy_X7_shardOf hi_X7_shardOf hs_X7_shardOf ml_X7_62 rfl rfl (kX7_shardOf_u _ _ V i hY hN hv (by omega) (show V 9 i.toNat = 0 by omega)) (by decide) (by decide) (Nat.le_of_ble_eq_true rfl) dX7_enters_23 ?_
      refine x_istore_n G [(2, xI (V 4 i.toNat)), (0, xR 195), (1, xI i)] rfl (by decide) rfl dX7_enters_26 ?_
      refine x_aload_n G 1 rfl rfl dX7_enters_27 ?_
      refine x_get G (xR 196) xf7_0 lk_X7_7 (ly_n hY 195 (by decide)) (ly_k hY 195 (by decide)) (Or.inr ⟨rfl, _, (ly_r hY 195 0 (by decide) (by decide)), rfl⟩) dX7_enters_28 ?_
      refine x_bipush G (by decide) dX7_enters_31 ?_
      refine x_iload_n G 0 rfl rfl dX7_enters_33 ?_
      refine x_iadd G (by omega) dX7_enters_34 ?_
      refine x_iald G (ly_n hY 196 (by decide)) (ly_k hY 196 (by decide)) (show _ = 511 from ly_l hY 196 (by decide)) (by omega) (by omega) dX7_enters_35 ?_
      rw [show M 196 (7 + (V 4 i.toNat)).toNat = (V 12 (V 4 i.toNat).toNat) from (mr_wd hN (by omega))]
      refine x_istore_n G [(3, xI (V 12 (V 4 i.toNat).toNat)), (2, xI (V 4 i.toNat)), (0, xR 195), (1, xI i)] rfl (by decide) rfl dX7_enters_36 ?_
      refine x_iload_n G 0 rfl rfl dX7_enters_37 ?_
      refine x_if_ne G 45 (by decide) dX7_enters_38 (fun c38 => ?_) (fun c38 => ?_)
      · skip
        refine x_aload_n G 2 rfl rfl dX7_enters_45 ?_
        refine x_iload_n G 3 rfl rfl dX7_enters_46 ?_
        refine x_iconst G (by decide) dX7_enters_47 ?_
        refine x_callVp G [] [xI i, xI 4] rfl (by decide) (ly_n hY 195 (by decide)) (ly_k hY 195 (by decide)) hy_X7_item hi_X7_item hs_X7_item ml_X7_58 rfl rfl (kX7_item_4 _ _ V i hY hN hv (by omega)) (by decide) (by decide) (Nat.le_of_ble_eq_true rfl) dX7_enters_48 ?_
        refine x_iload_n G 0 rfl rfl dX7_enters_51 ?_
        refine x_iadd G (by omega) dX7_enters_52 ?_
        refine x_iconst G (by decide) dX7_enters_53 ?_
        refine x_isub G (by omega) dX7_enters_54 ?_
        refine x_aload_n G 2 rfl rfl dX7_enters_55 ?_
        refine x_get G (xR 196) xf7_0 lk_X7_7 (ly_n hY 195 (by decide)) (ly_k hY 195 (by decide)) (Or.inr ⟨rfl, _, (ly_r hY 195 0 (by decide) (by decide)), rfl⟩) dX7_enters_56 ?_
        refine x_iconst G (by decide) dX7_enters_59 ?_
        refine x_iald G (ly_n hY 196 (by decide)) (ly_k hY 196 (by decide)) (show _ = 511 from ly_l hY 196 (by decide)) (by omega) (by omega) dX7_enters_60 ?_
        show xX Γ 0 0 n T 61 [(3, xI (V 12 (V 4 i.toNat).toNat)), (2, xI (V 4 i.toNat)), (0, xR 195), (1, xI i)] [xI (M 196 0), xI (((V 8 i.toNat) + (V 12 (V 4 i.toNat).toNat)) - 1)] M
        rw [show M 196 0 = (V 0 11) from hN.1.1]
        refine x_isub G (by omega) dX7_enters_61 ?_
        refine x_istore G [(4, xI ((((V 8 i.toNat) + (V 12 (V 4 i.toNat).toNat)) - 1) - (V 0 11))), (3, xI (V 12 (V 4 i.toNat).toNat)), (2, xI (V 4 i.toNat)), (0, xR 195), (1, xI i)] (by decide) rfl dX7_enters_62 ?_
        refine x_iconst G (by decide) dX7_enters_64 ?_
        refine x_istore G [(5, xI 0), (4, xI ((((V 8 i.toNat) + (V 12 (V 4 i.toNat).toNat)) - 1) - (V 0 11))), (3, xI (V 12 (V 4 i.toNat).toNat)), (2, xI (V 4 i.toNat)), (0, xR 195), (1, xI i)] (by decide) rfl dX7_enters_65 ?_
        have loop67 : ∀ (d : Nat) (k : Int) (N1 : xM), (2000000 - k).toNat = d → (0 ≤ k ∧ k ≤ 1000000) → (mfr M N1) → (Rk N1 V) → (∀ x, 0 ≤ x → x < k → ¬ inAt V i.toNat x) → xX Γ 0 0 n T 67 [(0, xR 195), (1, xI i), (2, xI (V 4 i.toNat)), (3, xI (V 12 (V 4 i.toNat).toNat)), (4, xI ((((V 8 i.toNat) + (V 12 (V 4 i.toNat).toNat)) - 1) - (V 0 11))), (5, xI k)] [] N1 := by
          intro d
          induction d using Nat.strongRecOn with
          | ind d ih67 =>
          intro k N1 hd67 hk hf1 hR1 hno
          skip
          refine x_iload G 5 rfl dX7_enters_67 ?_
          refine x_iload G 4 rfl dX7_enters_69 ?_
          refine x_icmp_gt G 130 (by decide) dX7_enters_71 (fun c71 => ?_) (fun c71 => ?_)
          · skip
            refine x_bipush G (by decide) dX7_enters_130 ?_
            exact x_iret G Rt dX7_enters_132 ⟨rfl, rfl, _, rfl, ⟨Or.inr (Or.inr ⟨by omega, h9, Or.inr ⟨rfl, fun x a b => by first | exact fun h => hno 0 (by omega) (by omega) ((inAt_0 c38 x 0).mp h) | (rcases Int.lt_or_le x k with g | g; exact hno x a g; exact inAt_no c38 (by omega))⟩⟩), hf1, hR1⟩⟩
          · skip
            refine x_aload_n G 0 rfl rfl dX7_enters_74 ?_
            refine x_iload_n G 2 rfl rfl dX7_enters_75 ?_
            refine x_aload_n G 0 rfl rfl dX7_enters_76 ?_
            refine x_get G (xR 196) xf7_0 lk_X7_7 (ly_n hY 195 (by decide)) (ly_k hY 195 (by decide)) (Or.inr ⟨rfl, _, (ly_r hY 195 0 (by decide) (by decide)), rfl⟩) dX7_enters_77 ?_
            refine x_iconst G (by decide) dX7_enters_80 ?_
            refine x_iald G (ly_n hY 196 (by decide)) (ly_k hY 196 (by decide)) (show _ = 511 from ly_l hY 196 (by decide)) (by omega) (by omega) dX7_enters_81 ?_
            show xX Γ 0 0 n T 82 [(0, xR 195), (1, xI i), (2, xI (V 4 i.toNat)), (3, xI (V 12 (V 4 i.toNat).toNat)), (4, xI ((((V 8 i.toNat) + (V 12 (V 4 i.toNat).toNat)) - 1) - (V 0 11))), (5, xI k)] [xI (N1 196 0), xI (V 4 i.toNat), xR 195] N1
            rw [show N1 196 0 = (V 0 11) from (mr_cg hN (hf1.1 196 (by omega))).1.1]
            refine x_iload G 5 rfl dX7_enters_82 ?_
            refine x_iadd G (by omega) dX7_enters_84 ?_
            refine x_iload_n G 3 rfl rfl dX7_enters_85 ?_
            refine x_aload_n G 0 rfl rfl dX7_enters_86 ?_
            refine x_get G (xR 196) xf7_0 lk_X7_7 (ly_n hY 195 (by decide)) (ly_k hY 195 (by decide)) (Or.inr ⟨rfl, _, (ly_r hY 195 0 (by decide) (by decide)), rfl⟩) dX7_enters_87 ?_
            refine x_iconst G (by decide) dX7_enters_90 ?_
            refine x_iald G (ly_n hY 196 (by decide)) (ly_k hY 196 (by decide)) (show _ = 511 from ly_l hY 196 (by decide)) (by omega) (by omega) dX7_enters_91 ?_
            show xX Γ 0 0 n T 92 [(0, xR 195), (1, xI i), (2, xI (V 4 i.toNat)), (3, xI (V 12 (V 4 i.toNat).toNat)), (4, xI ((((V 8 i.toNat) + (V 12 (V 4 i.toNat).toNat)) - 1) - (V 0 11))), (5, xI k)] [xI (N1 196 2), xI (V 12 (V 4 i.toNat).toNat), xI ((V 0 11) + k), xI (V 4 i.toNat), xR 195] N1
            rw [show N1 196 2 = (V 0 10) from (mr_cg hN (hf1.1 196 (by omega))).1.2.2]
            refine x_callVV G [] [xI (V 4 i.toNat), xI ((V 0 11) + k), xI (V 12 (V 4 i.toNat).toNat), xI (V 0 10)] rfl (by decide) (ly_n hY 195 (by decide)) (ly_k hY 195 (by decide)) hy_X7_lays hi_X7_lays hs_X7_lays ml_X7_124 rfl rfl (kX7_lays _ _ V (V 4 i.toNat) ((V 0 11) + k) (V 12 (V 4 i.toNat).toNat) (V 0 10) hY (mr_cg hN (hf1.1 196 (by omega))) hv hs hR1 (by omega) (by omega) (by omega)) (by decide) (by decide) (Nat.le_of_ble_eq_true rfl) dX7_enters_92 (fun M92 h92 => ?_)
            have hn92 := h92.1.1
            have hl92 : (alL V (V 4 i.toNat) ((V 0 11) + k) (V 12 (V 4 i.toNat).toNat) (V 0 10)).length ≤ 100 := alL_len hv _ _ _ _
            refine x_aload_n G 0 rfl rfl dX7_enters_95 ?_
            refine x_aload_n G 0 rfl rfl dX7_enters_96 ?_
            refine x_get G (xR 196) xf7_0 lk_X7_7 (ly_n hY 195 (by decide)) (ly_k hY 195 (by decide)) (Or.inr ⟨rfl, _, (ly_r hY 195 0 (by decide) (by decide)), rfl⟩) dX7_enters_97 ?_
            refine x_iconst G (by decide) dX7_enters_100 ?_
            refine x_iload_n G 2 rfl rfl dX7_enters_101 ?_
            refine x_iadd G (by omega) dX7_enters_102 ?_
            refine x_iald G (ly_n hY 196 (by decide)) (ly_k hY 196 (by decide)) (show _ = 511 from ly_l hY 196 (by decide)) (by omega) (by omega) dX7_enters_103 ?_
            rw [show M92 196 (3 + (V 4 i.toNat)).toNat = (V 11 (V 4 i.toNat).toNat) from (mr_sz (mr_cg (mr_cg hN (hf1.1 196 (by omega))) (h92.2.1.1 196 (by omega))) (by omega))]
            refine x_callVV G [] [xI (V 11 (V 4 i.toNat).toNat)] rfl (by decide) (ly_n hY 195 (by decide)) (ly_k hY 195 (by decide)) hy_X7_cuts hi_X7_cuts hs_X7_cuts ml_X7_131 rfl rfl (kX7_cuts _ _ (alL V (V 4 i.toNat) ((V 0 11) + k) (V 12 (V 4 i.toNat).toNat) (V 0 10)) (V 11 (V 4 i.toNat).toNat) hY h92.1 hl92 (by omega)) (by decide) (by decide) (Nat.le_of_ble_eq_true rfl) dX7_enters_104 (fun M104 h104 => ?_)
            subst h104
            show xX Γ 0 0 n T 107 [(0, xR 195), (1, xI i), (2, xI (V 4 i.toNat)), (3, xI (V 12 (V 4 i.toNat).toNat)), (4, xI ((((V 8 i.toNat) + (V 12 (V 4 i.toNat).toNat)) - 1) - (V 0 11))), (5, xI k)] [] (xst M92 195 8 (((alL V (V 4 i.toNat) ((V 0 11) + k) (V 12 (V 4 i.toNat).toNat) (V 0 10)).take (V 11 (V 4 i.toNat).toNat).toNat).length : Int))
            refine x_aload_n G 0 rfl rfl dX7_enters_107 ?_
            refine x_iload_n G 1 rfl rfl dX7_enters_108 ?_
            refine x_callVp G [] [xI i] rfl (by decide) (ly_n hY 195 (by decide)) (ly_k hY 195 (by decide)) hy_X7_placeOf hi_X7_placeOf hs_X7_placeOf ml_X7_140 rfl rfl (kX7_placeOf _ _ ((alL V (V 4 i.toNat) ((V 0 11) + k) (V 12 (V 4 i.toNat).toNat) (V 0 10)).take (V 11 (V 4 i.toNat).toNat).toNat) i hY (rw_take h92.1 (xst_same ..) (xst_row (by decide))) (take_len hl92) (by omega)) (by decide) (by decide) (Nat.le_of_ble_eq_true rfl) dX7_enters_109 ?_
            have hin9 := in_by hv hs (i := i.toNat) (T := V 0 11 + k) (w := V 12 (V 4 i.toNat).toNat) (by omega) h9 (by omega)
            refine x_if_lt G 118 (by decide) dX7_enters_112 (fun c112 => ?_) (fun c112 => ?_)
            · skip
              have c112 : ¬ inAt V i.toNat k := fun h => by have h2 := qpl_ge.mpr (hin9.mpr h); omega
              refine x_aload_n G 0 rfl rfl dX7_enters_118 ?_
              refine x_iload_n G 2 rfl rfl dX7_enters_119 ?_
              refine x_iload G 5 rfl dX7_enters_120 ?_
              refine x_callVI G [] [xI (V 4 i.toNat), xI k] rfl (by decide) (ly_n hY 195 (by decide)) (ly_k hY 195 (by decide)) hy_X7_nextDeath hi_X7_nextDeath hs_X7_nextDeath ml_X7_183 rfl rfl (kX7_nextDeath _ _ V (V 4 i.toNat) k hY (mr_cg (mr_cg (mr_cg hN (hf1.1 196 (by omega))) (h92.2.1.1 196 (by omega))) (xst_row (by omega))) hv (by omega) (by omega)) (by decide) (by decide) (Nat.le_of_ble_eq_true rfl) dX7_enters_122 (fun z122 M122 h122 => ?_)
              obtain ⟨hq122, hm122⟩ := h122
              have hm122 := hm122.symm
              subst hm122
              refine x_istore G [(5, xI z122), (0, xR 195), (1, xI i), (2, xI (V 4 i.toNat)), (3, xI (V 12 (V 4 i.toNat).toNat)), (4, xI ((((V 8 i.toNat) + (V 12 (V 4 i.toNat).toNat)) - 1) - (V 0 11)))] (by decide) rfl dX7_enters_125 ?_
              refine x_goto G 67 (by decide) dX7_enters_127 ?_
              refine x_sub [(0, xR 195), (1, xI i), (2, xI (V 4 i.toNat)), (3, xI (V 12 (V 4 i.toNat).toNat)), (4, xI ((((V 8 i.toNat) + (V 12 (V 4 i.toNat).toNat)) - 1) - (V 0 11))), (5, xI z122)] [1, 2, 3, 4, 5, 0] rfl ?_
              exact ih67 _ (by omega) z122 (xst M92 195 8 (((alL V (V 4 i.toNat) ((V 0 11) + k) (V 12 (V 4 i.toNat).toNat) (V 0 10)).take (V 11 (V 4 i.toNat).toNat).toNat).length : Int)) rfl (by omega) ((mfr_st (mfr_tr hf1 (mfx_w 207 h92.2.1 (by decide))) (by omega))) ((rk_cg h92.2.2 (xst_nq (by omega)) (xst_row (by omega)))) (fun x a b => by rcases Int.lt_or_le x k with g | g; exact hno x a g; exact fun h => c112 ((inAt_cg hv (by omega) h9 hq122.2 g b).mp h))
            · skip
              have c112 : inAt V i.toNat k := hin9.mp (qpl_ge.mp (by omega))
              refine x_iload G 5 rfl dX7_enters_115 ?_
              exact x_iret G Rt dX7_enters_117 ⟨rfl, rfl, _, rfl, ⟨Or.inr (Or.inr ⟨by omega, h9, Or.inl ⟨by omega, c112, hno⟩⟩), (mfr_st (mfr_tr hf1 (mfx_w 207 h92.2.1 (by decide))) (by omega)), (rk_cg h92.2.2 (xst_nq (by omega)) (xst_row (by omega)))⟩⟩
        refine x_sub [(0, xR 195), (1, xI i), (2, xI (V 4 i.toNat)), (3, xI (V 12 (V 4 i.toNat).toNat)), (4, xI ((((V 8 i.toNat) + (V 12 (V 4 i.toNat).toNat)) - 1) - (V 0 11))), (5, xI 0)] [4, 5, 3, 2, 1, 0] rfl ?_
        exact loop67 _ 0 M rfl (by omega) ((mfr_refl _)) (hR) (by intro x a b; omega)
      · skip
        refine x_iconst G (by decide) dX7_enters_41 ?_
        refine x_goto G 62 (by decide) dX7_enters_42 ?_
        refine x_istore G [(4, xI 0), (3, xI (V 12 (V 4 i.toNat).toNat)), (2, xI (V 4 i.toNat)), (0, xR 195), (1, xI i)] (by decide) rfl dX7_enters_62 ?_
        refine x_iconst G (by decide) dX7_enters_64 ?_
        refine x_istore G [(5, xI 0), (4, xI 0), (3, xI (V 12 (V 4 i.toNat).toNat)), (2, xI (V 4 i.toNat)), (0, xR 195), (1, xI i)] (by decide) rfl dX7_enters_65 ?_
        have loop67 : ∀ (d : Nat) (k : Int) (N1 : xM), (2000000 - k).toNat = d → (0 ≤ k ∧ k ≤ 1000000) → (mfr M N1) → (Rk N1 V) → (∀ x, 0 ≤ x → x < k → ¬ inAt V i.toNat x) → xX Γ 0 0 n T 67 [(0, xR 195), (1, xI i), (2, xI (V 4 i.toNat)), (3, xI (V 12 (V 4 i.toNat).toNat)), (4, xI 0), (5, xI k)] [] N1 := by
          intro d
          induction d using Nat.strongRecOn with
          | ind d ih67 =>
          intro k N1 hd67 hk hf1 hR1 hno
          skip
          refine x_iload G 5 rfl dX7_enters_67 ?_
          refine x_iload G 4 rfl dX7_enters_69 ?_
          refine x_icmp_gt G 130 (by decide) dX7_enters_71 (fun c71 => ?_) (fun c71 => ?_)
          · skip
            refine x_bipush G (by decide) dX7_enters_130 ?_
            exact x_iret G Rt dX7_enters_132 ⟨rfl, rfl, _, rfl, ⟨Or.inr (Or.inr ⟨by omega, h9, Or.inr ⟨rfl, fun x a b => by first | exact fun h => hno 0 (by omega) (by omega) ((inAt_0 c38 x 0).mp h) | (rcases Int.lt_or_le x k with g | g; exact hno x a g; exact inAt_no c38 (by omega))⟩⟩), hf1, hR1⟩⟩
          · skip
            refine x_aload_n G 0 rfl rfl dX7_enters_74 ?_
            refine x_iload_n G 2 rfl rfl dX7_enters_75 ?_
            refine x_aload_n G 0 rfl rfl dX7_enters_76 ?_
            refine x_get G (xR 196) xf7_0 lk_X7_7 (ly_n hY 195 (by decide)) (ly_k hY 195 (by decide)) (Or.inr ⟨rfl, _, (ly_r hY 195 0 (by decide) (by decide)), rfl⟩) dX7_enters_77 ?_
            refine x_iconst G (by decide) dX7_enters_80 ?_
            refine x_iald G (ly_n hY 196 (by decide)) (ly_k hY 196 (by decide)) (show _ = 511 from ly_l hY 196 (by decide)) (by omega) (by omega) dX7_enters_81 ?_
            show xX Γ 0 0 n T 82 [(0, xR 195), (1, xI i), (2, xI (V 4 i.toNat)), (3, xI (V 12 (V 4 i.toNat).toNat)), (4, xI 0), (5, xI k)] [xI (N1 196 0), xI (V 4 i.toNat), xR 195] N1
            rw [show N1 196 0 = (V 0 11) from (mr_cg hN (hf1.1 196 (by omega))).1.1]
            refine x_iload G 5 rfl dX7_enters_82 ?_
            refine x_iadd G (by omega) dX7_enters_84 ?_
            refine x_iload_n G 3 rfl rfl dX7_enters_85 ?_
            refine x_aload_n G 0 rfl rfl dX7_enters_86 ?_
            refine x_get G (xR 196) xf7_0 lk_X7_7 (ly_n hY 195 (by decide)) (ly_k hY 195 (by decide)) (Or.inr ⟨rfl, _, (ly_r hY 195 0 (by decide) (by decide)), rfl⟩) dX7_enters_87 ?_
            refine x_iconst G (by decide) dX7_enters_90 ?_
            refine x_iald G (ly_n hY 196 (by decide)) (ly_k hY 196 (by decide)) (show _ = 511 from ly_l hY 196 (by decide)) (by omega) (by omega) dX7_enters_91 ?_
            show xX Γ 0 0 n T 92 [(0, xR 195), (1, xI i), (2, xI (V 4 i.toNat)), (3, xI (V 12 (V 4 i.toNat).toNat)), (4, xI 0), (5, xI k)] [xI (N1 196 2), xI (V 12 (V 4 i.toNat).toNat), xI ((V 0 11) + k), xI (V 4 i.toNat), xR 195] N1
            rw [show N1 196 2 = (V 0 10) from (mr_cg hN (hf1.1 196 (by omega))).1.2.2]
            refine x_callVV G [] [xI (V 4 i.toNat), xI ((V 0 11) + k), xI (V 12 (V 4 i.toNat).toNat), xI (V 0 10)] rfl (by decide) (ly_n hY 195 (by decide)) (ly_k hY 195 (by decide)) hy_X7_lays hi_X7_lays hs_X7_lays ml_X7_124 rfl rfl (kX7_lays _ _ V (V 4 i.toNat) ((V 0 11) + k) (V 12 (V 4 i.toNat).toNat) (V 0 10) hY (mr_cg hN (hf1.1 196 (by omega))) hv hs hR1 (by omega) (by omega) (by omega)) (by decide) (by decide) (Nat.le_of_ble_eq_true rfl) dX7_enters_92 (fun M92 h92 => ?_)
            have hn92 := h92.1.1
            have hl92 : (alL V (V 4 i.toNat) ((V 0 11) + k) (V 12 (V 4 i.toNat).toNat) (V 0 10)).length ≤ 100 := alL_len hv _ _ _ _
            refine x_aload_n G 0 rfl rfl dX7_enters_95 ?_
            refine x_aload_n G 0 rfl rfl dX7_enters_96 ?_
            refine x_get G (xR 196) xf7_0 lk_X7_7 (ly_n hY 195 (by decide)) (ly_k hY 195 (by decide)) (Or.inr ⟨rfl, _, (ly_r hY 195 0 (by decide) (by decide)), rfl⟩) dX7_enters_97 ?_
            refine x_iconst G (by decide) dX7_enters_100 ?_
            refine x_iload_n G 2 rfl rfl dX7_enters_101 ?_
            refine x_iadd G (by omega) dX7_enters_102 ?_
            refine x_iald G (ly_n hY 196 (by decide)) (ly_k hY 196 (by decide)) (show _ = 511 from ly_l hY 196 (by decide)) (by omega) (by omega) dX7_enters_103 ?_
            rw [show M92 196 (3 + (V 4 i.toNat)).toNat = (V 11 (V 4 i.toNat).toNat) from (mr_sz (mr_cg (mr_cg hN (hf1.1 196 (by omega))) (h92.2.1.1 196 (by omega))) (by omega))]
            refine x_callVV G [] [xI (V 11 (V 4 i.toNat).toNat)] rfl (by decide) (ly_n hY 195 (by decide)) (ly_k hY 195 (by decide)) hy_X7_cuts hi_X7_cuts hs_X7_cuts ml_X7_131 rfl rfl (kX7_cuts _ _ (alL V (V 4 i.toNat) ((V 0 11) + k) (V 12 (V 4 i.toNat).toNat) (V 0 10)) (V 11 (V 4 i.toNat).toNat) hY h92.1 hl92 (by omega)) (by decide) (by decide) (Nat.le_of_ble_eq_true rfl) dX7_enters_104 (fun M104 h104 => ?_)
            subst h104
            show xX Γ 0 0 n T 107 [(0, xR 195), (1, xI i), (2, xI (V 4 i.toNat)), (3, xI (V 12 (V 4 i.toNat).toNat)), (4, xI 0), (5, xI k)] [] (xst M92 195 8 (((alL V (V 4 i.toNat) ((V 0 11) + k) (V 12 (V 4 i.toNat).toNat) (V 0 10)).take (V 11 (V 4 i.toNat).toNat).toNat).length : Int))
            refine x_aload_n G 0 rfl rfl dX7_enters_107 ?_
            refine x_iload_n G 1 rfl rfl dX7_enters_108 ?_
            refine x_callVp G [] [xI i] rfl (by decide) (ly_n hY 195 (by decide)) (ly_k hY 195 (by decide)) hy_X7_placeOf hi_X7_placeOf hs_X7_placeOf ml_X7_140 rfl rfl (kX7_placeOf _ _ ((alL V (V 4 i.toNat) ((V 0 11) + k) (V 12 (V 4 i.toNat).toNat) (V 0 10)).take (V 11 (V 4 i.toNat).toNat).toNat) i hY (rw_take h92.1 (xst_same ..) (xst_row (by decide))) (take_len hl92) (by omega)) (by decide) (by decide) (Nat.le_of_ble_eq_true rfl) dX7_enters_109 ?_
            have hin9 := in_by hv hs (i := i.toNat) (T := V 0 11 + k) (w := V 12 (V 4 i.toNat).toNat) (by omega) h9 (by omega)
            refine x_if_lt G 118 (by decide) dX7_enters_112 (fun c112 => ?_) (fun c112 => ?_)
            · skip
              have c112 : ¬ inAt V i.toNat k := fun h => by have h2 := qpl_ge.mpr (hin9.mpr h); omega
              refine x_aload_n G 0 rfl rfl dX7_enters_118 ?_
              refine x_iload_n G 2 rfl rfl dX7_enters_119 ?_
              refine x_iload G 5 rfl dX7_enters_120 ?_
              refine x_callVI G [] [xI (V 4 i.toNat), xI k] rfl (by decide) (ly_n hY 195 (by decide)) (ly_k hY 195 (by decide)) hy_X7_nextDeath hi_X7_nextDeath hs_X7_nextDeath ml_X7_183 rfl rfl (kX7_nextDeath _ _ V (V 4 i.toNat) k hY (mr_cg (mr_cg (mr_cg hN (hf1.1 196 (by omega))) (h92.2.1.1 196 (by omega))) (xst_row (by omega))) hv (by omega) (by omega)) (by decide) (by decide) (Nat.le_of_ble_eq_true rfl) dX7_enters_122 (fun z122 M122 h122 => ?_)
              obtain ⟨hq122, hm122⟩ := h122
              have hm122 := hm122.symm
              subst hm122
              refine x_istore G [(5, xI z122), (0, xR 195), (1, xI i), (2, xI (V 4 i.toNat)), (3, xI (V 12 (V 4 i.toNat).toNat)), (4, xI 0)] (by decide) rfl dX7_enters_125 ?_
              refine x_goto G 67 (by decide) dX7_enters_127 ?_
              refine x_sub [(0, xR 195), (1, xI i), (2, xI (V 4 i.toNat)), (3, xI (V 12 (V 4 i.toNat).toNat)), (4, xI 0), (5, xI z122)] [1, 2, 3, 4, 5, 0] rfl ?_
              exact ih67 _ (by omega) z122 (xst M92 195 8 (((alL V (V 4 i.toNat) ((V 0 11) + k) (V 12 (V 4 i.toNat).toNat) (V 0 10)).take (V 11 (V 4 i.toNat).toNat).toNat).length : Int)) rfl (by omega) ((mfr_st (mfr_tr hf1 (mfx_w 207 h92.2.1 (by decide))) (by omega))) ((rk_cg h92.2.2 (xst_nq (by omega)) (xst_row (by omega)))) (fun x a b => by rcases Int.lt_or_le x k with g | g; exact hno x a g; exact fun h => c112 ((inAt_cg hv (by omega) h9 hq122.2 g b).mp h))
            · skip
              have c112 : inAt V i.toNat k := hin9.mp (qpl_ge.mp (by omega))
              refine x_iload G 5 rfl dX7_enters_115 ?_
              exact x_iret G Rt dX7_enters_117 ⟨rfl, rfl, _, rfl, ⟨Or.inr (Or.inr ⟨by omega, h9, Or.inl ⟨by omega, c112, hno⟩⟩), (mfr_st (mfr_tr hf1 (mfx_w 207 h92.2.1 (by decide))) (by omega)), (rk_cg h92.2.2 (xst_nq (by omega)) (xst_row (by omega)))⟩⟩
        refine x_sub [(0, xR 195), (1, xI i), (2, xI (V 4 i.toNat)), (3, xI (V 12 (V 4 i.toNat).toNat)), (4, xI 0), (5, xI 0)] [4, 5, 3, 2, 1, 0] rfl ?_
        exact loop67 _ 0 M rfl (by omega) ((mfr_refl _)) (hR) (by intro x a b; omega)
    · skip
      have c15 := b2i_ne0.mp c15
      refine x_bipush G (by decide) dX7_enters_18 ?_
      exact x_iret G Rt dX7_enters_20 ⟨rfl, rfl, _, rfl, ⟨Or.inr (Or.inl ⟨by omega, c15, rfl⟩), (mfr_refl _), hR⟩⟩
  · skip
    have c5 := b2i_eq0.mp c5
    refine x_iconst G (by decide) dX7_enters_8 ?_
    exact x_iret G Rt dX7_enters_9 ⟨rfl, rfl, _, rfl, ⟨Or.inl ⟨by omega, rfl⟩, (mfr_refl _), hR⟩⟩
