theorem mr_set4 {M V : xM} {a i : Nat} {z : Int} (h : mrel (M 196) V) (h9 : V 9 i = 0) (ha : a = 11 + 5 * i) : mrel (xst M 196 a z 196) (xst V 4 i z) := by
  subst ha
  refine ⟨⟨?_, ?_, ?_⟩, fun s hs => ⟨?_, ?_⟩, fun j hj => ?_⟩
  · rw [xst_nq (by omega), xst_nq (by omega)]; exact h.1.1
  · rw [xst_nq (by omega), xst_nq (by omega)]; exact h.1.2.1
  · rw [xst_nq (by omega), xst_nq (by omega)]; exact h.1.2.2
  · rw [xst_nq (by omega), xst_nq (by omega)]; exact (h.2.1 s hs).1
  · rw [xst_nq (by omega), xst_nq (by omega)]; exact (h.2.1 s hs).2
  · have g := h.2.2 j hj
    refine ⟨?_, ?_, ?_, ?_, ?_⟩
    · by_cases e : j = i
      · subst e
        rw [xst_same, xst_same, xst_nq (by omega), h9]; omega
      · rw [xst_nq (by omega), xst_nq (by omega), xst_nq (by omega)]; exact g.1
    · rw [xst_nq (by omega), xst_nq (by omega)]; exact g.2.1
    · rw [xst_nq (by omega), xst_nq (by omega)]; exact g.2.2.1
    · rw [xst_nq (by omega), xst_nq (by omega)]; exact g.2.2.2.1
    · rw [xst_nq (by omega), xst_nq (by omega)]; exact g.2.2.2.2
theorem mr_set9 {M V : xM} {a i : Nat} {z : Int} (h : mrel (M 196) V) (hz : z = 4 + V 4 i) (ha : a = 11 + 5 * i) : mrel (xst M 196 a z 196) (xst V 9 i 1) := by
  subst ha
  refine ⟨⟨?_, ?_, ?_⟩, fun s hs => ⟨?_, ?_⟩, fun j hj => ?_⟩
  · rw [xst_nq (by omega), xst_nq (by omega)]; exact h.1.1
  · rw [xst_nq (by omega), xst_nq (by omega)]; exact h.1.2.1
  · rw [xst_nq (by omega), xst_nq (by omega)]; exact h.1.2.2
  · rw [xst_nq (by omega), xst_nq (by omega)]; exact (h.2.1 s hs).1
  · rw [xst_nq (by omega), xst_nq (by omega)]; exact (h.2.1 s hs).2
  · have g := h.2.2 j hj
    refine ⟨?_, ?_, ?_, ?_, ?_⟩
    · by_cases e : j = i
      · subst e
        rw [xst_same, xst_same, xst_nq (by omega), hz]; omega
      · rw [xst_nq (by omega), xst_nq (by omega), xst_nq (by omega)]; exact g.1
    · rw [xst_nq (by omega), xst_nq (by omega)]; exact g.2.1
    · rw [xst_nq (by omega), xst_nq (by omega)]; exact g.2.2.1
    · rw [xst_nq (by omega), xst_nq (by omega)]; exact g.2.2.2.1
    · rw [xst_nq (by omega), xst_nq (by omega)]; exact g.2.2.2.2
theorem mr_setS {M V : xM} {a s : Nat} {z : Int} (h : mrel (M 196) V) (hs4 : s < 4) (ha : a = 3 + s) : mrel (xst M 196 a z 196) (xst V 11 s z) := by
  subst ha
  refine ⟨⟨?_, ?_, ?_⟩, fun s2 hs => ⟨?_, ?_⟩, fun j hj => ?_⟩
  · rw [xst_nq (by omega), xst_nq (by omega)]; exact h.1.1
  · rw [xst_nq (by omega), xst_nq (by omega)]; exact h.1.2.1
  · rw [xst_nq (by omega), xst_nq (by omega)]; exact h.1.2.2
  · by_cases e : s2 = s
    · subst e; rw [xst_same, xst_same]
    · rw [xst_nq (by omega), xst_nq (by omega)]; exact (h.2.1 s2 hs).1
  · rw [xst_nq (by omega), xst_nq (by omega)]; exact (h.2.1 s2 hs).2
  · have g := h.2.2 j hj
    refine ⟨?_, ?_, ?_, ?_, ?_⟩
    · rw [xst_nq (by omega), xst_nq (by omega), xst_nq (by omega)]; exact g.1
    · rw [xst_nq (by omega), xst_nq (by omega)]; exact g.2.1
    · rw [xst_nq (by omega), xst_nq (by omega)]; exact g.2.2.1
    · rw [xst_nq (by omega), xst_nq (by omega)]; exact g.2.2.2.1
    · rw [xst_nq (by omega), xst_nq (by omega)]; exact g.2.2.2.2
theorem mr_setW {M V : xM} {a s : Nat} {z : Int} (h : mrel (M 196) V) (hs4 : s < 4) (ha : a = 7 + s) : mrel (xst M 196 a z 196) (xst V 12 s z) := by
  subst ha
  refine ⟨⟨?_, ?_, ?_⟩, fun s2 hs => ⟨?_, ?_⟩, fun j hj => ?_⟩
  · rw [xst_nq (by omega), xst_nq (by omega)]; exact h.1.1
  · rw [xst_nq (by omega), xst_nq (by omega)]; exact h.1.2.1
  · rw [xst_nq (by omega), xst_nq (by omega)]; exact h.1.2.2
  · rw [xst_nq (by omega), xst_nq (by omega)]; exact (h.2.1 s2 hs).1
  · by_cases e : s2 = s
    · subst e; rw [xst_same, xst_same]
    · rw [xst_nq (by omega), xst_nq (by omega)]; exact (h.2.1 s2 hs).2
  · have g := h.2.2 j hj
    refine ⟨?_, ?_, ?_, ?_, ?_⟩
    · rw [xst_nq (by omega), xst_nq (by omega), xst_nq (by omega)]; exact g.1
    · rw [xst_nq (by omega), xst_nq (by omega)]; exact g.2.1
    · rw [xst_nq (by omega), xst_nq (by omega)]; exact g.2.2.1
    · rw [xst_nq (by omega), xst_nq (by omega)]; exact g.2.2.2.1
    · rw [xst_nq (by omega), xst_nq (by omega)]; exact g.2.2.2.2
theorem mr_tick {M V : xM} {z : Int} (h : mrel (M 196) V) : mrel (xst M 196 0 z 196) (xst V 0 11 z) := by
  refine ⟨⟨?_, ?_, ?_⟩, fun s hs => ⟨?_, ?_⟩, fun i hi => ⟨?_, ?_, ?_, ?_, ?_⟩⟩
  · rw [xst_same, xst_same]
  · rw [xst_nq (by omega), xst_nq (by omega)]; exact h.1.2.1
  · rw [xst_nq (by omega), xst_nq (by omega)]; exact h.1.2.2
  · rw [xst_nq (by omega), xst_nq (by omega)]; exact (h.2.1 s hs).1
  · rw [xst_nq (by omega), xst_nq (by omega)]; exact (h.2.1 s hs).2
  all_goals (have g := h.2.2 i hi)
  · rw [xst_nq (by omega), xst_nq (by omega), xst_nq (by omega)]; exact g.1
  · rw [xst_nq (by omega), xst_nq (by omega)]; exact g.2.1
  · rw [xst_nq (by omega), xst_nq (by omega)]; exact g.2.2.1
  · rw [xst_nq (by omega), xst_nq (by omega)]; exact g.2.2.2.1
  · rw [xst_nq (by omega), xst_nq (by omega)]; exact g.2.2.2.2
theorem maf_ka {M M1 M2 : xM} (h : mafr M M1) (h2 : (∀ q, q ≠ 195 → q ≠ 197 → M2 q = M1 q) ∧ ∀ j, j ≠ 2 → j ≠ 10 → M2 195 j = M1 195 j) : mafr M M2 := ⟨fun q hq => (h2.1 q (by omega) (by omega)).trans (h.1 q hq), (h2.2 18 (by decide) (by decide)).trans h.2⟩
theorem maf_cn {M M1 M2 : xM} (h : mafr M M1) (h2 : (∀ q, q ≠ 195 → q ≠ 196 → M2 q = M1 q) ∧ ∀ j, j ≠ 10 → M2 195 j = M1 195 j) : mafr M M2 := ⟨fun q hq => (h2.1 q (by omega) (by omega)).trans (h.1 q hq), (h2.2 18 (by decide)).trans h.2⟩
theorem mr_add {M V : xM} {c a0 a1 a2 a3 a4 : Nat} {sh lab w lo : Int} (h : mrel (M 196) V) (hv : VOK V) (hc : (c : Int) = V 0 10) (e0 : a0 = 11 + 5 * c) (e1 : a1 = 11 + 5 * c + 1) (e2 : a2 = 11 + 5 * c + 2) (e3 : a3 = 11 + 5 * c + 3) (e4 : a4 = 11 + 5 * c + 4) : mrel (xst (xst (xst (xst (xst (xst M 196 a0 sh) 196 a1 lab) 196 a2 w) 196 a3 lo) 196 a4 (V 0 11)) 196 2 (V 0 10 + 1) 196) (addV V sh lab w lo) := by
  subst e0 e1 e2 e3 e4
  have hcn : (V 0 10).toNat = c := by omega
  refine ⟨⟨?_, ?_, ?_⟩, fun s hs => ⟨?_, ?_⟩, fun j hj => ?_⟩
  · simp (disch := omega) only [xst_nq]; exact h.1.1
  · simp (disch := omega) only [xst_nq]; exact h.1.2.1
  · exact (xst_same ..).trans (xst_same ..).symm
  · simp (disch := omega) only [xst_nq]; exact (h.2.1 s hs).1
  · simp (disch := omega) only [xst_nq]; exact (h.2.1 s hs).2
  · have hj : (j : Int) < V 0 10 + 1 := hj
    unfold addV
    rw [hcn]
    by_cases e : j = c
    · subst e
      refine ⟨?_, ?_, ?_, ?_, ?_⟩ <;> simp [xst_eq] <;> (intro g; omega)
    · have g := h.2.2 j (by omega)
      refine ⟨?_, ?_, ?_, ?_, ?_⟩ <;> simp (disch := omega) only [xst_nq]
      · exact g.1
      · exact g.2.1
      · exact g.2.2.1
      · exact g.2.2.2.1
      · exact g.2.2.2.2
set_option maxRecDepth 100000 in
set_option maxHeartbeats 4000000 in
theorem kX7_sets (D : xD) (l : Launch) {n : Nat} {T : xT} {M : xM} (i w z : Int) (hY : LayOK n T) (hi : 0 ≤ i ∧ i ≤ 99) (hw : 0 ≤ w ∧ w ≤ 4) : xC D l uX7_sets 0 0 0 0 [xR 195, xI i, xI w, xI z] n T M (xPV n T (fun M2 => M2 = xst M 196 ((11 + (5 * i)) + w).toNat z)) := by
  refine x_met uX7_sets (by decide) (Nat.le_of_ble_eq_true rfl) ?_
  intro Γ G Rt _
  have G : xG Γ RX7 cX7_sets 4 0 0 0 0 := G
  have Rt : xRt Γ (xPV n T (fun M2 => M2 = xst M 196 ((11 + (5 * i)) + w).toNat z)) none 0 0 := Rt
  show xX Γ 0 0 n T 0 [(0, xR 195), (1, xI i), (2, xI w), (3, xI z)] [] M
  refine x_aload_n G 0 rfl rfl dX7_sets_0 ?_
  refine x_get G (xR 196) xf7_0 lk_X7_7 (ly_n hY 195 (by decide)) (ly_k hY 195 (by decide)) (Or.inr ⟨rfl, _, (ly_r hY 195 0 (by decide) (by decide)), rfl⟩) dX7_sets_1 ?_
  refine x_bipush G (by decide) dX7_sets_4 ?_
  refine x_iconst G (by decide) dX7_sets_6 ?_
  refine x_iload_n G 1 rfl rfl dX7_sets_7 ?_
  refine x_imul G (by omega) dX7_sets_8 ?_
  refine x_iadd G (by omega) dX7_sets_9 ?_
  refine x_iload_n G 2 rfl rfl dX7_sets_10 ?_
  refine x_iadd G (by omega) dX7_sets_11 ?_
  refine x_iload_n G 3 rfl rfl dX7_sets_12 ?_
  refine x_iast G (ly_n hY 196 (by decide)) (ly_k hY 196 (by decide)) (show _ = 511 from ly_l hY 196 (by decide)) (by omega) (by omega) dX7_sets_13 ?_
  exact x_vret G Rt dX7_sets_14 ⟨rfl, rfl, rfl, rfl⟩
set_option maxRecDepth 100000 in
set_option maxHeartbeats 4000000 in
theorem kX7_comesNew (D : xD) (l : Launch) {n : Nat} {T : xT} {M : xM} (V : xM) (sh lab w lo : Int) (hY : LayOK n T) (hN : mrel (M 196) V) (hv : VOK V) (hlt : V 0 10 < 100) : xC D l uX7_comesNew 1 23 0 0 [xR 195, xI sh, xI lab, xI w, xI lo] n T M (xPI n T (fun z M2 => z = V 0 10 ∧ mrel (M2 196) (addV V sh lab w lo) ∧ M2 195 10 = 0 ∧ (∀ q, q ≠ 195 → q ≠ 196 → M2 q = M q) ∧ ∀ j, j ≠ 10 → M2 195 j = M 195 j)) := by
  refine x_met uX7_comesNew (by decide) (Nat.le_of_ble_eq_true rfl) ?_
  intro Γ G Rt _
  have G : xG Γ RX7 cX7_comesNew 6 1 23 0 0 := G
  have Rt : xRt Γ (xPI n T (fun z M2 => z = V 0 10 ∧ mrel (M2 196) (addV V sh lab w lo) ∧ M2 195 10 = 0 ∧ (∀ q, q ≠ 195 → q ≠ 196 → M2 q = M q) ∧ ∀ j, j ≠ 10 → M2 195 j = M 195 j)) (some .int) 0 0 := Rt
  show xX Γ 0 0 n T 0 [(0, xR 195), (1, xI sh), (2, xI lab), (3, xI w), (4, xI lo)] [] M
  have hc := ok_c hv
  refine x_aload_n G 0 rfl rfl dX7_comesNew_0 ?_
  refine x_get G (xR 196) xf7_0 lk_X7_7 (ly_n hY 195 (by decide)) (ly_k hY 195 (by decide)) (Or.inr ⟨rfl, _, (ly_r hY 195 0 (by decide) (by decide)), rfl⟩) dX7_comesNew_1 ?_
  refine x_iconst G (by decide) dX7_comesNew_4 ?_
  refine x_iald G (ly_n hY 196 (by decide)) (ly_k hY 196 (by decide)) (show _ = 511 from ly_l hY 196 (by decide)) (by omega) (by omega) dX7_comesNew_5 ?_
  show xX Γ 0 0 n T 6 [(0, xR 195), (1, xI sh), (2, xI lab), (3, xI w), (4, xI lo)] [xI (M 196 2)] M
  rw [show M 196 2 = (V 0 10) from hN.1.2.2]
  refine x_istore G [(5, xI (V 0 10)), (0, xR 195), (1, xI sh), (2, xI lab), (3, xI w), (4, xI lo)] (by decide) rfl dX7_comesNew_6 ?_
  refine x_aload_n G 1 rfl rfl dX7_comesNew_8 ?_
  refine x_iload G 0 rfl dX7_comesNew_9 ?_
  refine x_iconst G (by decide) dX7_comesNew_11 ?_
  refine x_iload_n G 2 rfl rfl dX7_comesNew_12 ?_
  refine x_callVV G [] [xI (V 0 10), xI 0, xI sh] rfl (by decide) (ly_n hY 195 (by decide)) (ly_k hY 195 (by decide)) hy_X7_sets hi_X7_sets hs_X7_sets ml_X7_212 rfl rfl (kX7_sets _ _ (V 0 10) 0 sh hY (by omega) (by decide)) (by decide) (by decide) (Nat.le_of_ble_eq_true rfl) dX7_comesNew_13 (fun M13 h13 => ?_)
  subst h13
  show xX Γ 0 0 n T 16 [(5, xI (V 0 10)), (0, xR 195), (1, xI sh), (2, xI lab), (3, xI w), (4, xI lo)] [] (xst M 196 ((11 + (5 * (V 0 10))) + 0).toNat sh)
  refine x_aload_n G 1 rfl rfl dX7_comesNew_16 ?_
  refine x_iload G 0 rfl dX7_comesNew_17 ?_
  refine x_iconst G (by decide) dX7_comesNew_19 ?_
  refine x_iload_n G 3 rfl rfl dX7_comesNew_20 ?_
  refine x_callVV G [] [xI (V 0 10), xI 1, xI lab] rfl (by decide) (ly_n hY 195 (by decide)) (ly_k hY 195 (by decide)) hy_X7_sets hi_X7_sets hs_X7_sets ml_X7_212 rfl rfl (kX7_sets _ _ (V 0 10) 1 lab hY (by omega) (by decide)) (by decide) (by decide) (Nat.le_of_ble_eq_true rfl) dX7_comesNew_21 (fun M21 h21 => ?_)
  subst h21
  show xX Γ 0 0 n T 24 [(5, xI (V 0 10)), (0, xR 195), (1, xI sh), (2, xI lab), (3, xI w), (4, xI lo)] [] (xst (xst M 196 ((11 + (5 * (V 0 10))) + 0).toNat sh) 196 ((11 + (5 * (V 0 10))) + 1).toNat lab)
  refine x_aload_n G 1 rfl rfl dX7_comesNew_24 ?_
  refine x_iload G 0 rfl dX7_comesNew_25 ?_
  refine x_iconst G (by decide) dX7_comesNew_27 ?_
  refine x_iload_n G 4 rfl rfl dX7_comesNew_28 ?_
  refine x_callVV G [] [xI (V 0 10), xI 2, xI w] rfl (by decide) (ly_n hY 195 (by decide)) (ly_k hY 195 (by decide)) hy_X7_sets hi_X7_sets hs_X7_sets ml_X7_212 rfl rfl (kX7_sets _ _ (V 0 10) 2 w hY (by omega) (by decide)) (by decide) (by decide) (Nat.le_of_ble_eq_true rfl) dX7_comesNew_29 (fun M29 h29 => ?_)
  subst h29
  show xX Γ 0 0 n T 32 [(5, xI (V 0 10)), (0, xR 195), (1, xI sh), (2, xI lab), (3, xI w), (4, xI lo)] [] (xst (xst (xst M 196 ((11 + (5 * (V 0 10))) + 0).toNat sh) 196 ((11 + (5 * (V 0 10))) + 1).toNat lab) 196 ((11 + (5 * (V 0 10))) + 2).toNat w)
  refine x_aload_n G 1 rfl rfl dX7_comesNew_32 ?_
  refine x_iload G 0 rfl dX7_comesNew_33 ?_
  refine x_iconst G (by decide) dX7_comesNew_35 ?_
  refine x_iload G 5 rfl dX7_comesNew_36 ?_
  refine x_callVV G [] [xI (V 0 10), xI 3, xI lo] rfl (by decide) (ly_n hY 195 (by decide)) (ly_k hY 195 (by decide)) hy_X7_sets hi_X7_sets hs_X7_sets ml_X7_212 rfl rfl (kX7_sets _ _ (V 0 10) 3 lo hY (by omega) (by decide)) (by decide) (by decide) (Nat.le_of_ble_eq_true rfl) dX7_comesNew_38 (fun M38 h38 => ?_)
  subst h38
  show xX Γ 0 0 n T 41 [(5, xI (V 0 10)), (0, xR 195), (1, xI sh), (2, xI lab), (3, xI w), (4, xI lo)] [] (xst (xst (xst (xst M 196 ((11 + (5 * (V 0 10))) + 0).toNat sh) 196 ((11 + (5 * (V 0 10))) + 1).toNat lab) 196 ((11 + (5 * (V 0 10))) + 2).toNat w) 196 ((11 + (5 * (V 0 10))) + 3).toNat lo)
  refine x_aload_n G 1 rfl rfl dX7_comesNew_41 ?_
  refine x_iload G 0 rfl dX7_comesNew_42 ?_
  refine x_iconst G (by decide) dX7_comesNew_44 ?_
  refine x_aload_n G 1 rfl rfl dX7_comesNew_45 ?_
  refine x_get G (xR 196) xf7_0 lk_X7_7 (ly_n hY 195 (by decide)) (ly_k hY 195 (by decide)) (Or.inr ⟨rfl, _, (ly_r hY 195 0 (by decide) (by decide)), rfl⟩) dX7_comesNew_46 ?_
  refine x_iconst G (by decide) dX7_comesNew_49 ?_
  refine x_iald G (ly_n hY 196 (by decide)) (ly_k hY 196 (by decide)) (show _ = 511 from ly_l hY 196 (by decide)) (by omega) (by omega) dX7_comesNew_50 ?_
  show xX Γ 0 0 n T 51 [(5, xI (V 0 10)), (0, xR 195), (1, xI sh), (2, xI lab), (3, xI w), (4, xI lo)] [xI ((xst (xst (xst (xst M 196 ((11 + (5 * (V 0 10))) + 0).toNat sh) 196 ((11 + (5 * (V 0 10))) + 1).toNat lab) 196 ((11 + (5 * (V 0 10))) + 2).toNat w) 196 ((11 + (5 * (V 0 10))) + 3).toNat lo) 196 0), xI 4, xI (V 0 10), xR 195] (xst (xst (xst (xst M 196 ((11 + (5 * (V 0 10))) + 0).toNat sh) 196 ((11 + (5 * (V 0 10))) + 1).toNat lab) 196 ((11 + (5 * (V 0 10))) + 2).toNat w) 196 ((11 + (5 * (V 0 10))) + 3).toNat lo)
  rw [show (xst (xst (xst (xst M 196 ((11 + (5 * (V 0 10))) + 0).toNat sh) 196 ((11 + (5 * (V 0 10))) + 1).toNat lab) 196 ((11 + (5 * (V 0 10))) + 2).toNat w) 196 ((11 + (5 * (V 0 10))) + 3).toNat lo) 196 0 = V 0 11 from by rw [xst_nq (by omega), xst_nq (by omega), xst_nq (by omega), xst_nq (by omega)]; exact hN.1.1]
  skip
  refine x_callVV G [] [xI (V 0 10), xI 4, xI (V 0 11)] rfl (by decide) (ly_n hY 195 (by decide)) (ly_k hY 195 (by decide)) hy_X7_sets hi_X7_sets hs_X7_sets ml_X7_212 rfl rfl (kX7_sets _ _ (V 0 10) 4 (V 0 11) hY (by omega) (by decide)) (by decide) (by decide) (Nat.le_of_ble_eq_true rfl) dX7_comesNew_51 (fun M51 h51 => ?_)
  subst h51
  show xX Γ 0 0 n T 54 [(5, xI (V 0 10)), (0, xR 195), (1, xI sh), (2, xI lab), (3, xI w), (4, xI lo)] [] (xst (xst (xst (xst (xst M 196 ((11 + (5 * (V 0 10))) + 0).toNat sh) 196 ((11 + (5 * (V 0 10))) + 1).toNat lab) 196 ((11 + (5 * (V 0 10))) + 2).toNat w) 196 ((11 + (5 * (V 0 10))) + 3).toNat lo) 196 ((11 + (5 * (V 0 10))) + 4).toNat (V 0 11))
  refine x_aload_n G 1 rfl rfl dX7_comesNew_54 ?_
  refine x_get G (xR 196) xf7_0 lk_X7_7 (ly_n hY 195 (by decide)) (ly_k hY 195 (by decide)) (Or.inr ⟨rfl, _, (ly_r hY 195 0 (by decide) (by decide)), rfl⟩) dX7_comesNew_55 ?_
  refine x_iconst G (by decide) dX7_comesNew_58 ?_
  refine x_dup2 G rfl rfl dX7_comesNew_59 ?_
  refine x_iald G (ly_n hY 196 (by decide)) (ly_k hY 196 (by decide)) (show _ = 511 from ly_l hY 196 (by decide)) (by omega) (by omega) dX7_comesNew_60 ?_
  show xX Γ 0 0 n T 61 [(5, xI (V 0 10)), (0, xR 195), (1, xI sh), (2, xI lab), (3, xI w), (4, xI lo)] [xI ((xst (xst (xst (xst (xst M 196 ((11 + (5 * (V 0 10))) + 0).toNat sh) 196 ((11 + (5 * (V 0 10))) + 1).toNat lab) 196 ((11 + (5 * (V 0 10))) + 2).toNat w) 196 ((11 + (5 * (V 0 10))) + 3).toNat lo) 196 ((11 + (5 * (V 0 10))) + 4).toNat (V 0 11)) 196 2), xI 2, xR 196] (xst (xst (xst (xst (xst M 196 ((11 + (5 * (V 0 10))) + 0).toNat sh) 196 ((11 + (5 * (V 0 10))) + 1).toNat lab) 196 ((11 + (5 * (V 0 10))) + 2).toNat w) 196 ((11 + (5 * (V 0 10))) + 3).toNat lo) 196 ((11 + (5 * (V 0 10))) + 4).toNat (V 0 11))
  rw [show (xst (xst (xst (xst (xst M 196 ((11 + (5 * (V 0 10))) + 0).toNat sh) 196 ((11 + (5 * (V 0 10))) + 1).toNat lab) 196 ((11 + (5 * (V 0 10))) + 2).toNat w) 196 ((11 + (5 * (V 0 10))) + 3).toNat lo) 196 ((11 + (5 * (V 0 10))) + 4).toNat (V 0 11)) 196 2 = V 0 10 from by rw [xst_nq (by omega), xst_nq (by omega), xst_nq (by omega), xst_nq (by omega), xst_nq (by omega)]; exact hN.1.2.2]
  skip
  refine x_iconst G (by decide) dX7_comesNew_61 ?_
  refine x_iadd G (by omega) dX7_comesNew_62 ?_
  refine x_iast G (ly_n hY 196 (by decide)) (ly_k hY 196 (by decide)) (show _ = 511 from ly_l hY 196 (by decide)) (by omega) (by omega) dX7_comesNew_63 ?_
  show xX Γ 0 0 n T 64 [(5, xI (V 0 10)), (0, xR 195), (1, xI sh), (2, xI lab), (3, xI w), (4, xI lo)] [] (xst (xst (xst (xst (xst (xst M 196 ((11 + (5 * (V 0 10))) + 0).toNat sh) 196 ((11 + (5 * (V 0 10))) + 1).toNat lab) 196 ((11 + (5 * (V 0 10))) + 2).toNat w) 196 ((11 + (5 * (V 0 10))) + 3).toNat lo) 196 ((11 + (5 * (V 0 10))) + 4).toNat (V 0 11)) 196 2 ((V 0 10) + 1))
  refine x_aload_n G 1 rfl rfl dX7_comesNew_64 ?_
  refine x_iconst G (by decide) dX7_comesNew_65 ?_
  refine x_putz G (by omega) xf7_10 lk_X7_107 (ly_n hY 195 (by decide)) (ly_k hY 195 (by decide)) rfl dX7_comesNew_66 ?_
  refine x_iload G 0 rfl dX7_comesNew_69 ?_
  exact x_iret G Rt dX7_comesNew_71 ⟨rfl, rfl, _, rfl, ⟨rfl, mr_cg (mr_add (c := (V 0 10).toNat) hN hv (by omega) (by omega) (by omega) (by omega) (by omega) (by omega)) (xst_row (by decide)), xst_same .., fun q h1 h2 => by rw [xst_row h1, xst_row h2, xst_row h2, xst_row h2, xst_row h2, xst_row h2, xst_row h2], fun j hj => by rw [xst_nq (Or.inr hj), xst_row (by decide), xst_row (by decide), xst_row (by decide), xst_row (by decide), xst_row (by decide), xst_row (by decide)]⟩⟩
set_option maxRecDepth 100000 in
set_option maxHeartbeats 4000000 in
theorem kX7_becomes (D : xD) (l : Launch) {n : Nat} {T : xT} {M : xM} (V V2 : xM) (Hs : List xM) (ov at9 m : Int) (hY : LayOK n T) (hN : mrel (M 196) V) (hv : VOK V) (hH : mhst M Hs) (ha : 0 ≤ at9 ∧ at9 < 511) (hov : M 196 at9.toNat = ov) (h2 : mrel (xst M 196 at9.toNat m 196) V2) : xC D l uX7_becomes 1 21 0 0 [xR 195, xI at9, xI m] n T M (xPI n T (fun z M2 => (ov = m ∧ z = -2 ∧ M2 = M) ∨ (¬ ov = m ∧ z = ov ∧ mrel (M2 196) V2 ∧ mhst M2 ((V :: Hs).take 10) ∧ M2 195 10 = 0 ∧ mafr M M2))) := by
  refine x_met uX7_becomes (by decide) (Nat.le_of_ble_eq_true rfl) ?_
  intro Γ G Rt _
  have G : xG Γ RX7 cX7_becomes 4 1 21 0 0 := G
  have Rt : xRt Γ (xPI n T (fun z M2 => (ov = m ∧ z = -2 ∧ M2 = M) ∨ (¬ ov = m ∧ z = ov ∧ mrel (M2 196) V2 ∧ mhst M2 ((V :: Hs).take 10) ∧ M2 195 10 = 0 ∧ mafr M M2))) (some .int) 0 0 := Rt
  show xX Γ 0 0 n T 0 [(0, xR 195), (1, xI at9), (2, xI m)] [] M
  refine x_aload_n G 0 rfl rfl dX7_becomes_0 ?_
  refine x_get G (xR 196) xf7_0 lk_X7_7 (ly_n hY 195 (by decide)) (ly_k hY 195 (by decide)) (Or.inr ⟨rfl, _, (ly_r hY 195 0 (by decide) (by decide)), rfl⟩) dX7_becomes_1 ?_
  refine x_iload_n G 1 rfl rfl dX7_becomes_4 ?_
  refine x_iald G (ly_n hY 196 (by decide)) (ly_k hY 196 (by decide)) (show _ = 511 from ly_l hY 196 (by decide)) (by omega) (by omega) dX7_becomes_5 ?_
  rw [hov]
  skip
  refine x_istore_n G [(3, xI ov), (0, xR 195), (1, xI at9), (2, xI m)] rfl (by decide) rfl dX7_becomes_6 ?_
  refine x_iload_n G 0 rfl rfl dX7_becomes_7 ?_
  refine x_iload_n G 3 rfl rfl dX7_becomes_8 ?_
  refine x_icmp_ne G 15 (by decide) dX7_becomes_9 (fun c9 => ?_) (fun c9 => ?_)
  · skip
    refine x_aload_n G 1 rfl rfl dX7_becomes_15 ?_
    refine x_callVV G [] [] rfl (by decide) (ly_n hY 195 (by decide)) (ly_k hY 195 (by decide)) hy_X7_keepsAct hi_X7_keepsAct hs_X7_keepsAct ml_X7_216 rfl rfl (kX7_keepsAct _ _ V Hs hY hN hv hH) (by decide) (by decide) (Nat.le_of_ble_eq_true rfl) dX7_becomes_16 (fun M16 h16 => ?_)
    refine x_aload_n G 1 rfl rfl dX7_becomes_19 ?_
    refine x_get G (xR 196) xf7_0 lk_X7_7 (ly_n hY 195 (by decide)) (ly_k hY 195 (by decide)) (Or.inr ⟨rfl, _, (ly_r hY 195 0 (by decide) (by decide)), rfl⟩) dX7_becomes_20 ?_
    refine x_iload_n G 2 rfl rfl dX7_becomes_23 ?_
    refine x_iload_n G 3 rfl rfl dX7_becomes_24 ?_
    refine x_iast G (ly_n hY 196 (by decide)) (ly_k hY 196 (by decide)) (show _ = 511 from ly_l hY 196 (by decide)) (by omega) (by omega) dX7_becomes_25 ?_
    refine x_iload_n G 0 rfl rfl dX7_becomes_26 ?_
    exact x_iret G Rt dX7_becomes_27 ⟨rfl, rfl, _, rfl, Or.inr ⟨by omega, rfl, mr_cg h2 (by funext b; rw [xst_eq, xst_eq]; by_cases e : b = at9.toNat; (rw [if_pos ⟨rfl, e⟩, if_pos ⟨rfl, e⟩]); (rw [if_neg (fun g => e g.2), if_neg (fun g => e g.2), h16.2.2.1 196 (by decide) (by decide)])), (mh_cg h16.1 (xst_nq (by omega)) (xst_row (by omega))), ((xst_nq (by omega)).trans h16.2.1), (maf_st (maf_ka (maf_refl _) h16.2.2) (by omega))⟩⟩
  · skip
    refine x_bipush G (by decide) dX7_becomes_12 ?_
    exact x_iret G Rt dX7_becomes_14 ⟨rfl, rfl, _, rfl, Or.inl ⟨by omega, rfl, rfl⟩⟩
set_option maxRecDepth 100000 in
set_option maxHeartbeats 4000000 in
theorem kX7_size (D : xD) (l : Launch) {n : Nat} {T : xT} {M : xM} (V : xM) (Hs : List xM) (sh m : Int) (hY : LayOK n T) (hN : mrel (M 196) V) (hv : VOK V) (hs : Srt V (V 10) (V 0 10).toNat) (hR : Rk M V) (hH : mhst M Hs) : xC D l uX7_size 2 45 0 0 [xR 195, xI sh, xI m] n T M (xPI n T (fun z M2 => z = (aSize V sh m).1 ∧ mrel (M2 196) (nxV V (aSize V sh m)) ∧ mhst M2 (nxH V Hs (aSize V sh m)) ∧ Rk M2 (nxV V (aSize V sh m)) ∧ mafr M M2)) := by
  refine x_met uX7_size (by decide) (Nat.le_of_ble_eq_true rfl) ?_
  intro Γ G Rt _
  have G : xG Γ RX7 cX7_size 3 2 45 0 0 := G
  have Rt : xRt Γ (xPI n T (fun z M2 => z = (aSize V sh m).1 ∧ mrel (M2 196) (nxV V (aSize V sh m)) ∧ mhst M2 (nxH V Hs (aSize V sh m)) ∧ Rk M2 (nxV V (aSize V sh m)) ∧ mafr M M2)) (some .int) 0 0 := Rt
  show xX Γ 0 0 n T 0 [(0, xR 195), (1, xI sh), (2, xI m)] [] M
  have hc := ok_c hv
  refine x_iload_n G 1 rfl rfl dX7_size_0 ?_
  refine x_callSp G [] [xI sh] hy_X7_isShard ht_X7_isShard ml_X7_143 rfl rfl (kX7_isShard _ _ sh) (by decide) (by decide) (Nat.le_of_ble_eq_true rfl) dX7_size_1 ?_
  refine x_if_eq G 30 (by decide) dX7_size_4 (fun c4 => ?_) (fun c4 => ?_)
  · skip
    have c4 := b2i_eq0.mp c4
    refine x_iconst G (by decide) dX7_size_30 ?_
    exact x_iret G Rt dX7_size_31 ⟨rfl, rfl, _, rfl, (by
        have e9 : aSize V sh m = (-1, none) := by unfold aSize; rw [if_neg (by omega)]
        rw [e9]
        exact ⟨rfl, hN, hH, hR, maf_refl _⟩)⟩
  · skip
    have c4 := b2i_ne0.mp c4
    refine x_iload_n G 2 rfl rfl dX7_size_7 ?_
    refine x_i2l G dX7_size_8 ?_
    refine x_lconst G dX7_size_9 ?_
    show xX Γ 0 0 n T 10 [(0, xR 195), (1, xI sh), (2, xI m)] [xL 1, xL m] M
    refine x_ldc2 G (z := 12) (by decide) kc_X7_156 dX7_size_10 ?_
    refine x_callSp G [] [xL m, xL 1, xL 12] hy_X7_in ht_X7_in ml_X7_54 rfl rfl (kX7_in _ _ m 1 12) (by decide) (by decide) (Nat.le_of_ble_eq_true rfl) dX7_size_13 ?_
    refine x_if_eq G 30 (by decide) dX7_size_16 (fun c16 => ?_) (fun c16 => ?_)
    · skip
      have c16 := b2i_eq0.mp c16
      refine x_iconst G (by decide) dX7_size_30 ?_
      exact x_iret G Rt dX7_size_31 ⟨rfl, rfl, _, rfl, (by
        have e9 : aSize V sh m = (-1, none) := by unfold aSize; rw [if_neg (by omega)]
        rw [e9]
        exact ⟨rfl, hN, hH, hR, maf_refl _⟩)⟩
    · skip
      have c16 := b2i_ne0.mp c16
      refine x_aload_n G 0 rfl rfl dX7_size_19 ?_
      refine x_iconst G (by decide) dX7_size_20 ?_
      refine x_iload_n G 1 rfl rfl dX7_size_21 ?_
      refine x_iadd G (by omega) dX7_size_22 ?_
      refine x_iload_n G 2 rfl rfl dX7_size_23 ?_
      refine x_callVI G [] [xI (3 + sh), xI m] rfl (by decide) (ly_n hY 195 (by decide)) (ly_k hY 195 (by decide)) hy_X7_becomes hi_X7_becomes hs_X7_becomes ml_X7_223 rfl rfl (kX7_becomes _ _ V (xst V 11 sh.toNat m) Hs (V 11 sh.toNat) (3 + sh) m hY hN hv hH (by omega) (mr_sz hN (by omega)) (mr_setS hN (by omega) (by omega))) (by decide) (by decide) (Nat.le_of_ble_eq_true rfl) dX7_size_24 (fun z24 M24 h24 => ?_)
      refine x_goto G 31 (by decide) dX7_size_27 ?_
      exact x_iret G Rt dX7_size_31 ⟨rfl, rfl, _, rfl, (by
        rcases h24 with ⟨g1, g2, g3⟩ | ⟨g1, g2, g3, g4, g5, g6⟩
        · have e9 : aSize V sh m = (-2, none) := by unfold aSize; rw [if_pos (by omega), if_pos (by omega)]
          rw [e9, g3]
          exact ⟨g2, hN, hH, hR, maf_refl _⟩
        · have e9 : aSize V sh m = (V 11 sh.toNat, some (xst V 11 sh.toNat m)) := by unfold aSize; rw [if_pos (by omega), if_neg (by omega)]
          rw [e9]
          exact ⟨g2, g3, g4, Or.inl g5, g6⟩)⟩
set_option maxRecDepth 100000 in
set_option maxHeartbeats 4000000 in
theorem kX7_window (D : xD) (l : Launch) {n : Nat} {T : xT} {M : xM} (V : xM) (Hs : List xM) (sh m : Int) (hY : LayOK n T) (hN : mrel (M 196) V) (hv : VOK V) (hs : Srt V (V 10) (V 0 10).toNat) (hR : Rk M V) (hH : mhst M Hs) : xC D l uX7_window 2 45 0 0 [xR 195, xI sh, xI m] n T M (xPI n T (fun z M2 => z = (aWind V sh m).1 ∧ mrel (M2 196) (nxV V (aWind V sh m)) ∧ mhst M2 (nxH V Hs (aWind V sh m)) ∧ Rk M2 (nxV V (aWind V sh m)) ∧ mafr M M2)) := by
  refine x_met uX7_window (by decide) (Nat.le_of_ble_eq_true rfl) ?_
  intro Γ G Rt _
  have G : xG Γ RX7 cX7_window 3 2 45 0 0 := G
  have Rt : xRt Γ (xPI n T (fun z M2 => z = (aWind V sh m).1 ∧ mrel (M2 196) (nxV V (aWind V sh m)) ∧ mhst M2 (nxH V Hs (aWind V sh m)) ∧ Rk M2 (nxV V (aWind V sh m)) ∧ mafr M M2)) (some .int) 0 0 := Rt
  show xX Γ 0 0 n T 0 [(0, xR 195), (1, xI sh), (2, xI m)] [] M
  have hc := ok_c hv
  refine x_iload_n G 1 rfl rfl dX7_window_0 ?_
  refine x_callSp G [] [xI sh] hy_X7_isShard ht_X7_isShard ml_X7_143 rfl rfl (kX7_isShard _ _ sh) (by decide) (by decide) (Nat.le_of_ble_eq_true rfl) dX7_window_1 ?_
  refine x_if_eq G 31 (by decide) dX7_window_4 (fun c4 => ?_) (fun c4 => ?_)
  · skip
    have c4 := b2i_eq0.mp c4
    refine x_iconst G (by decide) dX7_window_31 ?_
    exact x_iret G Rt dX7_window_32 ⟨rfl, rfl, _, rfl, (by
        have e9 : aWind V sh m = (-1, none) := by unfold aWind; rw [if_neg (by omega)]
        rw [e9]
        exact ⟨rfl, hN, hH, hR, maf_refl _⟩)⟩
  · skip
    have c4 := b2i_ne0.mp c4
    refine x_iload_n G 2 rfl rfl dX7_window_7 ?_
    refine x_i2l G dX7_window_8 ?_
    refine x_lconst G dX7_window_9 ?_
    show xX Γ 0 0 n T 10 [(0, xR 195), (1, xI sh), (2, xI m)] [xL 0, xL m] M
    refine x_ldc2 G (z := 9999) (by decide) kc_X7_181 dX7_window_10 ?_
    refine x_callSp G [] [xL m, xL 0, xL 9999] hy_X7_in ht_X7_in ml_X7_54 rfl rfl (kX7_in _ _ m 0 9999) (by decide) (by decide) (Nat.le_of_ble_eq_true rfl) dX7_window_13 ?_
    refine x_if_eq G 31 (by decide) dX7_window_16 (fun c16 => ?_) (fun c16 => ?_)
    · skip
      have c16 := b2i_eq0.mp c16
      refine x_iconst G (by decide) dX7_window_31 ?_
      exact x_iret G Rt dX7_window_32 ⟨rfl, rfl, _, rfl, (by
        have e9 : aWind V sh m = (-1, none) := by unfold aWind; rw [if_neg (by omega)]
        rw [e9]
        exact ⟨rfl, hN, hH, hR, maf_refl _⟩)⟩
    · skip
      have c16 := b2i_ne0.mp c16
      refine x_aload_n G 0 rfl rfl dX7_window_19 ?_
      refine x_bipush G (by decide) dX7_window_20 ?_
      refine x_iload_n G 1 rfl rfl dX7_window_22 ?_
      refine x_iadd G (by omega) dX7_window_23 ?_
      refine x_iload_n G 2 rfl rfl dX7_window_24 ?_
      refine x_callVI G [] [xI (7 + sh), xI m] rfl (by decide) (ly_n hY 195 (by decide)) (ly_k hY 195 (by decide)) hy_X7_becomes hi_X7_becomes hs_X7_becomes ml_X7_223 rfl rfl (kX7_becomes _ _ V (xst V 12 sh.toNat m) Hs (V 12 sh.toNat) (7 + sh) m hY hN hv hH (by omega) (mr_wd hN (by omega)) (mr_setW hN (by omega) (by omega))) (by decide) (by decide) (Nat.le_of_ble_eq_true rfl) dX7_window_25 (fun z25 M25 h25 => ?_)
      refine x_goto G 32 (by decide) dX7_window_28 ?_
      exact x_iret G Rt dX7_window_32 ⟨rfl, rfl, _, rfl, (by
        rcases h25 with ⟨g1, g2, g3⟩ | ⟨g1, g2, g3, g4, g5, g6⟩
        · have e9 : aWind V sh m = (-2, none) := by unfold aWind; rw [if_pos (by omega), if_pos (by omega)]
          rw [e9, g3]
          exact ⟨g2, hN, hH, hR, maf_refl _⟩
        · have e9 : aWind V sh m = (V 12 sh.toNat, some (xst V 12 sh.toNat m)) := by unfold aWind; rw [if_pos (by omega), if_neg (by omega)]
          rw [e9]
          exact ⟨g2, g3, g4, Or.inl g5, g6⟩)⟩
theorem at_0 {N : Nat → Int} {V : xM} (h : mrel N V) {i : Int} (hi : isI V i) (h9 : V 9 i.toNat = 0) : N (11 + (5 * i)).toNat = V 4 i.toNat := by
  have g := (h.2.2 i.toNat (by omega)).1
  rw [show (11 + (5 * i)).toNat = 11 + 5 * i.toNat by omega, g, h9]; omega
set_option maxRecDepth 100000 in
set_option maxHeartbeats 4000000 in
theorem kX7_weigh (D : xD) (l : Launch) {n : Nat} {T : xT} {M : xM} (V : xM) (Hs : List xM) (i w : Int) (hY : LayOK n T) (hN : mrel (M 196) V) (hv : VOK V) (hs : Srt V (V 10) (V 0 10).toNat) (hR : Rk M V) (hH : mhst M Hs) : xC D l uX7_weigh 4 85 0 0 [xR 195, xI i, xI w] n T M (xPI n T (fun z M2 => z = (aWeigh V i w).1 ∧ mrel (M2 196) (nxV V (aWeigh V i w)) ∧ mhst M2 (nxH V Hs (aWeigh V i w)) ∧ Rk M2 (nxV V (aWeigh V i w)) ∧ mafr M M2)) := by
  refine x_met uX7_weigh (by decide) (Nat.le_of_ble_eq_true rfl) ?_
  intro Γ G Rt _
  have G : xG Γ RX7 cX7_weigh 3 4 85 0 0 := G
  have Rt : xRt Γ (xPI n T (fun z M2 => z = (aWeigh V i w).1 ∧ mrel (M2 196) (nxV V (aWeigh V i w)) ∧ mhst M2 (nxH V Hs (aWeigh V i w)) ∧ Rk M2 (nxV V (aWeigh V i w)) ∧ mafr M M2)) (some .int) 0 0 := Rt
  show xX Γ 0 0 n T 0 [(0, xR 195), (1, xI i), (2, xI w)] [] M
  have hc := ok_c hv
  refine x_aload_n G 0 rfl rfl dX7_weigh_0 ?_
  refine x_iload_n G 1 rfl rfl dX7_weigh_1 ?_
  refine x_callVp G [] [xI i] rfl (by decide) (ly_n hY 195 (by decide)) (ly_k hY 195 (by decide)) hy_X7_isThere hi_X7_isThere hs_X7_isThere ml_X7_226 rfl rfl (kX7_isThere _ _ V i hY hN hv) (by decide) (by decide) (Nat.le_of_ble_eq_true rfl) dX7_weigh_2 ?_
  refine x_if_eq G 36 (by decide) dX7_weigh_5 (fun c5 => ?_) (fun c5 => ?_)
  · skip
    have c5 := b2i_eq0.mp c5
    refine x_iconst G (by decide) dX7_weigh_36 ?_
    exact x_iret G Rt dX7_weigh_37 ⟨rfl, rfl, _, rfl, (by
        have e9 : aWeigh V i w = (-1, none) := by unfold aWeigh; rw [if_neg (by omega)]
        rw [e9]
        exact ⟨rfl, hN, hH, hR, maf_refl _⟩)⟩
  · skip
    have c5 := b2i_ne0.mp c5
    refine x_iload_n G 2 rfl rfl dX7_weigh_8 ?_
    refine x_i2l G dX7_weigh_9 ?_
    refine x_lconst G dX7_weigh_10 ?_
    show xX Γ 0 0 n T 11 [(0, xR 195), (1, xI i), (2, xI w)] [xL 1, xL w] M
    refine x_ldc2 G (z := 20) (by decide) kc_X7_161 dX7_weigh_11 ?_
    refine x_callSp G [] [xL w, xL 1, xL 20] hy_X7_in ht_X7_in ml_X7_54 rfl rfl (kX7_in _ _ w 1 20) (by decide) (by decide) (Nat.le_of_ble_eq_true rfl) dX7_weigh_14 ?_
    refine x_if_eq G 36 (by decide) dX7_weigh_17 (fun c17 => ?_) (fun c17 => ?_)
    · skip
      have c17 := b2i_eq0.mp c17
      refine x_iconst G (by decide) dX7_weigh_36 ?_
      exact x_iret G Rt dX7_weigh_37 ⟨rfl, rfl, _, rfl, (by
        have e9 : aWeigh V i w = (-1, none) := by unfold aWeigh; rw [if_neg (by omega)]
        rw [e9]
        exact ⟨rfl, hN, hH, hR, maf_refl _⟩)⟩
    · skip
      have c17 := b2i_ne0.mp c17
      refine x_aload_n G 0 rfl rfl dX7_weigh_20 ?_
      refine x_bipush G (by decide) dX7_weigh_21 ?_
      refine x_iconst G (by decide) dX7_weigh_23 ?_
      refine x_iload_n G 1 rfl rfl dX7_weigh_24 ?_
      refine x_imul G (by omega) dX7_weigh_25 ?_
      refine x_iadd G (by omega) dX7_weigh_26 ?_
      refine x_iconst G (by decide) dX7_weigh_27 ?_
      refine x_iadd G (by omega) dX7_weigh_28 ?_
      refine x_iload_n G 2 rfl rfl dX7_weigh_29 ?_
      refine x_callVI G [] [xI ((11 + (5 * i)) + 2), xI w] rfl (by decide) (ly_n hY 195 (by decide)) (ly_k hY 195 (by decide)) hy_X7_becomes hi_X7_becomes hs_X7_becomes ml_X7_223 rfl rfl (kX7_becomes _ _ V (xst V 6 i.toNat w) Hs (V 6 i.toNat) ((11 + (5 * i)) + 2) w hY hN hv hH (by omega) (at_w hN c5.1) (mr_set (w := 2) hN (by decide) (by omega))) (by decide) (by decide) (Nat.le_of_ble_eq_true rfl) dX7_weigh_30 (fun z30 M30 h30 => ?_)
      refine x_goto G 37 (by decide) dX7_weigh_33 ?_
      exact x_iret G Rt dX7_weigh_37 ⟨rfl, rfl, _, rfl, (by
        rcases h30 with ⟨g1, g2, g3⟩ | ⟨g1, g2, g3, g4, g5, g6⟩
        · have e9 : aWeigh V i w = (-2, none) := by unfold aWeigh; rw [if_pos (by omega), if_pos (by omega)]
          rw [e9, g3]
          exact ⟨g2, hN, hH, hR, maf_refl _⟩
        · have e9 : aWeigh V i w = (V 6 i.toNat, some (xst V 6 i.toNat w)) := by unfold aWeigh; rw [if_pos (by omega), if_neg (by omega)]
          rw [e9]
          exact ⟨g2, g3, g4, Or.inl g5, g6⟩)⟩
set_option maxRecDepth 100000 in
set_option maxHeartbeats 4000000 in
theorem kX7_move (D : xD) (l : Launch) {n : Nat} {T : xT} {M : xM} (V : xM) (Hs : List xM) (i sh : Int) (hY : LayOK n T) (hN : mrel (M 196) V) (hv : VOK V) (hs : Srt V (V 10) (V 0 10).toNat) (hR : Rk M V) (hH : mhst M Hs) : xC D l uX7_move 4 85 0 0 [xR 195, xI i, xI sh] n T M (xPI n T (fun z M2 => z = (aMove V i sh).1 ∧ mrel (M2 196) (nxV V (aMove V i sh)) ∧ mhst M2 (nxH V Hs (aMove V i sh)) ∧ Rk M2 (nxV V (aMove V i sh)) ∧ mafr M M2)) := by
  refine x_met uX7_move (by decide) (Nat.le_of_ble_eq_true rfl) ?_
  intro Γ G Rt _
  have G : xG Γ RX7 cX7_move 3 4 85 0 0 := G
  have Rt : xRt Γ (xPI n T (fun z M2 => z = (aMove V i sh).1 ∧ mrel (M2 196) (nxV V (aMove V i sh)) ∧ mhst M2 (nxH V Hs (aMove V i sh)) ∧ Rk M2 (nxV V (aMove V i sh)) ∧ mafr M M2)) (some .int) 0 0 := Rt
  show xX Γ 0 0 n T 0 [(0, xR 195), (1, xI i), (2, xI sh)] [] M
  have hc := ok_c hv
  refine x_aload_n G 0 rfl rfl dX7_move_0 ?_
  refine x_iload_n G 1 rfl rfl dX7_move_1 ?_
  refine x_callVp G [] [xI i] rfl (by decide) (ly_n hY 195 (by decide)) (ly_k hY 195 (by decide)) hy_X7_isThere hi_X7_isThere hs_X7_isThere ml_X7_226 rfl rfl (kX7_isThere _ _ V i hY hN hv) (by decide) (by decide) (Nat.le_of_ble_eq_true rfl) dX7_move_2 ?_
  refine x_if_eq G 29 (by decide) dX7_move_5 (fun c5 => ?_) (fun c5 => ?_)
  · skip
    have c5 := b2i_eq0.mp c5
    refine x_iconst G (by decide) dX7_move_29 ?_
    exact x_iret G Rt dX7_move_30 ⟨rfl, rfl, _, rfl, (by
        have e9 : aMove V i sh = (-1, none) := by unfold aMove; rw [if_neg (by omega)]
        rw [e9]
        exact ⟨rfl, hN, hH, hR, maf_refl _⟩)⟩
  · skip
    have c5 := b2i_ne0.mp c5
    refine x_iload_n G 2 rfl rfl dX7_move_8 ?_
    refine x_callSp G [] [xI sh] hy_X7_isShard ht_X7_isShard ml_X7_143 rfl rfl (kX7_isShard _ _ sh) (by decide) (by decide) (Nat.le_of_ble_eq_true rfl) dX7_move_9 ?_
    refine x_if_eq G 29 (by decide) dX7_move_12 (fun c12 => ?_) (fun c12 => ?_)
    · skip
      have c12 := b2i_eq0.mp c12
      refine x_iconst G (by decide) dX7_move_29 ?_
      exact x_iret G Rt dX7_move_30 ⟨rfl, rfl, _, rfl, (by
        have e9 : aMove V i sh = (-1, none) := by unfold aMove; rw [if_neg (by omega)]
        rw [e9]
        exact ⟨rfl, hN, hH, hR, maf_refl _⟩)⟩
    · skip
      have c12 := b2i_ne0.mp c12
      refine x_aload_n G 0 rfl rfl dX7_move_15 ?_
      refine x_bipush G (by decide) dX7_move_16 ?_
      refine x_iconst G (by decide) dX7_move_18 ?_
      refine x_iload_n G 1 rfl rfl dX7_move_19 ?_
      refine x_imul G (by omega) dX7_move_20 ?_
      refine x_iadd G (by omega) dX7_move_21 ?_
      refine x_iload_n G 2 rfl rfl dX7_move_22 ?_
      refine x_callVI G [] [xI (11 + (5 * i)), xI sh] rfl (by decide) (ly_n hY 195 (by decide)) (ly_k hY 195 (by decide)) hy_X7_becomes hi_X7_becomes hs_X7_becomes ml_X7_223 rfl rfl (kX7_becomes _ _ V (xst V 4 i.toNat sh) Hs (V 4 i.toNat) (11 + (5 * i)) sh hY hN hv hH (by omega) (at_0 hN c5.1 c5.2) (mr_set4 hN c5.2 (by omega))) (by decide) (by decide) (Nat.le_of_ble_eq_true rfl) dX7_move_23 (fun z23 M23 h23 => ?_)
      refine x_goto G 30 (by decide) dX7_move_26 ?_
      exact x_iret G Rt dX7_move_30 ⟨rfl, rfl, _, rfl, (by
        rcases h23 with ⟨g1, g2, g3⟩ | ⟨g1, g2, g3, g4, g5, g6⟩
        · have e9 : aMove V i sh = (-2, none) := by unfold aMove; rw [if_pos (by omega), if_pos (by omega)]
          rw [e9, g3]
          exact ⟨g2, hN, hH, hR, maf_refl _⟩
        · have e9 : aMove V i sh = (V 4 i.toNat, some (xst V 4 i.toNat sh)) := by unfold aMove; rw [if_pos (by omega), if_neg (by omega)]
          rw [e9]
          exact ⟨g2, g3, g4, Or.inl g5, g6⟩)⟩
set_option maxRecDepth 100000 in
set_option maxHeartbeats 4000000 in
theorem kX7_seed (D : xD) (l : Launch) {n : Nat} {T : xT} {M : xM} (V : xM) (Hs : List xM) (m : Int) (hY : LayOK n T) (hN : mrel (M 196) V) (hv : VOK V) (hs : Srt V (V 10) (V 0 10).toNat) (hR : Rk M V) (hH : mhst M Hs) : xC D l uX7_seed 2 44 0 0 [xR 195, xI m] n T M (xPI n T (fun z M2 => z = (aSeed V m).1 ∧ mrel (M2 196) (nxV V (aSeed V m)) ∧ mhst M2 (nxH V Hs (aSeed V m)) ∧ Rk M2 (nxV V (aSeed V m)) ∧ mafr M M2)) := by
  refine x_met uX7_seed (by decide) (Nat.le_of_ble_eq_true rfl) ?_
  intro Γ G Rt _
  have G : xG Γ RX7 cX7_seed 2 2 44 0 0 := G
  have Rt : xRt Γ (xPI n T (fun z M2 => z = (aSeed V m).1 ∧ mrel (M2 196) (nxV V (aSeed V m)) ∧ mhst M2 (nxH V Hs (aSeed V m)) ∧ Rk M2 (nxV V (aSeed V m)) ∧ mafr M M2)) (some .int) 0 0 := Rt
  show xX Γ 0 0 n T 0 [(0, xR 195), (1, xI m)] [] M
  have hc := ok_c hv
  have hsc := hv.1
  refine x_iload_n G 1 rfl rfl dX7_seed_0 ?_
  refine x_i2l G dX7_seed_1 ?_
  refine x_lconst G dX7_seed_2 ?_
  show xX Γ 0 0 n T 3 [(0, xR 195), (1, xI m)] [xL 0, xL m] M
  refine x_ldc2 G (z := 65535) (by decide) kc_X7_229 dX7_seed_3 ?_
  refine x_callSp G [] [xL m, xL 0, xL 65535] hy_X7_in ht_X7_in ml_X7_54 rfl rfl (kX7_in _ _ m 0 65535) (by decide) (by decide) (Nat.le_of_ble_eq_true rfl) dX7_seed_6 ?_
  refine x_if_eq G 21 (by decide) dX7_seed_9 (fun c9 => ?_) (fun c9 => ?_)
  · skip
    have c9 := b2i_eq0.mp c9
    refine x_iconst G (by decide) dX7_seed_21 ?_
    exact x_iret G Rt dX7_seed_22 ⟨rfl, rfl, _, rfl, (by
        have e9 : aSeed V m = (-1, none) := by unfold aSeed; rw [if_neg (by omega)]
        rw [e9]
        exact ⟨rfl, hN, hH, hR, maf_refl _⟩)⟩
  · skip
    have c9 := b2i_ne0.mp c9
    refine x_aload_n G 0 rfl rfl dX7_seed_12 ?_
    refine x_iconst G (by decide) dX7_seed_13 ?_
    refine x_iload_n G 1 rfl rfl dX7_seed_14 ?_
    refine x_callVI G [] [xI 1, xI m] rfl (by decide) (ly_n hY 195 (by decide)) (ly_k hY 195 (by decide)) hy_X7_becomes hi_X7_becomes hs_X7_becomes ml_X7_223 rfl rfl (kX7_becomes _ _ V (xst V 0 12 m) Hs (V 0 12) 1 m hY hN hv hH (by omega) hN.1.2.1 (mr_sd hN)) (by decide) (by decide) (Nat.le_of_ble_eq_true rfl) dX7_seed_15 (fun z15 M15 h15 => ?_)
    refine x_goto G 22 (by decide) dX7_seed_18 ?_
    exact x_iret G Rt dX7_seed_22 ⟨rfl, rfl, _, rfl, (by
        rcases h15 with ⟨g1, g2, g3⟩ | ⟨g1, g2, g3, g4, g5, g6⟩
        · have e9 : aSeed V m = (-2, none) := by unfold aSeed; rw [if_pos (by omega), if_pos (by omega)]
          rw [e9, g3]
          exact ⟨g2, hN, hH, hR, maf_refl _⟩
        · have e9 : aSeed V m = (V 0 12, some (xst V 0 12 m)) := by unfold aSeed; rw [if_pos (by omega), if_neg (by omega)]
          rw [e9]
          exact ⟨g2, g3, g4, Or.inl g5, g6⟩)⟩
set_option maxRecDepth 100000 in
set_option maxHeartbeats 4000000 in
theorem kX7_pass (D : xD) (l : Launch) {n : Nat} {T : xT} {M : xM} (V : xM) (Hs : List xM) (t : Int) (hY : LayOK n T) (hN : mrel (M 196) V) (hv : VOK V) (hs : Srt V (V 10) (V 0 10).toNat) (hR : Rk M V) (hH : mhst M Hs) : xC D l uX7_pass 1 25 0 0 [xR 195, xI t] n T M (xPI n T (fun z M2 => z = (aPass V t).1 ∧ mrel (M2 196) (nxV V (aPass V t)) ∧ mhst M2 (nxH V Hs (aPass V t)) ∧ Rk M2 (nxV V (aPass V t)) ∧ mafr M M2)) := by
  refine x_met uX7_pass (by decide) (Nat.le_of_ble_eq_true rfl) ?_
  intro Γ G Rt _
  have G : xG Γ RX7 cX7_pass 2 1 25 0 0 := G
  have Rt : xRt Γ (xPI n T (fun z M2 => z = (aPass V t).1 ∧ mrel (M2 196) (nxV V (aPass V t)) ∧ mhst M2 (nxH V Hs (aPass V t)) ∧ Rk M2 (nxV V (aPass V t)) ∧ mafr M M2)) (some .int) 0 0 := Rt
  show xX Γ 0 0 n T 0 [(0, xR 195), (1, xI t)] [] M
  have hc := ok_c hv
  have hsc := hv.1
  refine x_iload_n G 1 rfl rfl dX7_pass_0 ?_
  refine x_i2l G dX7_pass_1 ?_
  refine x_lconst G dX7_pass_2 ?_
  show xX Γ 0 0 n T 3 [(0, xR 195), (1, xI t)] [xL 1, xL t] M
  refine x_ldc2 G (z := 9999) (by decide) kc_X7_181 dX7_pass_3 ?_
  refine x_callSp G [] [xL t, xL 1, xL 9999] hy_X7_in ht_X7_in ml_X7_54 rfl rfl (kX7_in _ _ t 1 9999) (by decide) (by decide) (Nat.le_of_ble_eq_true rfl) dX7_pass_6 ?_
  refine x_if_ne G 14 (by decide) dX7_pass_9 (fun c9 => ?_) (fun c9 => ?_)
  · skip
    have c9 := b2i_ne0.mp c9
    refine x_aload_n G 0 rfl rfl dX7_pass_14 ?_
    refine x_get G (xR 196) xf7_0 lk_X7_7 (ly_n hY 195 (by decide)) (ly_k hY 195 (by decide)) (Or.inr ⟨rfl, _, (ly_r hY 195 0 (by decide) (by decide)), rfl⟩) dX7_pass_15 ?_
    refine x_iconst G (by decide) dX7_pass_18 ?_
    refine x_iald G (ly_n hY 196 (by decide)) (ly_k hY 196 (by decide)) (show _ = 511 from ly_l hY 196 (by decide)) (by omega) (by omega) dX7_pass_19 ?_
    show xX Γ 0 0 n T 20 [(0, xR 195), (1, xI t)] [xI (M 196 0)] M
    rw [show M 196 0 = (V 0 11) from hN.1.1]
    refine x_iload_n G 1 rfl rfl dX7_pass_20 ?_
    refine x_iadd G (by omega) dX7_pass_21 ?_
    refine x_ldc G (z := 99999) (by decide) kc_X7_222 dX7_pass_22 ?_
    refine x_icmp_le G 30 (by decide) dX7_pass_24 (fun c24 => ?_) (fun c24 => ?_)
    · skip
      refine x_aload_n G 0 rfl rfl dX7_pass_30 ?_
      refine x_callVV G [] [] rfl (by decide) (ly_n hY 195 (by decide)) (ly_k hY 195 (by decide)) hy_X7_keepsAct hi_X7_keepsAct hs_X7_keepsAct ml_X7_216 rfl rfl (kX7_keepsAct _ _ V Hs hY hN hv hH) (by decide) (by decide) (Nat.le_of_ble_eq_true rfl) dX7_pass_31 (fun M31 h31 => ?_)
      refine x_aload_n G 0 rfl rfl dX7_pass_34 ?_
      refine x_get G (xR 196) xf7_0 lk_X7_7 (ly_n hY 195 (by decide)) (ly_k hY 195 (by decide)) (Or.inr ⟨rfl, _, (ly_r hY 195 0 (by decide) (by decide)), rfl⟩) dX7_pass_35 ?_
      refine x_iconst G (by decide) dX7_pass_38 ?_
      refine x_dup2 G rfl rfl dX7_pass_39 ?_
      refine x_iald G (ly_n hY 196 (by decide)) (ly_k hY 196 (by decide)) (show _ = 511 from ly_l hY 196 (by decide)) (by omega) (by omega) dX7_pass_40 ?_
      show xX Γ 0 0 n T 41 [(0, xR 195), (1, xI t)] [xI (M31 196 0), xI 0, xR 196] M31
      rw [show M31 196 0 = (V 0 11) from (mr_cg hN (h31.2.2.1 196 (by omega) (by omega))).1.1]
      refine x_iload_n G 1 rfl rfl dX7_pass_41 ?_
      refine x_iadd G (by omega) dX7_pass_42 ?_
      refine x_iast G (ly_n hY 196 (by decide)) (ly_k hY 196 (by decide)) (show _ = 511 from ly_l hY 196 (by decide)) (by omega) (by omega) dX7_pass_43 ?_
      show xX Γ 0 0 n T 44 [(0, xR 195), (1, xI t)] [] (xst M31 196 0 ((V 0 11) + t))
      skip
      refine x_aload_n G 0 rfl rfl dX7_pass_44 ?_
      refine x_get G (xR 196) xf7_0 lk_X7_7 (ly_n hY 195 (by decide)) (ly_k hY 195 (by decide)) (Or.inr ⟨rfl, _, (ly_r hY 195 0 (by decide) (by decide)), rfl⟩) dX7_pass_45 ?_
      refine x_iconst G (by decide) dX7_pass_48 ?_
      refine x_iald G (ly_n hY 196 (by decide)) (ly_k hY 196 (by decide)) (show _ = 511 from ly_l hY 196 (by decide)) (by omega) (by omega) dX7_pass_49 ?_
      show xX Γ 0 0 n T 50 [(0, xR 195), (1, xI t)] [xI ((xst M31 196 0 ((V 0 11) + t)) 196 0)] (xst M31 196 0 ((V 0 11) + t))
      rw [show (xst M31 196 0 ((V 0 11) + t)) 196 0 = ((xst V 0 11 ((V 0 11) + t)) 0 11) from (mr_tick (mr_cg hN (h31.2.2.1 196 (by omega) (by omega)))).1.1]
      have hx9 : (xst V 0 11 ((V 0 11) + t)) 0 11 = V 0 11 + t := xst_same ..
      rw [hx9]
      skip
      exact x_iret G Rt dX7_pass_50 ⟨rfl, rfl, _, rfl, (by
        have e9 : aPass V t = ((V 0 11 + t), some (xst V 0 11 ((V 0 11) + t))) := (by unfold aPass; (repeat (first | rw [if_pos (by omega)] | rw [if_neg (by omega)])) <;> try rfl)
        rw [e9]
        exact ⟨rfl, (mr_tick (mr_cg hN (h31.2.2.1 196 (by omega) (by omega)))), (mh_cg h31.1 (xst_nq (by omega)) (xst_row (by omega))), Or.inl ((xst_nq (by omega)).trans h31.2.1), (maf_st (maf_ka (maf_refl _) h31.2.2) (by omega))⟩)⟩
    · skip
      refine x_bipush G (by decide) dX7_pass_27 ?_
      exact x_iret G Rt dX7_pass_29 ⟨rfl, rfl, _, rfl, (by
        have e9 : aPass V t = ((-2), none) := (by unfold aPass; (repeat (first | rw [if_pos (by omega)] | rw [if_neg (by omega)])) <;> try rfl)
        rw [e9]
        exact ⟨rfl, hN, hH, hR, (maf_refl _)⟩)⟩
  · skip
    have c9 := b2i_eq0.mp c9
    refine x_iconst G (by decide) dX7_pass_12 ?_
    exact x_iret G Rt dX7_pass_13 ⟨rfl, rfl, _, rfl, (by
        have e9 : aPass V t = ((-1), none) := (by unfold aPass; (repeat (first | rw [if_pos (by omega)] | rw [if_neg (by omega)])) <;> try rfl)
        rw [e9]
        exact ⟨rfl, hN, hH, hR, (maf_refl _)⟩)⟩
set_option maxRecDepth 100000 in
set_option maxHeartbeats 4000000 in
theorem kX7_put (D : xD) (l : Launch) {n : Nat} {T : xT} {M : xM} (V : xM) (Hs : List xM) (sh lab w lo : Int) (hY : LayOK n T) (hN : mrel (M 196) V) (hv : VOK V) (hs : Srt V (V 10) (V 0 10).toNat) (hR : Rk M V) (hH : mhst M Hs) : xC D l uX7_put 2 48 0 0 [xR 195, xI sh, xI lab, xI w, xI lo] n T M (xPI n T (fun z M2 => z = (aPut V sh lab w lo).1 ∧ mrel (M2 196) (nxV V (aPut V sh lab w lo)) ∧ mhst M2 (nxH V Hs (aPut V sh lab w lo)) ∧ Rk M2 (nxV V (aPut V sh lab w lo)) ∧ mafr M M2)) := by
  refine x_met uX7_put (by decide) (Nat.le_of_ble_eq_true rfl) ?_
  intro Γ G Rt _
  have G : xG Γ RX7 cX7_put 5 2 48 0 0 := G
  have Rt : xRt Γ (xPI n T (fun z M2 => z = (aPut V sh lab w lo).1 ∧ mrel (M2 196) (nxV V (aPut V sh lab w lo)) ∧ mhst M2 (nxH V Hs (aPut V sh lab w lo)) ∧ Rk M2 (nxV V (aPut V sh lab w lo)) ∧ mafr M M2)) (some .int) 0 0 := Rt
  show xX Γ 0 0 n T 0 [(0, xR 195), (1, xI sh), (2, xI lab), (3, xI w), (4, xI lo)] [] M
  have hc := ok_c hv
  refine x_iload_n G 1 rfl rfl dX7_put_0 ?_
  refine x_callSp G [] [xI sh] hy_X7_isShard ht_X7_isShard ml_X7_143 rfl rfl (kX7_isShard _ _ sh) (by decide) (by decide) (Nat.le_of_ble_eq_true rfl) dX7_put_1 ?_
  refine x_if_eq G 44 (by decide) dX7_put_4 (fun c4 => ?_) (fun c4 => ?_)
  · skip
    have c4 := b2i_eq0.mp c4
    refine x_iconst G (by decide) dX7_put_44 ?_
    exact x_iret G Rt dX7_put_45 ⟨rfl, rfl, _, rfl, (by
        have e9 : aPut V sh lab w lo = ((-1), none) := (by unfold aPut; (repeat (first | rw [if_pos (by omega)] | rw [if_neg (by omega)])) <;> try rfl)
        rw [e9]
        exact ⟨rfl, hN, hH, hR, (maf_refl _)⟩)⟩
  · skip
    have c4 := b2i_ne0.mp c4
    refine x_iload_n G 2 rfl rfl dX7_put_7 ?_
    refine x_i2l G dX7_put_8 ?_
    refine x_lconst G dX7_put_9 ?_
    show xX Γ 0 0 n T 10 [(0, xR 195), (1, xI sh), (2, xI lab), (3, xI w), (4, xI lo)] [xL 0, xL lab] M
    refine x_ldc2 G (z := 25) (by decide) kc_X7_194 dX7_put_10 ?_
    refine x_callSp G [] [xL lab, xL 0, xL 25] hy_X7_in ht_X7_in ml_X7_54 rfl rfl (kX7_in _ _ lab 0 25) (by decide) (by decide) (Nat.le_of_ble_eq_true rfl) dX7_put_13 ?_
    refine x_if_eq G 44 (by decide) dX7_put_16 (fun c16 => ?_) (fun c16 => ?_)
    · skip
      have c16 := b2i_eq0.mp c16
      refine x_iconst G (by decide) dX7_put_44 ?_
      exact x_iret G Rt dX7_put_45 ⟨rfl, rfl, _, rfl, (by
        have e9 : aPut V sh lab w lo = ((-1), none) := (by unfold aPut; (repeat (first | rw [if_pos (by omega)] | rw [if_neg (by omega)])) <;> try rfl)
        rw [e9]
        exact ⟨rfl, hN, hH, hR, (maf_refl _)⟩)⟩
    · skip
      have c16 := b2i_ne0.mp c16
      refine x_iload_n G 3 rfl rfl dX7_put_19 ?_
      refine x_i2l G dX7_put_20 ?_
      refine x_lconst G dX7_put_21 ?_
      show xX Γ 0 0 n T 22 [(0, xR 195), (1, xI sh), (2, xI lab), (3, xI w), (4, xI lo)] [xL 1, xL w] M
      refine x_ldc2 G (z := 20) (by decide) kc_X7_161 dX7_put_22 ?_
      refine x_callSp G [] [xL w, xL 1, xL 20] hy_X7_in ht_X7_in ml_X7_54 rfl rfl (kX7_in _ _ w 1 20) (by decide) (by decide) (Nat.le_of_ble_eq_true rfl) dX7_put_25 ?_
      refine x_if_eq G 44 (by decide) dX7_put_28 (fun c28 => ?_) (fun c28 => ?_)
      · skip
        have c28 := b2i_eq0.mp c28
        refine x_iconst G (by decide) dX7_put_44 ?_
        exact x_iret G Rt dX7_put_45 ⟨rfl, rfl, _, rfl, (by
        have e9 : aPut V sh lab w lo = ((-1), none) := (by unfold aPut; (repeat (first | rw [if_pos (by omega)] | rw [if_neg (by omega)])) <;> try rfl)
        rw [e9]
        exact ⟨rfl, hN, hH, hR, (maf_refl _)⟩)⟩
      · skip
        have c28 := b2i_ne0.mp c28
        refine x_iload G 4 rfl dX7_put_31 ?_
        refine x_i2l G dX7_put_33 ?_
        refine x_lconst G dX7_put_34 ?_
        show xX Γ 0 0 n T 35 [(0, xR 195), (1, xI sh), (2, xI lab), (3, xI w), (4, xI lo)] [xL 1, xL lo] M
        refine x_ldc2 G (z := 1023) (by decide) kc_X7_166 dX7_put_35 ?_
        refine x_callSp G [] [xL lo, xL 1, xL 1023] hy_X7_in ht_X7_in ml_X7_54 rfl rfl (kX7_in _ _ lo 1 1023) (by decide) (by decide) (Nat.le_of_ble_eq_true rfl) dX7_put_38 ?_
        refine x_if_ne G 46 (by decide) dX7_put_41 (fun c41 => ?_) (fun c41 => ?_)
        · skip
          have c41 := b2i_ne0.mp c41
          refine x_aload_n G 0 rfl rfl dX7_put_46 ?_
          refine x_get G (xR 196) xf7_0 lk_X7_7 (ly_n hY 195 (by decide)) (ly_k hY 195 (by decide)) (Or.inr ⟨rfl, _, (ly_r hY 195 0 (by decide) (by decide)), rfl⟩) dX7_put_47 ?_
          refine x_iconst G (by decide) dX7_put_50 ?_
          refine x_iald G (ly_n hY 196 (by decide)) (ly_k hY 196 (by decide)) (show _ = 511 from ly_l hY 196 (by decide)) (by omega) (by omega) dX7_put_51 ?_
          show xX Γ 0 0 n T 52 [(0, xR 195), (1, xI sh), (2, xI lab), (3, xI w), (4, xI lo)] [xI (M 196 2)] M
          rw [show M 196 2 = (V 0 10) from hN.1.2.2]
          refine x_bipush G (by decide) dX7_put_52 ?_
          refine x_icmp_ne G 60 (by decide) dX7_put_54 (fun c54 => ?_) (fun c54 => ?_)
          · skip
            refine x_aload_n G 0 rfl rfl dX7_put_60 ?_
            refine x_callVV G [] [] rfl (by decide) (ly_n hY 195 (by decide)) (ly_k hY 195 (by decide)) hy_X7_keepsAct hi_X7_keepsAct hs_X7_keepsAct ml_X7_216 rfl rfl (kX7_keepsAct _ _ V Hs hY hN hv hH) (by decide) (by decide) (Nat.le_of_ble_eq_true rfl) dX7_put_61 (fun M61 h61 => ?_)
            refine x_aload_n G 0 rfl rfl dX7_put_64 ?_
            refine x_iload_n G 1 rfl rfl dX7_put_65 ?_
            refine x_iload_n G 2 rfl rfl dX7_put_66 ?_
            refine x_iload_n G 3 rfl rfl dX7_put_67 ?_
            refine x_iload G 4 rfl dX7_put_68 ?_
            refine x_callVI G [] [xI sh, xI lab, xI w, xI lo] rfl (by decide) (ly_n hY 195 (by decide)) (ly_k hY 195 (by decide)) hy_X7_comesNew hi_X7_comesNew hs_X7_comesNew ml_X7_219 rfl rfl (kX7_comesNew _ _ V sh lab w lo hY (mr_cg hN (h61.2.2.1 196 (by omega) (by omega))) hv (by omega)) (by decide) (by decide) (Nat.le_of_ble_eq_true rfl) dX7_put_70 (fun z70 M70 h70 => ?_)
            rw [h70.1]
            exact x_iret G Rt dX7_put_73 ⟨rfl, rfl, _, rfl, (by
        have e9 : aPut V sh lab w lo = ((V 0 10), some (addV V sh lab w lo)) := (by unfold aPut; (repeat (first | rw [if_pos (by omega)] | rw [if_neg (by omega)])) <;> try rfl)
        rw [e9]
        exact ⟨rfl, h70.2.1, (mh_cg h61.1 (h70.2.2.2.2 2 (by decide)) (h70.2.2.2.1 197 (by decide) (by decide))), Or.inl h70.2.2.1, (maf_cn (maf_ka (maf_refl _) h61.2.2) h70.2.2.2)⟩)⟩
          · skip
            refine x_bipush G (by decide) dX7_put_57 ?_
            exact x_iret G Rt dX7_put_59 ⟨rfl, rfl, _, rfl, (by
        have e9 : aPut V sh lab w lo = ((-2), none) := (by unfold aPut; (repeat (first | rw [if_pos (by omega)] | rw [if_neg (by omega)])) <;> try rfl)
        rw [e9]
        exact ⟨rfl, hN, hH, hR, (maf_refl _)⟩)⟩
        · skip
          have c41 := b2i_eq0.mp c41
          refine x_iconst G (by decide) dX7_put_44 ?_
          exact x_iret G Rt dX7_put_45 ⟨rfl, rfl, _, rfl, (by
        have e9 : aPut V sh lab w lo = ((-1), none) := (by unfold aPut; (repeat (first | rw [if_pos (by omega)] | rw [if_neg (by omega)])) <;> try rfl)
        rw [e9]
        exact ⟨rfl, hN, hH, hR, (maf_refl _)⟩)⟩
set_option maxRecDepth 100000 in
set_option maxHeartbeats 4000000 in
theorem kX7_come (D : xD) (l : Launch) {n : Nat} {T : xT} {M : xM} (V : xM) (Hs : List xM) (sh lab w : Int) (hY : LayOK n T) (hN : mrel (M 196) V) (hv : VOK V) (hs : Srt V (V 10) (V 0 10).toNat) (hR : Rk M V) (hH : mhst M Hs) : xC D l uX7_come 2 48 0 0 [xR 195, xI sh, xI lab, xI w] n T M (xPI n T (fun z M2 => z = (aCome V sh lab w).1 ∧ mrel (M2 196) (nxV V (aCome V sh lab w)) ∧ mhst M2 (nxH V Hs (aCome V sh lab w)) ∧ Rk M2 (nxV V (aCome V sh lab w)) ∧ mafr M M2)) := by
  refine x_met uX7_come (by decide) (Nat.le_of_ble_eq_true rfl) ?_
  intro Γ G Rt _
  have G : xG Γ RX7 cX7_come 4 2 48 0 0 := G
  have Rt : xRt Γ (xPI n T (fun z M2 => z = (aCome V sh lab w).1 ∧ mrel (M2 196) (nxV V (aCome V sh lab w)) ∧ mhst M2 (nxH V Hs (aCome V sh lab w)) ∧ Rk M2 (nxV V (aCome V sh lab w)) ∧ mafr M M2)) (some .int) 0 0 := Rt
  show xX Γ 0 0 n T 0 [(0, xR 195), (1, xI sh), (2, xI lab), (3, xI w)] [] M
  have hc := ok_c hv
  have hsc := hv.1
  refine x_iload_n G 1 rfl rfl dX7_come_0 ?_
  refine x_callSp G [] [xI sh] hy_X7_isShard ht_X7_isShard ml_X7_143 rfl rfl (kX7_isShard _ _ sh) (by decide) (by decide) (Nat.le_of_ble_eq_true rfl) dX7_come_1 ?_
  refine x_if_eq G 31 (by decide) dX7_come_4 (fun c4 => ?_) (fun c4 => ?_)
  · skip
    have c4 := b2i_eq0.mp c4
    refine x_iconst G (by decide) dX7_come_31 ?_
    exact x_iret G Rt dX7_come_32 ⟨rfl, rfl, _, rfl, (by
        have e9 : aCome V sh lab w = ((-1), none) := (by unfold aCome; (repeat (first | rw [if_pos (by omega)] | rw [if_neg (by omega)])) <;> try rfl)
        rw [e9]
        exact ⟨rfl, hN, hH, hR, (maf_refl _)⟩)⟩
  · skip
    have c4 := b2i_ne0.mp c4
    refine x_iload_n G 2 rfl rfl dX7_come_7 ?_
    refine x_i2l G dX7_come_8 ?_
    refine x_lconst G dX7_come_9 ?_
    show xX Γ 0 0 n T 10 [(0, xR 195), (1, xI sh), (2, xI lab), (3, xI w)] [xL 0, xL lab] M
    refine x_ldc2 G (z := 25) (by decide) kc_X7_194 dX7_come_10 ?_
    refine x_callSp G [] [xL lab, xL 0, xL 25] hy_X7_in ht_X7_in ml_X7_54 rfl rfl (kX7_in _ _ lab 0 25) (by decide) (by decide) (Nat.le_of_ble_eq_true rfl) dX7_come_13 ?_
    refine x_if_eq G 31 (by decide) dX7_come_16 (fun c16 => ?_) (fun c16 => ?_)
    · skip
      have c16 := b2i_eq0.mp c16
      refine x_iconst G (by decide) dX7_come_31 ?_
      exact x_iret G Rt dX7_come_32 ⟨rfl, rfl, _, rfl, (by
        have e9 : aCome V sh lab w = ((-1), none) := (by unfold aCome; (repeat (first | rw [if_pos (by omega)] | rw [if_neg (by omega)])) <;> try rfl)
        rw [e9]
        exact ⟨rfl, hN, hH, hR, (maf_refl _)⟩)⟩
    · skip
      have c16 := b2i_ne0.mp c16
      refine x_iload_n G 3 rfl rfl dX7_come_19 ?_
      refine x_i2l G dX7_come_20 ?_
      refine x_lconst G dX7_come_21 ?_
      show xX Γ 0 0 n T 22 [(0, xR 195), (1, xI sh), (2, xI lab), (3, xI w)] [xL 1, xL w] M
      refine x_ldc2 G (z := 20) (by decide) kc_X7_161 dX7_come_22 ?_
      refine x_callSp G [] [xL w, xL 1, xL 20] hy_X7_in ht_X7_in ml_X7_54 rfl rfl (kX7_in _ _ w 1 20) (by decide) (by decide) (Nat.le_of_ble_eq_true rfl) dX7_come_25 ?_
      refine x_if_ne G 33 (by decide) dX7_come_28 (fun c28 => ?_) (fun c28 => ?_)
      · skip
        have c28 := b2i_ne0.mp c28
        refine x_aload_n G 0 rfl rfl dX7_come_33 ?_
        refine x_get G (xR 196) xf7_0 lk_X7_7 (ly_n hY 195 (by decide)) (ly_k hY 195 (by decide)) (Or.inr ⟨rfl, _, (ly_r hY 195 0 (by decide) (by decide)), rfl⟩) dX7_come_34 ?_
        refine x_iconst G (by decide) dX7_come_37 ?_
        refine x_iald G (ly_n hY 196 (by decide)) (ly_k hY 196 (by decide)) (show _ = 511 from ly_l hY 196 (by decide)) (by omega) (by omega) dX7_come_38 ?_
        show xX Γ 0 0 n T 39 [(0, xR 195), (1, xI sh), (2, xI lab), (3, xI w)] [xI (M 196 2)] M
        rw [show M 196 2 = (V 0 10) from hN.1.2.2]
        refine x_bipush G (by decide) dX7_come_39 ?_
        refine x_icmp_ne G 47 (by decide) dX7_come_41 (fun c41 => ?_) (fun c41 => ?_)
        · skip
          refine x_aload_n G 0 rfl rfl dX7_come_47 ?_
          refine x_callVV G [] [] rfl (by decide) (ly_n hY 195 (by decide)) (ly_k hY 195 (by decide)) hy_X7_keepsAct hi_X7_keepsAct hs_X7_keepsAct ml_X7_216 rfl rfl (kX7_keepsAct _ _ V Hs hY hN hv hH) (by decide) (by decide) (Nat.le_of_ble_eq_true rfl) dX7_come_48 (fun M48 h48 => ?_)
          refine x_aload_n G 0 rfl rfl dX7_come_51 ?_
          refine x_iload_n G 1 rfl rfl dX7_come_52 ?_
          refine x_iload_n G 2 rfl rfl dX7_come_53 ?_
          refine x_iload_n G 3 rfl rfl dX7_come_54 ?_
          refine x_aload_n G 0 rfl rfl dX7_come_55 ?_
          refine x_aload_n G 0 rfl rfl dX7_come_56 ?_
          refine x_get G (xR 196) xf7_0 lk_X7_7 (ly_n hY 195 (by decide)) (ly_k hY 195 (by decide)) (Or.inr ⟨rfl, _, (ly_r hY 195 0 (by decide) (by decide)), rfl⟩) dX7_come_57 ?_
          refine x_callVI G [xI w, xI lab, xI sh, xR 195] [xR 196] rfl (by decide) (ly_n hY 195 (by decide)) (ly_k hY 195 (by decide)) hy_X7_drawn hi_X7_drawn hs_X7_drawn ml_X7_174 rfl rfl (kX7_drawn _ _ (V 0 12) hY (mr_cg hN (h48.2.2.1 196 (by omega) (by omega))).1.2.1 (by omega)) (by decide) (by decide) (Nat.le_of_ble_eq_true rfl) dX7_come_60 (fun z60 M60 h60 => ?_)
          obtain ⟨hz60, rfl⟩ := h60
          rw [hz60]
          have hdb60 := drw_b (V 0 12)
          have hxc60 : (xst V 0 12 (drw (V 0 12))) 0 10 = V 0 10 := rfl
          show xX Γ 0 0 n T 63 [(0, xR 195), (1, xI sh), (2, xI lab), (3, xI w)] [xI (drw (V 0 12) / 64), xI w, xI lab, xI sh, xR 195] (xst M48 196 1 (drw (V 0 12)))
          refine x_callVI G [] [xI sh, xI lab, xI w, xI (drw (V 0 12) / 64)] rfl (by decide) (ly_n hY 195 (by decide)) (ly_k hY 195 (by decide)) hy_X7_comesNew hi_X7_comesNew hs_X7_comesNew ml_X7_219 rfl rfl (kX7_comesNew _ _ (xst V 0 12 (drw (V 0 12))) sh lab w (drw (V 0 12) / 64) hY (mr_sd (mr_cg hN (h48.2.2.1 196 (by omega) (by omega)))) (ok_seed hv (by have := drw_b (V 0 12); omega)) (by omega)) (by decide) (by decide) (Nat.le_of_ble_eq_true rfl) dX7_come_63 (fun z63 M63 h63 => ?_)
          rw [h63.1]
          exact x_iret G Rt dX7_come_66 ⟨rfl, rfl, _, rfl, (by
        have e9 : aCome V sh lab w = (((xst V 0 12 (drw (V 0 12))) 0 10), some (addV (xst V 0 12 (drw (V 0 12))) sh lab w (drw (V 0 12) / 64))) := (by unfold aCome; (repeat (first | rw [if_pos (by omega)] | rw [if_neg (by omega)])) <;> try rfl)
        rw [e9]
        exact ⟨rfl, h63.2.1, (mh_cg (mh_cg h48.1 (xst_nq (by omega)) (xst_row (by omega))) (h63.2.2.2.2 2 (by decide)) (h63.2.2.2.1 197 (by decide) (by decide))), Or.inl h63.2.2.1, (maf_cn (maf_st (maf_ka (maf_refl _) h48.2.2) (by omega)) h63.2.2.2)⟩)⟩
        · skip
          refine x_bipush G (by decide) dX7_come_44 ?_
          exact x_iret G Rt dX7_come_46 ⟨rfl, rfl, _, rfl, (by
        have e9 : aCome V sh lab w = ((-2), none) := (by unfold aCome; (repeat (first | rw [if_pos (by omega)] | rw [if_neg (by omega)])) <;> try rfl)
        rw [e9]
        exact ⟨rfl, hN, hH, hR, (maf_refl _)⟩)⟩
      · skip
        have c28 := b2i_eq0.mp c28
        refine x_iconst G (by decide) dX7_come_31 ?_
        exact x_iret G Rt dX7_come_32 ⟨rfl, rfl, _, rfl, (by
        have e9 : aCome V sh lab w = ((-1), none) := (by unfold aCome; (repeat (first | rw [if_pos (by omega)] | rw [if_neg (by omega)])) <;> try rfl)
        rw [e9]
        exact ⟨rfl, hN, hH, hR, (maf_refl _)⟩)⟩
set_option maxRecDepth 100000 in
set_option maxHeartbeats 4000000 in
theorem kX7_again (D : xD) (l : Launch) {n : Nat} {T : xT} {M : xM} (V : xM) (Hs : List xM) (i : Int) (hY : LayOK n T) (hN : mrel (M 196) V) (hv : VOK V) (hs : Srt V (V 10) (V 0 10).toNat) (hR : Rk M V) (hH : mhst M Hs) : xC D l uX7_again 4 85 0 0 [xR 195, xI i] n T M (xPI n T (fun z M2 => z = (aAgain V i).1 ∧ mrel (M2 196) (nxV V (aAgain V i)) ∧ mhst M2 (nxH V Hs (aAgain V i)) ∧ Rk M2 (nxV V (aAgain V i)) ∧ mafr M M2)) := by
  refine x_met uX7_again (by decide) (Nat.le_of_ble_eq_true rfl) ?_
  intro Γ G Rt _
  have G : xG Γ RX7 cX7_again 3 4 85 0 0 := G
  have Rt : xRt Γ (xPI n T (fun z M2 => z = (aAgain V i).1 ∧ mrel (M2 196) (nxV V (aAgain V i)) ∧ mhst M2 (nxH V Hs (aAgain V i)) ∧ Rk M2 (nxV V (aAgain V i)) ∧ mafr M M2)) (some .int) 0 0 := Rt
  show xX Γ 0 0 n T 0 [(0, xR 195), (1, xI i)] [] M
  have hc := ok_c hv
  have hsc := hv.1
  refine x_aload_n G 0 rfl rfl dX7_again_0 ?_
  refine x_iload_n G 1 rfl rfl dX7_again_1 ?_
  refine x_callVp G [] [xI i] rfl (by decide) (ly_n hY 195 (by decide)) (ly_k hY 195 (by decide)) hy_X7_isThere hi_X7_isThere hs_X7_isThere ml_X7_226 rfl rfl (kX7_isThere _ _ V i hY hN hv) (by decide) (by decide) (Nat.le_of_ble_eq_true rfl) dX7_again_2 ?_
  refine x_if_ne G 10 (by decide) dX7_again_5 (fun c5 => ?_) (fun c5 => ?_)
  · skip
    have c5 := b2i_ne0.mp c5
    refine x_aload_n G 0 rfl rfl dX7_again_10 ?_
    refine x_callVV G [] [] rfl (by decide) (ly_n hY 195 (by decide)) (ly_k hY 195 (by decide)) hy_X7_keepsAct hi_X7_keepsAct hs_X7_keepsAct ml_X7_216 rfl rfl (kX7_keepsAct _ _ V Hs hY hN hv hH) (by decide) (by decide) (Nat.le_of_ble_eq_true rfl) dX7_again_11 (fun M11 h11 => ?_)
    refine x_aload_n G 0 rfl rfl dX7_again_14 ?_
    refine x_aload_n G 0 rfl rfl dX7_again_15 ?_
    refine x_get G (xR 196) xf7_0 lk_X7_7 (ly_n hY 195 (by decide)) (ly_k hY 195 (by decide)) (Or.inr ⟨rfl, _, (ly_r hY 195 0 (by decide) (by decide)), rfl⟩) dX7_again_16 ?_
    refine x_callVI G [] [xR 196] rfl (by decide) (ly_n hY 195 (by decide)) (ly_k hY 195 (by decide)) hy_X7_drawn hi_X7_drawn hs_X7_drawn ml_X7_174 rfl rfl (kX7_drawn _ _ (V 0 12) hY (mr_cg hN (h11.2.2.1 196 (by omega) (by omega))).1.2.1 (by omega)) (by decide) (by decide) (Nat.le_of_ble_eq_true rfl) dX7_again_19 (fun z19 M19 h19 => ?_)
    obtain ⟨hz19, rfl⟩ := h19
    rw [hz19]
    have hdb19 := drw_b (V 0 12)
    have hxc19 : (xst V 0 12 (drw (V 0 12))) 0 10 = V 0 10 := rfl
    show xX Γ 0 0 n T 22 [(0, xR 195), (1, xI i)] [xI (drw (V 0 12) / 64)] (xst M11 196 1 (drw (V 0 12)))
    refine x_istore_n G [(2, xI (drw (V 0 12) / 64)), (0, xR 195), (1, xI i)] rfl (by decide) rfl dX7_again_22 ?_
    refine x_aload_n G 1 rfl rfl dX7_again_23 ?_
    refine x_iload_n G 2 rfl rfl dX7_again_24 ?_
    refine x_iconst G (by decide) dX7_again_25 ?_
    refine x_iload_n G 0 rfl rfl dX7_again_26 ?_
    refine x_callVV G [] [xI i, xI 3, xI (drw (V 0 12) / 64)] rfl (by decide) (ly_n hY 195 (by decide)) (ly_k hY 195 (by decide)) hy_X7_sets hi_X7_sets hs_X7_sets ml_X7_212 rfl rfl (kX7_sets _ _ i 3 (drw (V 0 12) / 64) hY (by omega) (by decide)) (by decide) (by decide) (Nat.le_of_ble_eq_true rfl) dX7_again_27 (fun M27 h27 => ?_)
    subst h27
    show xX Γ 0 0 n T 30 [(2, xI (drw (V 0 12) / 64)), (0, xR 195), (1, xI i)] [] (xst (xst M11 196 1 (drw (V 0 12))) 196 ((11 + (5 * i)) + 3).toNat (drw (V 0 12) / 64))
    refine x_iload_n G 0 rfl rfl dX7_again_30 ?_
    exact x_iret G Rt dX7_again_31 ⟨rfl, rfl, _, rfl, (by
        have e9 : aAgain V i = ((drw (V 0 12) / 64), some (xst (xst V 0 12 (drw (V 0 12))) 7 i.toNat (drw (V 0 12) / 64))) := (by unfold aAgain; (repeat (first | rw [if_pos (by omega)] | rw [if_neg (by omega)])) <;> try rfl)
        rw [e9]
        exact ⟨rfl, (mr_set (w := 3) (mr_sd (mr_cg hN (h11.2.2.1 196 (by omega) (by omega)))) (by decide) (by omega)), (mh_cg (mh_cg h11.1 (xst_nq (by omega)) (xst_row (by omega))) (xst_nq (by omega)) (xst_row (by omega))), Or.inl ((xst_nq (by omega)).trans ((xst_nq (by omega)).trans h11.2.1)), (maf_st (maf_st (maf_ka (maf_refl _) h11.2.2) (by omega)) (by omega))⟩)⟩
  · skip
    have c5 := b2i_eq0.mp c5
    refine x_iconst G (by decide) dX7_again_8 ?_
    exact x_iret G Rt dX7_again_9 ⟨rfl, rfl, _, rfl, (by
        have e9 : aAgain V i = ((-1), none) := (by unfold aAgain; (repeat (first | rw [if_pos (by omega)] | rw [if_neg (by omega)])) <;> try rfl)
        rw [e9]
        exact ⟨rfl, hN, hH, hR, (maf_refl _)⟩)⟩
set_option maxRecDepth 100000 in
set_option maxHeartbeats 4000000 in
theorem kX7_drop (D : xD) (l : Launch) {n : Nat} {T : xT} {M : xM} (V : xM) (Hs : List xM) (i : Int) (hY : LayOK n T) (hN : mrel (M 196) V) (hv : VOK V) (hs : Srt V (V 10) (V 0 10).toNat) (hR : Rk M V) (hH : mhst M Hs) : xC D l uX7_drop 4 85 0 0 [xR 195, xI i] n T M (xPI n T (fun z M2 => z = (aDrop V i).1 ∧ mrel (M2 196) (nxV V (aDrop V i)) ∧ mhst M2 (nxH V Hs (aDrop V i)) ∧ Rk M2 (nxV V (aDrop V i)) ∧ mafr M M2)) := by
  refine x_met uX7_drop (by decide) (Nat.le_of_ble_eq_true rfl) ?_
  intro Γ G Rt _
  have G : xG Γ RX7 cX7_drop 3 4 85 0 0 := G
  have Rt : xRt Γ (xPI n T (fun z M2 => z = (aDrop V i).1 ∧ mrel (M2 196) (nxV V (aDrop V i)) ∧ mhst M2 (nxH V Hs (aDrop V i)) ∧ Rk M2 (nxV V (aDrop V i)) ∧ mafr M M2)) (some .int) 0 0 := Rt
  show xX Γ 0 0 n T 0 [(0, xR 195), (1, xI i)] [] M
  have hc := ok_c hv
  refine x_aload_n G 0 rfl rfl dX7_drop_0 ?_
  refine x_iload_n G 1 rfl rfl dX7_drop_1 ?_
  refine x_callVp G [] [xI i] rfl (by decide) (ly_n hY 195 (by decide)) (ly_k hY 195 (by decide)) hy_X7_isThere hi_X7_isThere hs_X7_isThere ml_X7_226 rfl rfl (kX7_isThere _ _ V i hY hN hv) (by decide) (by decide) (Nat.le_of_ble_eq_true rfl) dX7_drop_2 ?_
  refine x_if_ne G 10 (by decide) dX7_drop_5 (fun c5 => ?_) (fun c5 => ?_)
  · skip
    have c5 := b2i_ne0.mp c5
    have hit := ok_i hv c5.1.1 c5.1.2
    refine x_aload_n G 0 rfl rfl dX7_drop_10 ?_
    refine x_iload_n G 1 rfl rfl dX7_drop_11 ?_
    refine x_callVp G [] [xI i] rfl (by decide) (ly_n hY 195 (by decide)) (ly_k hY 195 (by decide)) hy_X7_shardOf hi_X7_shardOf hs_X7_shardOf ml_X7_62 rfl rfl (kX7_shardOf_u _ _ V i hY hN hv (by omega) (show V 9 i.toNat = 0 by omega)) (by decide) (by decide) (Nat.le_of_ble_eq_true rfl) dX7_drop_12 ?_
    refine x_istore_n G [(2, xI (V 4 i.toNat)), (0, xR 195), (1, xI i)] rfl (by decide) rfl dX7_drop_15 ?_
    refine x_aload_n G 1 rfl rfl dX7_drop_16 ?_
    refine x_callVV G [] [] rfl (by decide) (ly_n hY 195 (by decide)) (ly_k hY 195 (by decide)) hy_X7_keepsAct hi_X7_keepsAct hs_X7_keepsAct ml_X7_216 rfl rfl (kX7_keepsAct _ _ V Hs hY hN hv hH) (by decide) (by decide) (Nat.le_of_ble_eq_true rfl) dX7_drop_17 (fun M17 h17 => ?_)
    refine x_aload_n G 1 rfl rfl dX7_drop_20 ?_
    refine x_iload_n G 2 rfl rfl dX7_drop_21 ?_
    refine x_iconst G (by decide) dX7_drop_22 ?_
    refine x_iconst G (by decide) dX7_drop_23 ?_
    refine x_iload_n G 0 rfl rfl dX7_drop_24 ?_
    refine x_iadd G (by omega) dX7_drop_25 ?_
    refine x_callVV G [] [xI i, xI 0, xI (4 + (V 4 i.toNat))] rfl (by decide) (ly_n hY 195 (by decide)) (ly_k hY 195 (by decide)) hy_X7_sets hi_X7_sets hs_X7_sets ml_X7_212 rfl rfl (kX7_sets _ _ i 0 (4 + (V 4 i.toNat)) hY (by omega) (by decide)) (by decide) (by decide) (Nat.le_of_ble_eq_true rfl) dX7_drop_26 (fun M26 h26 => ?_)
    subst h26
    show xX Γ 0 0 n T 29 [(2, xI (V 4 i.toNat)), (0, xR 195), (1, xI i)] [] (xst M17 196 ((11 + (5 * i)) + 0).toNat (4 + (V 4 i.toNat)))
    have hvd : VOK (xst V 9 i.toNat 1) := ok_item hv (by omega) (fun _ => by simp [itm, xst_eq]; omega)
    skip
    refine x_aload_n G 1 rfl rfl dX7_drop_29 ?_
    refine x_iload_n G 0 rfl rfl dX7_drop_30 ?_
    refine x_callVp G [] [xI (V 4 i.toNat)] rfl (by decide) (ly_n hY 195 (by decide)) (ly_k hY 195 (by decide)) hy_X7_thereIn hi_X7_thereIn hs_X7_thereIn ml_X7_199 rfl rfl (kX7_thereIn _ _ (xst V 9 i.toNat 1) (V 4 i.toNat) hY (mr_set9 (mr_cg hN (h17.2.2.1 196 (by omega) (by omega))) (by omega) (by omega)) hvd (by omega)) (by decide) (by decide) (Nat.le_of_ble_eq_true rfl) dX7_drop_31 ?_
    exact x_iret G Rt dX7_drop_34 ⟨rfl, rfl, _, rfl, (by
        have e9 : aDrop V i = ((cntU (xst V 9 i.toNat 1) (V 4 i.toNat) (-1)), some (xst V 9 i.toNat 1)) := (by unfold aDrop; rw [if_pos c5])
        rw [e9]
        exact ⟨rfl, (mr_set9 (mr_cg hN (h17.2.2.1 196 (by omega) (by omega))) (by omega) (by omega)), (mh_cg h17.1 (xst_nq (by omega)) (xst_row (by omega))), Or.inl ((xst_nq (by omega)).trans h17.2.1), (maf_st (maf_ka (maf_refl _) h17.2.2) (by omega))⟩)⟩
  · skip
    have c5 := b2i_eq0.mp c5
    refine x_iconst G (by decide) dX7_drop_8 ?_
    exact x_iret G Rt dX7_drop_9 ⟨rfl, rfl, _, rfl, (by
        have e9 : aDrop V i = ((-1), none) := (by unfold aDrop; (repeat (first | rw [if_pos (by omega)] | rw [if_neg (by omega)])) <;> try rfl)
        rw [e9]
        exact ⟨rfl, hN, hH, hR, (maf_refl _)⟩)⟩
set_option maxRecDepth 100000 in
set_option maxHeartbeats 4000000 in
theorem kX7_swap (D : xD) (l : Launch) {n : Nat} {T : xT} {M : xM} (V : xM) (Hs : List xM) (i j : Int) (hY : LayOK n T) (hN : mrel (M 196) V) (hv : VOK V) (hs : Srt V (V 10) (V 0 10).toNat) (hR : Rk M V) (hH : mhst M Hs) : xC D l uX7_swap 4 85 0 0 [xR 195, xI i, xI j] n T M (xPI n T (fun z M2 => z = (aSwap V i j).1 ∧ mrel (M2 196) (nxV V (aSwap V i j)) ∧ mhst M2 (nxH V Hs (aSwap V i j)) ∧ Rk M2 (nxV V (aSwap V i j)) ∧ mafr M M2)) := by
  refine x_met uX7_swap (by decide) (Nat.le_of_ble_eq_true rfl) ?_
  intro Γ G Rt _
  have G : xG Γ RX7 cX7_swap 5 4 85 0 0 := G
  have Rt : xRt Γ (xPI n T (fun z M2 => z = (aSwap V i j).1 ∧ mrel (M2 196) (nxV V (aSwap V i j)) ∧ mhst M2 (nxH V Hs (aSwap V i j)) ∧ Rk M2 (nxV V (aSwap V i j)) ∧ mafr M M2)) (some .int) 0 0 := Rt
  show xX Γ 0 0 n T 0 [(0, xR 195), (1, xI i), (2, xI j)] [] M
  have hc := ok_c hv
  refine x_aload_n G 0 rfl rfl dX7_swap_0 ?_
  refine x_iload_n G 1 rfl rfl dX7_swap_1 ?_
  refine x_callVp G [] [xI i] rfl (by decide) (ly_n hY 195 (by decide)) (ly_k hY 195 (by decide)) hy_X7_isThere hi_X7_isThere hs_X7_isThere ml_X7_226 rfl rfl (kX7_isThere _ _ V i hY hN hv) (by decide) (by decide) (Nat.le_of_ble_eq_true rfl) dX7_swap_2 ?_
  refine x_if_eq G 21 (by decide) dX7_swap_5 (fun c5 => ?_) (fun c5 => ?_)
  · skip
    have c5 := b2i_eq0.mp c5
    refine x_iconst G (by decide) dX7_swap_21 ?_
    exact x_iret G Rt dX7_swap_22 ⟨rfl, rfl, _, rfl, (by
        have e9 : aSwap V i j = ((-1), none) := (by unfold aSwap; (repeat (first | rw [if_pos (by omega)] | rw [if_neg (by omega)])) <;> try rfl)
        rw [e9]
        exact ⟨rfl, hN, hH, hR, (maf_refl _)⟩)⟩
  · skip
    have c5 := b2i_ne0.mp c5
    refine x_aload_n G 0 rfl rfl dX7_swap_8 ?_
    refine x_iload_n G 2 rfl rfl dX7_swap_9 ?_
    refine x_callVp G [] [xI j] rfl (by decide) (ly_n hY 195 (by decide)) (ly_k hY 195 (by decide)) hy_X7_isThere hi_X7_isThere hs_X7_isThere ml_X7_226 rfl rfl (kX7_isThere _ _ V j hY hN hv) (by decide) (by decide) (Nat.le_of_ble_eq_true rfl) dX7_swap_10 ?_
    refine x_if_eq G 21 (by decide) dX7_swap_13 (fun c13 => ?_) (fun c13 => ?_)
    · skip
      have c13 := b2i_eq0.mp c13
      refine x_iconst G (by decide) dX7_swap_21 ?_
      exact x_iret G Rt dX7_swap_22 ⟨rfl, rfl, _, rfl, (by
        have e9 : aSwap V i j = ((-1), none) := (by unfold aSwap; (repeat (first | rw [if_pos (by omega)] | rw [if_neg (by omega)])) <;> try rfl)
        rw [e9]
        exact ⟨rfl, hN, hH, hR, (maf_refl _)⟩)⟩
    · skip
      have c13 := b2i_ne0.mp c13
      refine x_iload_n G 1 rfl rfl dX7_swap_16 ?_
      refine x_iload_n G 2 rfl rfl dX7_swap_17 ?_
      refine x_icmp_ne G 23 (by decide) dX7_swap_18 (fun c18 => ?_) (fun c18 => ?_)
      · skip
        refine x_aload_n G 0 rfl rfl dX7_swap_23 ?_
        refine x_iload_n G 1 rfl rfl dX7_swap_24 ?_
        refine x_iconst G (by decide) dX7_swap_25 ?_
        refine x_callVp G [] [xI i, xI 3] rfl (by decide) (ly_n hY 195 (by decide)) (ly_k hY 195 (by decide)) hy_X7_item hi_X7_item hs_X7_item ml_X7_58 rfl rfl (kX7_item_3 _ _ V i hY hN hv (by omega)) (by decide) (by decide) (Nat.le_of_ble_eq_true rfl) dX7_swap_26 ?_
        refine x_istore_n G [(3, xI (V 7 i.toNat)), (0, xR 195), (1, xI i), (2, xI j)] rfl (by decide) rfl dX7_swap_29 ?_
        refine x_aload_n G 1 rfl rfl dX7_swap_30 ?_
        refine x_iload_n G 3 rfl rfl dX7_swap_31 ?_
        refine x_iconst G (by decide) dX7_swap_32 ?_
        refine x_callVp G [] [xI j, xI 3] rfl (by decide) (ly_n hY 195 (by decide)) (ly_k hY 195 (by decide)) hy_X7_item hi_X7_item hs_X7_item ml_X7_58 rfl rfl (kX7_item_3 _ _ V j hY hN hv (by omega)) (by decide) (by decide) (Nat.le_of_ble_eq_true rfl) dX7_swap_33 ?_
        refine x_istore G [(4, xI (V 7 j.toNat)), (3, xI (V 7 i.toNat)), (0, xR 195), (1, xI i), (2, xI j)] (by decide) rfl dX7_swap_36 ?_
        refine x_iload_n G 1 rfl rfl dX7_swap_38 ?_
        refine x_iload G 0 rfl dX7_swap_39 ?_
        refine x_icmp_ne G 47 (by decide) dX7_swap_41 (fun c41 => ?_) (fun c41 => ?_)
        · skip
          refine x_aload_n G 2 rfl rfl dX7_swap_47 ?_
          refine x_callVV G [] [] rfl (by decide) (ly_n hY 195 (by decide)) (ly_k hY 195 (by decide)) hy_X7_keepsAct hi_X7_keepsAct hs_X7_keepsAct ml_X7_216 rfl rfl (kX7_keepsAct _ _ V Hs hY hN hv hH) (by decide) (by decide) (Nat.le_of_ble_eq_true rfl) dX7_swap_48 (fun M48 h48 => ?_)
          refine x_aload_n G 2 rfl rfl dX7_swap_51 ?_
          refine x_iload_n G 3 rfl rfl dX7_swap_52 ?_
          refine x_iconst G (by decide) dX7_swap_53 ?_
          refine x_iload G 0 rfl dX7_swap_54 ?_
          refine x_callVV G [] [xI i, xI 3, xI (V 7 j.toNat)] rfl (by decide) (ly_n hY 195 (by decide)) (ly_k hY 195 (by decide)) hy_X7_sets hi_X7_sets hs_X7_sets ml_X7_212 rfl rfl (kX7_sets _ _ i 3 (V 7 j.toNat) hY (by omega) (by decide)) (by decide) (by decide) (Nat.le_of_ble_eq_true rfl) dX7_swap_56 (fun M56 h56 => ?_)
          subst h56
          show xX Γ 0 0 n T 59 [(4, xI (V 7 j.toNat)), (3, xI (V 7 i.toNat)), (0, xR 195), (1, xI i), (2, xI j)] [] (xst M48 196 ((11 + (5 * i)) + 3).toNat (V 7 j.toNat))
          refine x_aload_n G 2 rfl rfl dX7_swap_59 ?_
          refine x_iload_n G 4 rfl rfl dX7_swap_60 ?_
          refine x_iconst G (by decide) dX7_swap_61 ?_
          refine x_iload_n G 1 rfl rfl dX7_swap_62 ?_
          refine x_callVV G [] [xI j, xI 3, xI (V 7 i.toNat)] rfl (by decide) (ly_n hY 195 (by decide)) (ly_k hY 195 (by decide)) hy_X7_sets hi_X7_sets hs_X7_sets ml_X7_212 rfl rfl (kX7_sets _ _ j 3 (V 7 i.toNat) hY (by omega) (by decide)) (by decide) (by decide) (Nat.le_of_ble_eq_true rfl) dX7_swap_63 (fun M63 h63 => ?_)
          subst h63
          show xX Γ 0 0 n T 66 [(4, xI (V 7 j.toNat)), (3, xI (V 7 i.toNat)), (0, xR 195), (1, xI i), (2, xI j)] [] (xst (xst M48 196 ((11 + (5 * i)) + 3).toNat (V 7 j.toNat)) 196 ((11 + (5 * j)) + 3).toNat (V 7 i.toNat))
          refine x_iconst G (by decide) dX7_swap_66 ?_
          exact x_iret G Rt dX7_swap_67 ⟨rfl, rfl, _, rfl, (by
        have e9 : aSwap V i j = (1, some (xst (xst V 7 i.toNat (V 7 j.toNat)) 7 j.toNat (V 7 i.toNat))) := (by unfold aSwap; (repeat (first | rw [if_pos (by omega)] | rw [if_neg (by omega)])) <;> try rfl)
        rw [e9]
        exact ⟨rfl, (mr_set (w := 3) (mr_set (w := 3) (mr_cg hN (h48.2.2.1 196 (by omega) (by omega))) (by decide) (by omega)) (by decide) (by omega)), (mh_cg (mh_cg h48.1 (xst_nq (by omega)) (xst_row (by omega))) (xst_nq (by omega)) (xst_row (by omega))), Or.inl ((xst_nq (by omega)).trans ((xst_nq (by omega)).trans h48.2.1)), (maf_st (maf_st (maf_ka (maf_refl _) h48.2.2) (by omega)) (by omega))⟩)⟩
        · skip
          refine x_bipush G (by decide) dX7_swap_44 ?_
          exact x_iret G Rt dX7_swap_46 ⟨rfl, rfl, _, rfl, (by
        have e9 : aSwap V i j = ((-2), none) := (by unfold aSwap; (repeat (first | rw [if_pos (by omega)] | rw [if_neg (by omega)])) <;> try rfl)
        rw [e9]
        exact ⟨rfl, hN, hH, hR, (maf_refl _)⟩)⟩
      · skip
        refine x_iconst G (by decide) dX7_swap_21 ?_
        exact x_iret G Rt dX7_swap_22 ⟨rfl, rfl, _, rfl, (by
        have e9 : aSwap V i j = ((-1), none) := (by unfold aSwap; (repeat (first | rw [if_pos (by omega)] | rw [if_neg (by omega)])) <;> try rfl)
        rw [e9]
        exact ⟨rfl, hN, hH, hR, (maf_refl _)⟩)⟩
