set_option maxRecDepth 100000 in
set_option maxHeartbeats 4000000 in
theorem kX6_isWithin (D : xD) (l : Launch) {n : Nat} {T : xT} {M : xM} (z lo hi : Int)  : xC D l uX6_isWithin 0 0 0 0 [xI z, xI lo, xI hi] n T M (xPp n T M (b2i (lo ≤ z ∧ z ≤ hi))) := by
  refine x_met uX6_isWithin (by decide) (Nat.le_of_ble_eq_true rfl) ?_
  intro Γ G Rt _
  have G : xG Γ RX6 cX6_isWithin 3 0 0 0 0 := G
  have Rt : xRt Γ (xPp n T M (b2i (lo ≤ z ∧ z ≤ hi))) (some .boolean) 0 0 := Rt
  show xX Γ 0 0 n T 0 [(0, xI z), (1, xI lo), (2, xI hi)] [] M
  refine x_iload_n G 0 rfl rfl dX6_isWithin_0 ?_
  refine x_iload_n G 1 rfl rfl dX6_isWithin_1 ?_
  refine x_icmp_lt G 14 (by decide) dX6_isWithin_2 (fun c2 => ?_) (fun c2 => ?_)
  · skip
    refine x_iconst G (by decide) dX6_isWithin_14 ?_
    exact x_zret G (by omega) Rt dX6_isWithin_15 ⟨rfl, rfl, congrArg (fun z => some (xI z)) (by first | exact (b2i_t (by omega)).symm | exact (b2i_f (by omega)).symm), rfl⟩
  · skip
    refine x_iload_n G 0 rfl rfl dX6_isWithin_5 ?_
    refine x_iload_n G 2 rfl rfl dX6_isWithin_6 ?_
    refine x_icmp_gt G 14 (by decide) dX6_isWithin_7 (fun c7 => ?_) (fun c7 => ?_)
    · skip
      refine x_iconst G (by decide) dX6_isWithin_14 ?_
      exact x_zret G (by omega) Rt dX6_isWithin_15 ⟨rfl, rfl, congrArg (fun z => some (xI z)) (by first | exact (b2i_t (by omega)).symm | exact (b2i_f (by omega)).symm), rfl⟩
    · skip
      refine x_iconst G (by decide) dX6_isWithin_10 ?_
      refine x_goto G 15 (by decide) dX6_isWithin_11 ?_
      exact x_zret G (by omega) Rt dX6_isWithin_15 ⟨rfl, rfl, congrArg (fun z => some (xI z)) (by first | exact (b2i_t (by omega)).symm | exact (b2i_f (by omega)).symm), rfl⟩
set_option maxRecDepth 100000 in
set_option maxHeartbeats 4000000 in
theorem kX3_hasItem (D : xD) (l : Launch) {n : Nat} {T : xT} {M : xM} (a : Nat) (i : Int) (hS : StL n T a) (hc : i32 (M a 10 - 1)) : xC D l uX3_hasItem 1 22 0 0 [xR a, xI i] n T M (xPp n T M (b2i (0 ≤ i ∧ i ≤ M a 10 - 1))) := by
  refine x_met uX3_hasItem (by decide) (Nat.le_of_ble_eq_true rfl) ?_
  intro Γ G Rt _
  have G : xG Γ RX3 cX3_hasItem 2 1 22 0 0 := G
  have Rt : xRt Γ (xPp n T M (b2i (0 ≤ i ∧ i ≤ M a 10 - 1))) (some .boolean) 0 0 := Rt
  show xX Γ 0 0 n T 0 [(0, xR a), (1, xI i)] [] M
  refine x_iload_n G 1 rfl rfl dX3_hasItem_0 ?_
  refine x_iconst G (by decide) dX3_hasItem_1 ?_
  refine x_aload_n G 0 rfl rfl dX3_hasItem_2 ?_
  refine x_get G (xI (M a 10)) xf3_10 lk_X3_50 (st_n hS 0 (by decide)) (st_k hS 0 (by decide)) (Or.inl ⟨rfl, rfl⟩) dX3_hasItem_3 ?_
  refine x_iconst G (by decide) dX3_hasItem_6 ?_
  refine x_isub G (by omega) dX3_hasItem_7 ?_
  refine x_callSp G [] [xI i, xI 0, xI ((M a 10) - 1)] hy_X6_isWithin ht_X6_isWithin ml_X3_60 rfl rfl (kX6_isWithin _ _ i 0 ((M a 10) - 1)) (by decide) (by decide) (Nat.le_of_ble_eq_true rfl) dX3_hasItem_8 ?_
  exact x_zret G b2i_01 Rt dX3_hasItem_11 ⟨rfl, rfl, congrArg (fun z => some (xI z)) (rfl), rfl⟩
