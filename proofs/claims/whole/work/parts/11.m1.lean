set_option maxRecDepth 100000 in
set_option maxHeartbeats 4000000 in
theorem kX6_isWithin (D : xD) (l : Launch) {n : Nat} {T : xT} {M : xM} (z lo hi : Int)  : xC D l uX6_isWithin 0 0 0 0 [xI z, xI lo, xI hi] n T M (xPp n T M (b2i (lo ≤ z ∧ z ≤ hi))) := by
  refine x_met uX6_isWithin (by decide) (Nat.le_of_ble_eq_true rfl) ?_
  intro Γ G Rt _
  have G : xG Γ RX6 cX6_isWithin 3 0 0 0 0 := G
  have Rt : xRt Γ (xPp n T M (b2i (lo ≤ z ∧ z ≤ hi))) (some .boolean) 0 0 := Rt
  show xX Γ 0 0 n T 0 [(0, xI z), (1, xI lo), (2, xI hi)] [] M
  refine x_iload_n G 0 rfl rfl dX6_isWithin_0 ?_
  refine x_iload_n G 1 rfl rfl dX6_isWithin_1 ?_
  refine x_icmp_lt G 14 (by decide) dX6_isWithin_2 (fun c2 => ?_) (fun c2 => ?_)
  · skip
    refine x_iconst G (by decide) dX6_isWithin_14 ?_
    exact x_zret G (by omega) Rt dX6_isWithin_15 ⟨rfl, rfl, congrArg (fun z => some (xI z)) (by first | exact (b2i_t (by omega)).symm | exact (b2i_f (by omega)).symm), rfl⟩
  · skip
    refine x_iload_n G 0 rfl rfl dX6_isWithin_5 ?_
    refine x_iload_n G 2 rfl rfl dX6_isWithin_6 ?_
    refine x_icmp_gt G 14 (by decide) dX6_isWithin_7 (fun c7 => ?_) (fun c7 => ?_)
    · skip
      refine x_iconst G (by decide) dX6_isWithin_14 ?_
      exact x_zret G (by omega) Rt dX6_isWithin_15 ⟨rfl, rfl, congrArg (fun z => some (xI z)) (by first | exact (b2i_t (by omega)).symm | exact (b2i_f (by omega)).symm), rfl⟩
    · skip
      refine x_iconst G (by decide) dX6_isWithin_10 ?_
      refine x_goto G 15 (by decide) dX6_isWithin_11 ?_
      exact x_zret G (by omega) Rt dX6_isWithin_15 ⟨rfl, rfl, congrArg (fun z => some (xI z)) (by first | exact (b2i_t (by omega)).symm | exact (b2i_f (by omega)).symm), rfl⟩
