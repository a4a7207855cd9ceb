set_option maxRecDepth 100000 in
set_option maxHeartbeats 4000000 in
theorem kX6_isShard (D : xD) (l : Launch) {n : Nat} {T : xT} {M : xM} (z : Int)  : xC D l uX6_isShard 1 22 0 0 [xI z] n T M (xPp n T M (b2i (0 ≤ z ∧ z ≤ 3))) := by
  refine x_met uX6_isShard (by decide) (Nat.le_of_ble_eq_true rfl) ?_
  intro Γ G Rt _
  have G : xG Γ RX6 cX6_isShard 1 1 22 0 0 := G
  have Rt : xRt Γ (xPp n T M (b2i (0 ≤ z ∧ z ≤ 3))) (some .boolean) 0 0 := Rt
  show xX Γ 0 0 n T 0 [(0, xI z)] [] M
  refine x_iload_n G 0 rfl rfl dX6_isShard_0 ?_
  refine x_iconst G (by decide) dX6_isShard_1 ?_
  refine x_iconst G (by decide) dX6_isShard_2 ?_
  refine x_callSp G [] [xI z, xI 0, xI 3] hy_X6_isWithin ht_X6_isWithin ml_X6_62 rfl rfl (kX6_isWithin _ _ z 0 3) (by decide) (by decide) (Nat.le_of_ble_eq_true rfl) dX6_isShard_3 ?_
  exact x_zret G b2i_01 Rt dX6_isShard_6 ⟨rfl, rfl, congrArg (fun z => some (xI z)) (rfl), rfl⟩
set_option maxRecDepth 100000 in
set_option maxHeartbeats 4000000 in
theorem kX6_isSet (D : xD) (l : Launch) {n : Nat} {T : xT} {M : xM} (z : Int)  : xC D l uX6_isSet 1 22 0 0 [xI z] n T M (xPp n T M (b2i (1 ≤ z ∧ z ≤ 15))) := by
  refine x_met uX6_isSet (by decide) (Nat.le_of_ble_eq_true rfl) ?_
  intro Γ G Rt _
  have G : xG Γ RX6 cX6_isSet 1 1 22 0 0 := G
  have Rt : xRt Γ (xPp n T M (b2i (1 ≤ z ∧ z ≤ 15))) (some .boolean) 0 0 := Rt
  show xX Γ 0 0 n T 0 [(0, xI z)] [] M
  refine x_iload_n G 0 rfl rfl dX6_isSet_0 ?_
  refine x_iconst G (by decide) dX6_isSet_1 ?_
  refine x_bipush G (by decide) dX6_isSet_2 ?_
  refine x_callSp G [] [xI z, xI 1, xI 15] hy_X6_isWithin ht_X6_isWithin ml_X6_62 rfl rfl (kX6_isWithin _ _ z 1 15) (by decide) (by decide) (Nat.le_of_ble_eq_true rfl) dX6_isSet_4 ?_
  exact x_zret G b2i_01 Rt dX6_isSet_7 ⟨rfl, rfl, congrArg (fun z => some (xI z)) (rfl), rfl⟩
set_option maxRecDepth 100000 in
set_option maxHeartbeats 4000000 in
theorem kX6_isLabel (D : xD) (l : Launch) {n : Nat} {T : xT} {M : xM} (z : Int)  : xC D l uX6_isLabel 1 22 0 0 [xI z] n T M (xPp n T M (b2i (0 ≤ z ∧ z ≤ 25))) := by
  refine x_met uX6_isLabel (by decide) (Nat.le_of_ble_eq_true rfl) ?_
  intro Γ G Rt _
  have G : xG Γ RX6 cX6_isLabel 1 1 22 0 0 := G
  have Rt : xRt Γ (xPp n T M (b2i (0 ≤ z ∧ z ≤ 25))) (some .boolean) 0 0 := Rt
  show xX Γ 0 0 n T 0 [(0, xI z)] [] M
  refine x_iload_n G 0 rfl rfl dX6_isLabel_0 ?_
  refine x_iconst G (by decide) dX6_isLabel_1 ?_
  refine x_bipush G (by decide) dX6_isLabel_2 ?_
  refine x_callSp G [] [xI z, xI 0, xI 25] hy_X6_isWithin ht_X6_isWithin ml_X6_62 rfl rfl (kX6_isWithin _ _ z 0 25) (by decide) (by decide) (Nat.le_of_ble_eq_true rfl) dX6_isLabel_4 ?_
  exact x_zret G b2i_01 Rt dX6_isLabel_7 ⟨rfl, rfl, congrArg (fun z => some (xI z)) (rfl), rfl⟩
set_option maxRecDepth 100000 in
set_option maxHeartbeats 4000000 in
theorem kX6_isWeight (D : xD) (l : Launch) {n : Nat} {T : xT} {M : xM} (z : Int)  : xC D l uX6_isWeight 1 22 0 0 [xI z] n T M (xPp n T M (b2i (1 ≤ z ∧ z ≤ 20))) := by
  refine x_met uX6_isWeight (by decide) (Nat.le_of_ble_eq_true rfl) ?_
  intro Γ G Rt _
  have G : xG Γ RX6 cX6_isWeight 1 1 22 0 0 := G
  have Rt : xRt Γ (xPp n T M (b2i (1 ≤ z ∧ z ≤ 20))) (some .boolean) 0 0 := Rt
  show xX Γ 0 0 n T 0 [(0, xI z)] [] M
  refine x_iload_n G 0 rfl rfl dX6_isWeight_0 ?_
  refine x_iconst G (by decide) dX6_isWeight_1 ?_
  refine x_bipush G (by decide) dX6_isWeight_2 ?_
  refine x_callSp G [] [xI z, xI 1, xI 20] hy_X6_isWithin ht_X6_isWithin ml_X6_62 rfl rfl (kX6_isWithin _ _ z 1 20) (by decide) (by decide) (Nat.le_of_ble_eq_true rfl) dX6_isWeight_4 ?_
  exact x_zret G b2i_01 Rt dX6_isWeight_7 ⟨rfl, rfl, congrArg (fun z => some (xI z)) (rfl), rfl⟩
set_option maxRecDepth 100000 in
set_option maxHeartbeats 4000000 in
theorem kX6_isLot (D : xD) (l : Launch) {n : Nat} {T : xT} {M : xM} (z : Int)  : xC D l uX6_isLot 1 22 0 0 [xI z] n T M (xPp n T M (b2i (1 ≤ z ∧ z ≤ 1023))) := by
  refine x_met uX6_isLot (by decide) (Nat.le_of_ble_eq_true rfl) ?_
  intro Γ G Rt _
  have G : xG Γ RX6 cX6_isLot 1 1 22 0 0 := G
  have Rt : xRt Γ (xPp n T M (b2i (1 ≤ z ∧ z ≤ 1023))) (some .boolean) 0 0 := Rt
  show xX Γ 0 0 n T 0 [(0, xI z)] [] M
  refine x_iload_n G 0 rfl rfl dX6_isLot_0 ?_
  refine x_iconst G (by decide) dX6_isLot_1 ?_
  refine x_sipush G (by decide) dX6_isLot_2 ?_
  refine x_callSp G [] [xI z, xI 1, xI 1023] hy_X6_isWithin ht_X6_isWithin ml_X6_62 rfl rfl (kX6_isWithin _ _ z 1 1023) (by decide) (by decide) (Nat.le_of_ble_eq_true rfl) dX6_isLot_5 ?_
  exact x_zret G b2i_01 Rt dX6_isLot_8 ⟨rfl, rfl, congrArg (fun z => some (xI z)) (rfl), rfl⟩
set_option maxRecDepth 100000 in
set_option maxHeartbeats 4000000 in
theorem kX6_isShelf (D : xD) (l : Launch) {n : Nat} {T : xT} {M : xM} (z : Int)  : xC D l uX6_isShelf 1 22 0 0 [xI z] n T M (xPp n T M (b2i (0 ≤ z ∧ z ≤ 1))) := by
  refine x_met uX6_isShelf (by decide) (Nat.le_of_ble_eq_true rfl) ?_
  intro Γ G Rt _
  have G : xG Γ RX6 cX6_isShelf 1 1 22 0 0 := G
  have Rt : xRt Γ (xPp n T M (b2i (0 ≤ z ∧ z ≤ 1))) (some .boolean) 0 0 := Rt
  show xX Γ 0 0 n T 0 [(0, xI z)] [] M
  refine x_iload_n G 0 rfl rfl dX6_isShelf_0 ?_
  refine x_iconst G (by decide) dX6_isShelf_1 ?_
  refine x_iconst G (by decide) dX6_isShelf_2 ?_
  refine x_callSp G [] [xI z, xI 0, xI 1] hy_X6_isWithin ht_X6_isWithin ml_X6_62 rfl rfl (kX6_isWithin _ _ z 0 1) (by decide) (by decide) (Nat.le_of_ble_eq_true rfl) dX6_isShelf_3 ?_
  exact x_zret G b2i_01 Rt dX6_isShelf_6 ⟨rfl, rfl, congrArg (fun z => some (xI z)) (rfl), rfl⟩
set_option maxRecDepth 100000 in
set_option maxHeartbeats 4000000 in
theorem kX6_lotOfSeed (D : xD) (l : Launch) {n : Nat} {T : xT} {M : xM} (s : Int) (hs : 0 ≤ s ∧ s < 65536) : xC D l uX6_lotOfSeed 0 0 0 0 [xI s] n T M (xPp n T M (s / 64)) := by
  refine x_met uX6_lotOfSeed (by decide) (Nat.le_of_ble_eq_true rfl) ?_
  intro Γ G Rt _
  have G : xG Γ RX6 cX6_lotOfSeed 1 0 0 0 0 := G
  have Rt : xRt Γ (xPp n T M (s / 64)) (some .int) 0 0 := Rt
  show xX Γ 0 0 n T 0 [(0, xI s)] [] M
  refine x_iload_n G 0 rfl rfl dX6_lotOfSeed_0 ?_
  refine x_bipush G (by decide) dX6_lotOfSeed_1 ?_
  refine x_ishr G (s / 64) (x_shr' hs.1 ⟨by omega, by omega⟩ (by decide) (by decide)) (by omega) dX6_lotOfSeed_3 ?_
  exact x_iret G Rt dX6_lotOfSeed_4 ⟨rfl, rfl, congrArg (fun z => some (xI z)) (rfl), rfl⟩
set_option maxRecDepth 100000 in
set_option maxHeartbeats 4000000 in
theorem kX6_seedOfNextLot (D : xD) (l : Launch) {n : Nat} {T : xT} {M : xM} (s : Int) (hs : 0 ≤ s ∧ s < 65536) : xC D l uX6_seedOfNextLot 1 20 0 0 [xI s] n T M (xPp n T M (drw s)) := by
  refine x_met uX6_seedOfNextLot (by decide) (Nat.le_of_ble_eq_true rfl) ?_
  intro Γ G Rt _
  have G : xG Γ RX6 cX6_seedOfNextLot 3 1 20 0 0 := G
  have Rt : xRt Γ (xPp n T M (drw s)) (some .int) 0 0 := Rt
  show xX Γ 0 0 n T 0 [(0, xI s)] [] M
  refine x_iload_n G 0 rfl rfl dX6_seedOfNextLot_0 ?_
  refine x_istore_n G [(1, xI s), (0, xI s)] rfl (by decide) rfl dX6_seedOfNextLot_1 ?_
  refine x_iconst G (by decide) dX6_seedOfNextLot_2 ?_
  refine x_istore_n G [(2, xI 0), (1, xI s), (0, xI s)] rfl (by decide) rfl dX6_seedOfNextLot_3 ?_
  have loop4 : ∀ (d : Nat) (k : Int) (q : Int), (2 - k).toNat = d → (k = 0 ∧ q = s ∨ k = 1 ∧ q = nxt s ∧ q < 64) → (0 ≤ q ∧ q < 65536) → xX Γ 0 0 n T 4 [(0, xI s), (1, xI q), (2, xI k)] [] M := by
    intro d
    induction d using Nat.strongRecOn with
    | ind d ih4 =>
    intro k q hd4 hk hq
    have hd1 := drw_b s
    have hnb := nxt_b s
    have hnb2 := nxt_b (nxt s)
    have hn2 := nxt_b q
    have hn64 : k = 1 → 64 ≤ nxt q := fun h => nxt_two hq.1 (by omega)
    refine x_iload_n G 2 rfl rfl dX6_seedOfNextLot_4 ?_
    refine x_ldc G (z := 65535) (by decide) kc_X6_172 dX6_seedOfNextLot_5 ?_
    refine x_icmp_gt G 39 (by decide) dX6_seedOfNextLot_7 (fun c7 => ?_) (fun c7 => ?_)
    · skip
      exfalso; omega
    · skip
      refine x_sipush G (by decide) dX6_seedOfNextLot_10 ?_
      refine x_iload_n G 1 rfl rfl dX6_seedOfNextLot_13 ?_
      refine x_imul G (by omega) dX6_seedOfNextLot_14 ?_
      refine x_sipush G (by decide) dX6_seedOfNextLot_15 ?_
      refine x_iadd G (by omega) dX6_seedOfNextLot_18 ?_
      refine x_ldc G (z := 65535) (by decide) kc_X6_172 dX6_seedOfNextLot_19 ?_
      refine x_iand G (nxt q) (by have := x_and' (x := 25173 * q + 13849) (m := 65535) 16 (by decide) (by omega); exact this) (by omega) dX6_seedOfNextLot_21 ?_
      refine x_istore_n G [(1, xI (nxt q)), (0, xI s), (2, xI k)] rfl (by decide) rfl dX6_seedOfNextLot_22 ?_
      refine x_iload_n G 0 rfl rfl dX6_seedOfNextLot_23 ?_
      refine x_callSp G [] [xI (nxt q)] hy_X6_lotOfSeed ht_X6_lotOfSeed ml_X6_251 rfl rfl (kX6_lotOfSeed _ _ (nxt q) (by omega)) (by decide) (by decide) (Nat.le_of_ble_eq_true rfl) dX6_seedOfNextLot_24 ?_
      refine x_if_le G 33 (by decide) dX6_seedOfNextLot_27 (fun c27 => ?_) (fun c27 => ?_)
      · skip
        refine x_iinc G [(2, xI (k + 1)), (1, xI (nxt q)), (0, xI s)] 2 rfl (by decide) (by omega) rfl dX6_seedOfNextLot_33 ?_
        refine x_goto G 4 (by decide) dX6_seedOfNextLot_36 ?_
        refine x_sub [(0, xI s), (1, xI (nxt q)), (2, xI (k + 1))] [2, 1, 0] rfl ?_
        exact ih4 _ (by (unfold nxt at *; omega)) (k + 1) (nxt q) rfl (by (unfold nxt at *; omega)) (by (unfold nxt at *; omega))
      · skip
        refine x_goto G 39 (by decide) dX6_seedOfNextLot_30 ?_
        refine x_iload_n G 0 rfl rfl dX6_seedOfNextLot_39 ?_
        exact x_iret G Rt dX6_seedOfNextLot_40 ⟨rfl, rfl, congrArg (fun z => some (xI z)) (by (unfold drw; rcases hk with ⟨hk1, hk2⟩ | ⟨hk1, hk2, hk3⟩ <;> subst hk2 <;> split <;> first | rfl | omega)), rfl⟩
  refine x_sub [(0, xI s), (1, xI s), (2, xI 0)] [2, 1, 0] rfl ?_
  exact loop4 _ 0 s rfl (by omega) (by omega)
set_option maxRecDepth 100000 in
set_option maxHeartbeats 4000000 in
theorem kX3_hasItem (D : xD) (l : Launch) {n : Nat} {T : xT} {M : xM} (a : Nat) (V : xM) (i : Int) (hS : StL n T a) (hV : shw M a V) (hv : VOK V) : xC D l uX3_hasItem 1 22 0 0 [xR a, xI i] n T M (xPp n T M (b2i (0 ≤ i ∧ i ≤ V 0 10 - 1))) := by
  refine x_met uX3_hasItem (by decide) (Nat.le_of_ble_eq_true rfl) ?_
  intro Γ G Rt _
  have G : xG Γ RX3 cX3_hasItem 2 1 22 0 0 := G
  have Rt : xRt Γ (xPp n T M (b2i (0 ≤ i ∧ i ≤ V 0 10 - 1))) (some .boolean) 0 0 := Rt
  show xX Γ 0 0 n T 0 [(0, xR a), (1, xI i)] [] M
  have hc := ok_c hv
  refine x_iload_n G 1 rfl rfl dX3_hasItem_0 ?_
  refine x_iconst G (by decide) dX3_hasItem_1 ?_
  refine x_aload_n G 0 rfl rfl dX3_hasItem_2 ?_
  refine x_get G (xI (M a 10)) xf3_10 lk_X3_50 (st_n hS 0 (by decide)) (st_k hS 0 (by decide)) (Or.inl ⟨rfl, rfl⟩) dX3_hasItem_3 ?_
  rw [show M a 10 = (V 0 10) from (congrFun (hV 0 (by decide) (by decide) (by decide)) 10)]
  refine x_iconst G (by decide) dX3_hasItem_6 ?_
  refine x_isub G (by omega) dX3_hasItem_7 ?_
  refine x_callSp G [] [xI i, xI 0, xI ((V 0 10) - 1)] hy_X6_isWithin ht_X6_isWithin ml_X3_60 rfl rfl (kX6_isWithin _ _ i 0 ((V 0 10) - 1)) (by decide) (by decide) (Nat.le_of_ble_eq_true rfl) dX3_hasItem_8 ?_
  exact x_zret G b2i_01 Rt dX3_hasItem_11 ⟨rfl, rfl, congrArg (fun z => some (xI z)) (rfl), rfl⟩
set_option maxRecDepth 100000 in
set_option maxHeartbeats 4000000 in
theorem kX3_hasUndropped (D : xD) (l : Launch) {n : Nat} {T : xT} {M : xM} (a : Nat) (V : xM) (i : Int) (hS : StL n T a) (hV : shw M a V) (hv : VOK V) : xC D l uX3_hasUndropped 2 43 0 0 [xR a, xI i] n T M (xPp n T M (b2i (0 ≤ i ∧ i < V 0 10 ∧ V 9 i.toNat = 0))) := by
  refine x_met uX3_hasUndropped (by decide) (Nat.le_of_ble_eq_true rfl) ?_
  intro Γ G Rt _
  have G : xG Γ RX3 cX3_hasUndropped 2 2 43 0 0 := G
  have Rt : xRt Γ (xPp n T M (b2i (0 ≤ i ∧ i < V 0 10 ∧ V 9 i.toNat = 0))) (some .boolean) 0 0 := Rt
  show xX Γ 0 0 n T 0 [(0, xR a), (1, xI i)] [] M
  have hc := ok_c hv
  refine x_aload_n G 0 rfl rfl dX3_hasUndropped_0 ?_
  refine x_iload_n G 1 rfl rfl dX3_hasUndropped_1 ?_
  refine x_callVp G [] [xI i] rfl (by decide) (st_n hS 0 (by decide)) (st_k hS 0 (by decide)) hy_X3_hasItem hi_X3_hasItem hs_X3_hasItem ml_X3_64 rfl rfl (kX3_hasItem _ _ a V i hS hV hv) (by decide) (by decide) (Nat.le_of_ble_eq_true rfl) dX3_hasUndropped_2 ?_
  refine x_if_eq G 21 (by decide) dX3_hasUndropped_5 (fun c5 => ?_) (fun c5 => ?_)
  · skip
    have c5 := b2i_eq0.mp c5
    refine x_iconst G (by decide) dX3_hasUndropped_21 ?_
    exact x_zret G (by omega) Rt dX3_hasUndropped_22 ⟨rfl, rfl, congrArg (fun z => some (xI z)) (by first | exact (b2i_t (by omega)).symm | exact (b2i_f (by omega)).symm), rfl⟩
  · skip
    have c5 := b2i_ne0.mp c5
    have hit := ok_i hv (i := i) (by omega) (by omega)
    refine x_aload_n G 0 rfl rfl dX3_hasUndropped_8 ?_
    refine x_get G (xR (a + 9)) xf3_6 lk_X3_34 (st_n hS 0 (by decide)) (st_k hS 0 (by decide)) (Or.inr ⟨rfl, _, (st_r hS 0 6 (by decide) (by decide)), rfl⟩) dX3_hasUndropped_9 ?_
    refine x_iload_n G 1 rfl rfl dX3_hasUndropped_12 ?_
    refine x_zald G (st_n hS 9 (by decide)) (st_k hS 9 (by decide)) (show _ = 100 from st_l hS 9 (by decide)) (by omega) (by omega) dX3_hasUndropped_13 ?_
    rw [show M (a + 9) i.toNat = (V 9 i.toNat) from (congrFun (hV 9 (by decide) (by decide) (by decide)) i.toNat)]
    refine x_if_ne G 21 (by decide) dX3_hasUndropped_14 (fun c14 => ?_) (fun c14 => ?_)
    · skip
      refine x_iconst G (by decide) dX3_hasUndropped_21 ?_
      exact x_zret G (by omega) Rt dX3_hasUndropped_22 ⟨rfl, rfl, congrArg (fun z => some (xI z)) (by first | exact (b2i_t (by omega)).symm | exact (b2i_f (by omega)).symm), rfl⟩
    · skip
      refine x_iconst G (by decide) dX3_hasUndropped_17 ?_
      refine x_goto G 22 (by decide) dX3_hasUndropped_18 ?_
      exact x_zret G (by omega) Rt dX3_hasUndropped_22 ⟨rfl, rfl, congrArg (fun z => some (xI z)) (by first | exact (b2i_t (by omega)).symm | exact (b2i_f (by omega)).symm), rfl⟩
set_option maxRecDepth 100000 in
set_option maxHeartbeats 4000000 in
theorem kX3_isAliveAt (D : xD) (l : Launch) {n : Nat} {T : xT} {M : xM} (a : Nat) (V : xM) (i t : Int) (hS : StL n T a) (hV : shw M a V) (hv : VOK V) (hi : 0 ≤ i ∧ i < V 0 10) (ht : 0 ≤ t ∧ t < 1000000) : xC D l uX3_isAliveAt 0 0 0 0 [xR a, xI i, xI t] n T M (xPp n T M (b2i (alv V i.toNat t))) := by
  refine x_met uX3_isAliveAt (by decide) (Nat.le_of_ble_eq_true rfl) ?_
  intro Γ G Rt _
  have G : xG Γ RX3 cX3_isAliveAt 4 0 0 0 0 := G
  have Rt : xRt Γ (xPp n T M (b2i (alv V i.toNat t))) (some .boolean) 0 0 := Rt
  show xX Γ 0 0 n T 0 [(0, xR a), (1, xI i), (2, xI t)] [] M
  have hc := ok_c hv
  have hit := ok_i hv hi.1 hi.2
  have hsw := ok_s hv hit.1.1 hit.1.2
  refine x_aload_n G 0 rfl rfl dX3_isAliveAt_0 ?_
  refine x_get G (xR (a + 12)) xf3_9 lk_X3_44 (st_n hS 0 (by decide)) (st_k hS 0 (by decide)) (Or.inr ⟨rfl, _, (st_r hS 0 9 (by decide) (by decide)), rfl⟩) dX3_isAliveAt_1 ?_
  refine x_aload_n G 0 rfl rfl dX3_isAliveAt_4 ?_
  refine x_get G (xR (a + 4)) xf3_1 lk_X3_18 (st_n hS 0 (by decide)) (st_k hS 0 (by decide)) (Or.inr ⟨rfl, _, (st_r hS 0 1 (by decide) (by decide)), rfl⟩) dX3_isAliveAt_5 ?_
  refine x_iload_n G 1 rfl rfl dX3_isAliveAt_8 ?_
  refine x_iald G (st_n hS 4 (by decide)) (st_k hS 4 (by decide)) (show _ = 100 from st_l hS 4 (by decide)) (by omega) (by omega) dX3_isAliveAt_9 ?_
  rw [show M (a + 4) i.toNat = (V 4 i.toNat) from (congrFun (hV 4 (by decide) (by decide) (by decide)) i.toNat)]
  refine x_iald G (st_n hS 12 (by decide)) (st_k hS 12 (by decide)) (show _ = 4 from st_l hS 12 (by decide)) (by omega) (by omega) dX3_isAliveAt_10 ?_
  rw [show M (a + 12) (V 4 i.toNat).toNat = (V 12 (V 4 i.toNat).toNat) from (congrFun (hV 12 (by decide) (by decide) (by decide)) (V 4 i.toNat).toNat)]
  refine x_istore_n G [(3, xI (V 12 (V 4 i.toNat).toNat)), (0, xR a), (1, xI i), (2, xI t)] rfl (by decide) rfl dX3_isAliveAt_11 ?_
  refine x_aload_n G 1 rfl rfl dX3_isAliveAt_12 ?_
  refine x_get G (xR (a + 9)) xf3_6 lk_X3_34 (st_n hS 0 (by decide)) (st_k hS 0 (by decide)) (Or.inr ⟨rfl, _, (st_r hS 0 6 (by decide) (by decide)), rfl⟩) dX3_isAliveAt_13 ?_
  refine x_iload_n G 2 rfl rfl dX3_isAliveAt_16 ?_
  refine x_zald G (st_n hS 9 (by decide)) (st_k hS 9 (by decide)) (show _ = 100 from st_l hS 9 (by decide)) (by omega) (by omega) dX3_isAliveAt_17 ?_
  rw [show M (a + 9) i.toNat = (V 9 i.toNat) from (congrFun (hV 9 (by decide) (by decide) (by decide)) i.toNat)]
  refine x_if_ne G 41 (by decide) dX3_isAliveAt_18 (fun c18 => ?_) (fun c18 => ?_)
  · skip
    refine x_iconst G (by decide) dX3_isAliveAt_41 ?_
    exact x_zret G (by omega) Rt dX3_isAliveAt_42 ⟨rfl, rfl, congrArg (fun z => some (xI z)) (by first | exact (b2i_t (by omega)).symm | exact (b2i_f (by omega)).symm), rfl⟩
  · skip
    refine x_iload_n G 0 rfl rfl dX3_isAliveAt_21 ?_
    refine x_if_eq G 37 (by decide) dX3_isAliveAt_22 (fun c22 => ?_) (fun c22 => ?_)
    · skip
      refine x_iconst G (by decide) dX3_isAliveAt_37 ?_
      refine x_goto G 42 (by decide) dX3_isAliveAt_38 ?_
      exact x_zret G (by omega) Rt dX3_isAliveAt_42 ⟨rfl, rfl, congrArg (fun z => some (xI z)) (by first | exact (b2i_t (by omega)).symm | exact (b2i_f (by omega)).symm), rfl⟩
    · skip
      refine x_aload_n G 1 rfl rfl dX3_isAliveAt_25 ?_
      refine x_get G (xR (a + 8)) xf3_5 lk_X3_31 (st_n hS 0 (by decide)) (st_k hS 0 (by decide)) (Or.inr ⟨rfl, _, (st_r hS 0 5 (by decide) (by decide)), rfl⟩) dX3_isAliveAt_26 ?_
      refine x_iload_n G 2 rfl rfl dX3_isAliveAt_29 ?_
      refine x_iald G (st_n hS 8 (by decide)) (st_k hS 8 (by decide)) (show _ = 100 from st_l hS 8 (by decide)) (by omega) (by omega) dX3_isAliveAt_30 ?_
      rw [show M (a + 8) i.toNat = (V 8 i.toNat) from (congrFun (hV 8 (by decide) (by decide) (by decide)) i.toNat)]
      refine x_iload_n G 3 rfl rfl dX3_isAliveAt_31 ?_
      refine x_iload_n G 0 rfl rfl dX3_isAliveAt_32 ?_
      refine x_isub G (by omega) dX3_isAliveAt_33 ?_
      refine x_icmp_le G 41 (by decide) dX3_isAliveAt_34 (fun c34 => ?_) (fun c34 => ?_)
      · skip
        refine x_iconst G (by decide) dX3_isAliveAt_41 ?_
        exact x_zret G (by omega) Rt dX3_isAliveAt_42 ⟨rfl, rfl, congrArg (fun z => some (xI z)) (by first | exact (b2i_t (by omega)).symm | exact (b2i_f (by omega)).symm), rfl⟩
      · skip
        refine x_iconst G (by decide) dX3_isAliveAt_37 ?_
        refine x_goto G 42 (by decide) dX3_isAliveAt_38 ?_
        exact x_zret G (by omega) Rt dX3_isAliveAt_42 ⟨rfl, rfl, congrArg (fun z => some (xI z)) (by first | exact (b2i_t (by omega)).symm | exact (b2i_f (by omega)).symm), rfl⟩
set_option maxRecDepth 100000 in
set_option maxHeartbeats 4000000 in
theorem kX3_isAlive (D : xD) (l : Launch) {n : Nat} {T : xT} {M : xM} (a : Nat) (V : xM) (i : Int) (hS : StL n T a) (hV : shw M a V) (hv : VOK V) (hi : 0 ≤ i ∧ i < V 0 10) : xC D l uX3_isAlive 1 23 0 0 [xR a, xI i] n T M (xPp n T M (b2i (alv V i.toNat (V 0 11)))) := by
  refine x_met uX3_isAlive (by decide) (Nat.le_of_ble_eq_true rfl) ?_
  intro Γ G Rt _
  have G : xG Γ RX3 cX3_isAlive 2 1 23 0 0 := G
  have Rt : xRt Γ (xPp n T M (b2i (alv V i.toNat (V 0 11)))) (some .boolean) 0 0 := Rt
  show xX Γ 0 0 n T 0 [(0, xR a), (1, xI i)] [] M
  have hc := ok_c hv
  have hit := ok_i hv hi.1 hi.2
  have hsc := hv.1
  refine x_aload_n G 0 rfl rfl dX3_isAlive_0 ?_
  refine x_iload_n G 1 rfl rfl dX3_isAlive_1 ?_
  refine x_aload_n G 0 rfl rfl dX3_isAlive_2 ?_
  refine x_get G (xI (M a 11)) xf3_11 lk_X3_54 (st_n hS 0 (by decide)) (st_k hS 0 (by decide)) (Or.inl ⟨rfl, rfl⟩) dX3_isAlive_3 ?_
  rw [show M a 11 = (V 0 11) from (congrFun (hV 0 (by decide) (by decide) (by decide)) 11)]
  refine x_callVp G [] [xI i, xI (V 0 11)] rfl (by decide) (st_n hS 0 (by decide)) (st_k hS 0 (by decide)) hy_X3_isAliveAt hi_X3_isAliveAt hs_X3_isAliveAt ml_X3_101 rfl rfl (kX3_isAliveAt _ _ a V i (V 0 11) hS hV hv (by omega) (by omega)) (by decide) (by decide) (Nat.le_of_ble_eq_true rfl) dX3_isAlive_6 ?_
  exact x_zret G b2i_01 Rt dX3_isAlive_9 ⟨rfl, rfl, congrArg (fun z => some (xI z)) (rfl), rfl⟩
set_option maxRecDepth 100000 in
set_option maxHeartbeats 4000000 in
theorem kX3_isUndroppedOf (D : xD) (l : Launch) {n : Nat} {T : xT} {M : xM} (a : Nat) (V : xM) (i sh lab : Int) (hS : StL n T a) (hV : shw M a V) (hv : VOK V) (hi : 0 ≤ i ∧ i < V 0 10) : xC D l uX3_isUndroppedOf 0 0 0 0 [xR a, xI i, xI sh, xI lab] n T M (xPp n T M (b2i (und V i.toNat sh lab))) := by
  refine x_met uX3_isUndroppedOf (by decide) (Nat.le_of_ble_eq_true rfl) ?_
  intro Γ G Rt _
  have G : xG Γ RX3 cX3_isUndroppedOf 4 0 0 0 0 := G
  have Rt : xRt Γ (xPp n T M (b2i (und V i.toNat sh lab))) (some .boolean) 0 0 := Rt
  show xX Γ 0 0 n T 0 [(0, xR a), (1, xI i), (2, xI sh), (3, xI lab)] [] M
  have hc := ok_c hv
  have hit := ok_i hv hi.1 hi.2
  refine x_aload_n G 0 rfl rfl dX3_isUndroppedOf_0 ?_
  refine x_get G (xR (a + 9)) xf3_6 lk_X3_34 (st_n hS 0 (by decide)) (st_k hS 0 (by decide)) (Or.inr ⟨rfl, _, (st_r hS 0 6 (by decide) (by decide)), rfl⟩) dX3_isUndroppedOf_1 ?_
  refine x_iload_n G 1 rfl rfl dX3_isUndroppedOf_4 ?_
  refine x_zald G (st_n hS 9 (by decide)) (st_k hS 9 (by decide)) (show _ = 100 from st_l hS 9 (by decide)) (by omega) (by omega) dX3_isUndroppedOf_5 ?_
  rw [show M (a + 9) i.toNat = (V 9 i.toNat) from (congrFun (hV 9 (by decide) (by decide) (by decide)) i.toNat)]
  refine x_if_ne G 43 (by decide) dX3_isUndroppedOf_6 (fun c6 => ?_) (fun c6 => ?_)
  · skip
    refine x_iconst G (by decide) dX3_isUndroppedOf_43 ?_
    exact x_zret G (by omega) Rt dX3_isUndroppedOf_44 ⟨rfl, rfl, congrArg (fun z => some (xI z)) (by first | exact (b2i_t (by omega)).symm | exact (b2i_f (by omega)).symm), rfl⟩
  · skip
    refine x_iload_n G 2 rfl rfl dX3_isUndroppedOf_9 ?_
    refine x_iconst G (by decide) dX3_isUndroppedOf_10 ?_
    refine x_icmp_eq G 24 (by decide) dX3_isUndroppedOf_11 (fun c11 => ?_) (fun c11 => ?_)
    · skip
      refine x_iload_n G 3 rfl rfl dX3_isUndroppedOf_24 ?_
      refine x_iconst G (by decide) dX3_isUndroppedOf_25 ?_
      refine x_icmp_eq G 39 (by decide) dX3_isUndroppedOf_26 (fun c26 => ?_) (fun c26 => ?_)
      · skip
        refine x_iconst G (by decide) dX3_isUndroppedOf_39 ?_
        refine x_goto G 44 (by decide) dX3_isUndroppedOf_40 ?_
        exact x_zret G (by omega) Rt dX3_isUndroppedOf_44 ⟨rfl, rfl, congrArg (fun z => some (xI z)) (by first | exact (b2i_t (by omega)).symm | exact (b2i_f (by omega)).symm), rfl⟩
      · skip
        refine x_aload_n G 0 rfl rfl dX3_isUndroppedOf_29 ?_
        refine x_get G (xR (a + 5)) xf3_2 lk_X3_22 (st_n hS 0 (by decide)) (st_k hS 0 (by decide)) (Or.inr ⟨rfl, _, (st_r hS 0 2 (by decide) (by decide)), rfl⟩) dX3_isUndroppedOf_30 ?_
        refine x_iload_n G 1 rfl rfl dX3_isUndroppedOf_33 ?_
        refine x_iald G (st_n hS 5 (by decide)) (st_k hS 5 (by decide)) (show _ = 100 from st_l hS 5 (by decide)) (by omega) (by omega) dX3_isUndroppedOf_34 ?_
        rw [show M (a + 5) i.toNat = (V 5 i.toNat) from (congrFun (hV 5 (by decide) (by decide) (by decide)) i.toNat)]
        refine x_iload_n G 3 rfl rfl dX3_isUndroppedOf_35 ?_
        refine x_icmp_ne G 43 (by decide) dX3_isUndroppedOf_36 (fun c36 => ?_) (fun c36 => ?_)
        · skip
          refine x_iconst G (by decide) dX3_isUndroppedOf_43 ?_
          exact x_zret G (by omega) Rt dX3_isUndroppedOf_44 ⟨rfl, rfl, congrArg (fun z => some (xI z)) (by first | exact (b2i_t (by omega)).symm | exact (b2i_f (by omega)).symm), rfl⟩
        · skip
          refine x_iconst G (by decide) dX3_isUndroppedOf_39 ?_
          refine x_goto G 44 (by decide) dX3_isUndroppedOf_40 ?_
          exact x_zret G (by omega) Rt dX3_isUndroppedOf_44 ⟨rfl, rfl, congrArg (fun z => some (xI z)) (by first | exact (b2i_t (by omega)).symm | exact (b2i_f (by omega)).symm), rfl⟩
    · skip
      refine x_aload_n G 0 rfl rfl dX3_isUndroppedOf_14 ?_
      refine x_get G (xR (a + 4)) xf3_1 lk_X3_18 (st_n hS 0 (by decide)) (st_k hS 0 (by decide)) (Or.inr ⟨rfl, _, (st_r hS 0 1 (by decide) (by decide)), rfl⟩) dX3_isUndroppedOf_15 ?_
      refine x_iload_n G 1 rfl rfl dX3_isUndroppedOf_18 ?_
      refine x_iald G (st_n hS 4 (by decide)) (st_k hS 4 (by decide)) (show _ = 100 from st_l hS 4 (by decide)) (by omega) (by omega) dX3_isUndroppedOf_19 ?_
      rw [show M (a + 4) i.toNat = (V 4 i.toNat) from (congrFun (hV 4 (by decide) (by decide) (by decide)) i.toNat)]
      refine x_iload_n G 2 rfl rfl dX3_isUndroppedOf_20 ?_
      refine x_icmp_ne G 43 (by decide) dX3_isUndroppedOf_21 (fun c21 => ?_) (fun c21 => ?_)
      · skip
        refine x_iconst G (by decide) dX3_isUndroppedOf_43 ?_
        exact x_zret G (by omega) Rt dX3_isUndroppedOf_44 ⟨rfl, rfl, congrArg (fun z => some (xI z)) (by first | exact (b2i_t (by omega)).symm | exact (b2i_f (by omega)).symm), rfl⟩
      · skip
        refine x_iload_n G 3 rfl rfl dX3_isUndroppedOf_24 ?_
        refine x_iconst G (by decide) dX3_isUndroppedOf_25 ?_
        refine x_icmp_eq G 39 (by decide) dX3_isUndroppedOf_26 (fun c26 => ?_) (fun c26 => ?_)
        · skip
          refine x_iconst G (by decide) dX3_isUndroppedOf_39 ?_
          refine x_goto G 44 (by decide) dX3_isUndroppedOf_40 ?_
          exact x_zret G (by omega) Rt dX3_isUndroppedOf_44 ⟨rfl, rfl, congrArg (fun z => some (xI z)) (by first | exact (b2i_t (by omega)).symm | exact (b2i_f (by omega)).symm), rfl⟩
        · skip
          refine x_aload_n G 0 rfl rfl dX3_isUndroppedOf_29 ?_
          refine x_get G (xR (a + 5)) xf3_2 lk_X3_22 (st_n hS 0 (by decide)) (st_k hS 0 (by decide)) (Or.inr ⟨rfl, _, (st_r hS 0 2 (by decide) (by decide)), rfl⟩) dX3_isUndroppedOf_30 ?_
          refine x_iload_n G 1 rfl rfl dX3_isUndroppedOf_33 ?_
          refine x_iald G (st_n hS 5 (by decide)) (st_k hS 5 (by decide)) (show _ = 100 from st_l hS 5 (by decide)) (by omega) (by omega) dX3_isUndroppedOf_34 ?_
          rw [show M (a + 5) i.toNat = (V 5 i.toNat) from (congrFun (hV 5 (by decide) (by decide) (by decide)) i.toNat)]
          refine x_iload_n G 3 rfl rfl dX3_isUndroppedOf_35 ?_
          refine x_icmp_ne G 43 (by decide) dX3_isUndroppedOf_36 (fun c36 => ?_) (fun c36 => ?_)
          · skip
            refine x_iconst G (by decide) dX3_isUndroppedOf_43 ?_
            exact x_zret G (by omega) Rt dX3_isUndroppedOf_44 ⟨rfl, rfl, congrArg (fun z => some (xI z)) (by first | exact (b2i_t (by omega)).symm | exact (b2i_f (by omega)).symm), rfl⟩
          · skip
            refine x_iconst G (by decide) dX3_isUndroppedOf_39 ?_
            refine x_goto G 44 (by decide) dX3_isUndroppedOf_40 ?_
            exact x_zret G (by omega) Rt dX3_isUndroppedOf_44 ⟨rfl, rfl, congrArg (fun z => some (xI z)) (by first | exact (b2i_t (by omega)).symm | exact (b2i_f (by omega)).symm), rfl⟩
set_option maxRecDepth 100000 in
set_option maxHeartbeats 4000000 in
theorem kX3_isAliveOf (D : xD) (l : Launch) {n : Nat} {T : xT} {M : xM} (a : Nat) (V : xM) (i sh lab : Int) (hS : StL n T a) (hV : shw M a V) (hv : VOK V) (hi : 0 ≤ i ∧ i < V 0 10) : xC D l uX3_isAliveOf 2 44 0 0 [xR a, xI i, xI sh, xI lab] n T M (xPp n T M (b2i (und V i.toNat sh lab ∧ alv V i.toNat (V 0 11)))) := by
  refine x_met uX3_isAliveOf (by decide) (Nat.le_of_ble_eq_true rfl) ?_
  intro Γ G Rt _
  have G : xG Γ RX3 cX3_isAliveOf 4 2 44 0 0 := G
  have Rt : xRt Γ (xPp n T M (b2i (und V i.toNat sh lab ∧ alv V i.toNat (V 0 11)))) (some .boolean) 0 0 := Rt
  show xX Γ 0 0 n T 0 [(0, xR a), (1, xI i), (2, xI sh), (3, xI lab)] [] M
  have hc := ok_c hv
  have hit := ok_i hv hi.1 hi.2
  refine x_aload_n G 0 rfl rfl dX3_isAliveOf_0 ?_
  refine x_iload_n G 1 rfl rfl dX3_isAliveOf_1 ?_
  refine x_iload_n G 2 rfl rfl dX3_isAliveOf_2 ?_
  refine x_iload_n G 3 rfl rfl dX3_isAliveOf_3 ?_
  refine x_callVp G [] [xI i, xI sh, xI lab] rfl (by decide) (st_n hS 0 (by decide)) (st_k hS 0 (by decide)) hy_X3_isUndroppedOf hi_X3_isUndroppedOf hs_X3_isUndroppedOf ml_X3_104 rfl rfl (kX3_isUndroppedOf _ _ a V i sh lab hS hV hv (by omega)) (by decide) (by decide) (Nat.le_of_ble_eq_true rfl) dX3_isAliveOf_4 ?_
  refine x_if_eq G 22 (by decide) dX3_isAliveOf_7 (fun c7 => ?_) (fun c7 => ?_)
  · skip
    have c7 := b2i_eq0.mp c7
    refine x_iconst G (by decide) dX3_isAliveOf_22 ?_
    exact x_zret G (by omega) Rt dX3_isAliveOf_23 ⟨rfl, rfl, congrArg (fun z => some (xI z)) (by first | exact (b2i_t ⟨c7, c15⟩).symm | exact (b2i_f (fun h => c7 h.1)).symm | exact (b2i_f (fun h => c15 h.2)).symm), rfl⟩
  · skip
    have c7 := b2i_ne0.mp c7
    refine x_aload_n G 0 rfl rfl dX3_isAliveOf_10 ?_
    refine x_iload_n G 1 rfl rfl dX3_isAliveOf_11 ?_
    refine x_callVp G [] [xI i] rfl (by decide) (st_n hS 0 (by decide)) (st_k hS 0 (by decide)) hy_X3_isAlive hi_X3_isAlive hs_X3_isAlive ml_X3_107 rfl rfl (kX3_isAlive _ _ a V i hS hV hv (by omega)) (by decide) (by decide) (Nat.le_of_ble_eq_true rfl) dX3_isAliveOf_12 ?_
    refine x_if_eq G 22 (by decide) dX3_isAliveOf_15 (fun c15 => ?_) (fun c15 => ?_)
    · skip
      have c15 := b2i_eq0.mp c15
      refine x_iconst G (by decide) dX3_isAliveOf_22 ?_
      exact x_zret G (by omega) Rt dX3_isAliveOf_23 ⟨rfl, rfl, congrArg (fun z => some (xI z)) (by first | exact (b2i_t ⟨c7, c15⟩).symm | exact (b2i_f (fun h => c7 h.1)).symm | exact (b2i_f (fun h => c15 h.2)).symm), rfl⟩
    · skip
      have c15 := b2i_ne0.mp c15
      refine x_iconst G (by decide) dX3_isAliveOf_18 ?_
      refine x_goto G 23 (by decide) dX3_isAliveOf_19 ?_
      exact x_zret G (by omega) Rt dX3_isAliveOf_23 ⟨rfl, rfl, congrArg (fun z => some (xI z)) (by first | exact (b2i_t ⟨c7, c15⟩).symm | exact (b2i_f (fun h => c7 h.1)).symm | exact (b2i_f (fun h => c15 h.2)).symm), rfl⟩
set_option maxRecDepth 100000 in
set_option maxHeartbeats 4000000 in
theorem kX3_countUndropped (D : xD) (l : Launch) {n : Nat} {T : xT} {M : xM} (a : Nat) (V : xM) (sh lab : Int) (hS : StL n T a) (hV : shw M a V) (hv : VOK V) : xC D l uX3_countUndropped 1 23 0 0 [xR a, xI sh, xI lab] n T M (xPp n T M (fb_si (fun j => b2i (und V j sh lab)) (V 0 10).toNat)) := by
  refine x_met uX3_countUndropped (by decide) (Nat.le_of_ble_eq_true rfl) ?_
  intro Γ G Rt _
  have G : xG Γ RX3 cX3_countUndropped 5 1 23 0 0 := G
  have Rt : xRt Γ (xPp n T M (fb_si (fun j => b2i (und V j sh lab)) (V 0 10).toNat)) (some .int) 0 0 := Rt
  show xX Γ 0 0 n T 0 [(0, xR a), (1, xI sh), (2, xI lab)] [] M
  have hc := ok_c hv
  refine x_iconst G (by decide) dX3_countUndropped_0 ?_
  refine x_istore_n G [(3, xI 0), (0, xR a), (1, xI sh), (2, xI lab)] rfl (by decide) rfl dX3_countUndropped_1 ?_
  refine x_iconst G (by decide) dX3_countUndropped_2 ?_
  refine x_istore G [(4, xI 0), (3, xI 0), (0, xR a), (1, xI sh), (2, xI lab)] (by decide) rfl dX3_countUndropped_3 ?_
  have loop5 : ∀ (d : Nat) (k : Int) (q : Int), (V 0 10 - k).toNat = d → (0 ≤ k ∧ k ≤ V 0 10) → (q = fb_si (fun j => b2i (und V j sh lab)) k.toNat) → xX Γ 0 0 n T 5 [(0, xR a), (1, xI sh), (2, xI lab), (3, xI q), (4, xI k)] [] M := by
    intro d
    induction d using Nat.strongRecOn with
    | ind d ih5 =>
    intro k q hd5 hk hn
    have hb := si_b (fun j => und V j sh lab) k.toNat
    have hb2 : 0 ≤ q ∧ q ≤ 100 := by omega
    refine x_iload G 4 rfl dX3_countUndropped_5 ?_
    refine x_aload_n G 0 rfl rfl dX3_countUndropped_7 ?_
    refine x_get G (xI (M a 10)) xf3_10 lk_X3_50 (st_n hS 0 (by decide)) (st_k hS 0 (by decide)) (Or.inl ⟨rfl, rfl⟩) dX3_countUndropped_8 ?_
    rw [show M a 10 = (V 0 10) from (congrFun (hV 0 (by decide) (by decide) (by decide)) 10)]
    refine x_icmp_ge G 34 (by decide) dX3_countUndropped_11 (fun c11 => ?_) (fun c11 => ?_)
    · skip
      refine x_iload_n G 3 rfl rfl dX3_countUndropped_34 ?_
      exact x_iret G Rt dX3_countUndropped_35 ⟨rfl, rfl, congrArg (fun z => some (xI z)) (by have e : k = V 0 10 := (by omega); rw [hn, e]), rfl⟩
    · skip
      have hit := ok_i hv hk.1 (by omega)
      refine x_aload_n G 0 rfl rfl dX3_countUndropped_14 ?_
      refine x_iload G 4 rfl dX3_countUndropped_15 ?_
      refine x_iload_n G 1 rfl rfl dX3_countUndropped_17 ?_
      refine x_iload_n G 2 rfl rfl dX3_countUndropped_18 ?_
      refine x_callVp G [] [xI k, xI sh, xI lab] rfl (by decide) (st_n hS 0 (by decide)) (st_k hS 0 (by decide)) hy_X3_isUndroppedOf hi_X3_isUndroppedOf hs_X3_isUndroppedOf ml_X3_104 rfl rfl (kX3_isUndroppedOf _ _ a V k sh lab hS hV hv (by omega)) (by decide) (by decide) (Nat.le_of_ble_eq_true rfl) dX3_countUndropped_19 ?_
      refine x_if_eq G 28 (by decide) dX3_countUndropped_22 (fun c22 => ?_) (fun c22 => ?_)
      · skip
        have c22 := b2i_eq0.mp c22
        refine x_iinc G [(4, xI (k + 1)), (0, xR a), (1, xI sh), (2, xI lab), (3, xI q)] 4 rfl (by decide) (by omega) rfl dX3_countUndropped_28 ?_
        refine x_goto G 5 (by decide) dX3_countUndropped_31 ?_
        refine x_sub [(0, xR a), (1, xI sh), (2, xI lab), (3, xI q), (4, xI (k + 1))] [1, 2, 3, 4, 0] rfl ?_
        exact ih5 _ (by omega) (k + 1) q rfl (by omega) (by first | exact si_y hk.1 hn (c22) | exact si_n hk.1 hn (c22))
      · skip
        have c22 := b2i_ne0.mp c22
        refine x_iinc G [(3, xI (q + 1)), (0, xR a), (1, xI sh), (2, xI lab), (4, xI k)] 3 rfl (by decide) (by omega) rfl dX3_countUndropped_25 ?_
        refine x_iinc G [(4, xI (k + 1)), (3, xI (q + 1)), (0, xR a), (1, xI sh), (2, xI lab)] 4 rfl (by decide) (by omega) rfl dX3_countUndropped_28 ?_
        refine x_goto G 5 (by decide) dX3_countUndropped_31 ?_
        refine x_sub [(0, xR a), (1, xI sh), (2, xI lab), (3, xI (q + 1)), (4, xI (k + 1))] [2, 3, 4, 1, 0] rfl ?_
        exact ih5 _ (by omega) (k + 1) (q + 1) rfl (by omega) (by first | exact si_y hk.1 hn (c22) | exact si_n hk.1 hn (c22))
  refine x_sub [(0, xR a), (1, xI sh), (2, xI lab), (3, xI 0), (4, xI 0)] [2, 3, 4, 1, 0] rfl ?_
  exact loop5 _ 0 0 rfl (by omega) (rfl)
set_option maxRecDepth 100000 in
set_option maxHeartbeats 4000000 in
theorem kX3_countAlive (D : xD) (l : Launch) {n : Nat} {T : xT} {M : xM} (a : Nat) (V : xM) (sh lab : Int) (hS : StL n T a) (hV : shw M a V) (hv : VOK V) : xC D l uX3_countAlive 3 67 0 0 [xR a, xI sh, xI lab] n T M (xPp n T M (fb_si (fun j => b2i (und V j sh lab ∧ alv V j (V 0 11))) (V 0 10).toNat)) := by
  refine x_met uX3_countAlive (by decide) (Nat.le_of_ble_eq_true rfl) ?_
  intro Γ G Rt _
  have G : xG Γ RX3 cX3_countAlive 5 3 67 0 0 := G
  have Rt : xRt Γ (xPp n T M (fb_si (fun j => b2i (und V j sh lab ∧ alv V j (V 0 11))) (V 0 10).toNat)) (some .int) 0 0 := Rt
  show xX Γ 0 0 n T 0 [(0, xR a), (1, xI sh), (2, xI lab)] [] M
  have hc := ok_c hv
  refine x_iconst G (by decide) dX3_countAlive_0 ?_
  refine x_istore_n G [(3, xI 0), (0, xR a), (1, xI sh), (2, xI lab)] rfl (by decide) rfl dX3_countAlive_1 ?_
  refine x_iconst G (by decide) dX3_countAlive_2 ?_
  refine x_istore G [(4, xI 0), (3, xI 0), (0, xR a), (1, xI sh), (2, xI lab)] (by decide) rfl dX3_countAlive_3 ?_
  have loop5 : ∀ (d : Nat) (k : Int) (q : Int), (V 0 10 - k).toNat = d → (0 ≤ k ∧ k ≤ V 0 10) → (q = fb_si (fun j => b2i (und V j sh lab ∧ alv V j (V 0 11))) k.toNat) → xX Γ 0 0 n T 5 [(0, xR a), (1, xI sh), (2, xI lab), (3, xI q), (4, xI k)] [] M := by
    intro d
    induction d using Nat.strongRecOn with
    | ind d ih5 =>
    intro k q hd5 hk hn
    have hb := si_b (fun j => und V j sh lab ∧ alv V j (V 0 11)) k.toNat
    have hb2 : 0 ≤ q ∧ q ≤ 100 := by omega
    refine x_iload G 4 rfl dX3_countAlive_5 ?_
    refine x_aload_n G 0 rfl rfl dX3_countAlive_7 ?_
    refine x_get G (xI (M a 10)) xf3_10 lk_X3_50 (st_n hS 0 (by decide)) (st_k hS 0 (by decide)) (Or.inl ⟨rfl, rfl⟩) dX3_countAlive_8 ?_
    rw [show M a 10 = (V 0 10) from (congrFun (hV 0 (by decide) (by decide) (by decide)) 10)]
    refine x_icmp_ge G 34 (by decide) dX3_countAlive_11 (fun c11 => ?_) (fun c11 => ?_)
    · skip
      refine x_iload_n G 3 rfl rfl dX3_countAlive_34 ?_
      exact x_iret G Rt dX3_countAlive_35 ⟨rfl, rfl, congrArg (fun z => some (xI z)) (by have e : k = V 0 10 := (by omega); rw [hn, e]), rfl⟩
    · skip
      have hit := ok_i hv hk.1 (by omega)
      refine x_aload_n G 0 rfl rfl dX3_countAlive_14 ?_
      refine x_iload G 4 rfl dX3_countAlive_15 ?_
      refine x_iload_n G 1 rfl rfl dX3_countAlive_17 ?_
      refine x_iload_n G 2 rfl rfl dX3_countAlive_18 ?_
      refine x_callVp G [] [xI k, xI sh, xI lab] rfl (by decide) (st_n hS 0 (by decide)) (st_k hS 0 (by decide)) hy_X3_isAliveOf hi_X3_isAliveOf hs_X3_isAliveOf ml_X3_110 rfl rfl (kX3_isAliveOf _ _ a V k sh lab hS hV hv (by omega)) (by decide) (by decide) (Nat.le_of_ble_eq_true rfl) dX3_countAlive_19 ?_
      refine x_if_eq G 28 (by decide) dX3_countAlive_22 (fun c22 => ?_) (fun c22 => ?_)
      · skip
        have c22 := b2i_eq0.mp c22
        refine x_iinc G [(4, xI (k + 1)), (0, xR a), (1, xI sh), (2, xI lab), (3, xI q)] 4 rfl (by decide) (by omega) rfl dX3_countAlive_28 ?_
        refine x_goto G 5 (by decide) dX3_countAlive_31 ?_
        refine x_sub [(0, xR a), (1, xI sh), (2, xI lab), (3, xI q), (4, xI (k + 1))] [1, 2, 3, 4, 0] rfl ?_
        exact ih5 _ (by omega) (k + 1) q rfl (by omega) (by first | exact si_y hk.1 hn (c22) | exact si_n hk.1 hn (c22))
      · skip
        have c22 := b2i_ne0.mp c22
        refine x_iinc G [(3, xI (q + 1)), (0, xR a), (1, xI sh), (2, xI lab), (4, xI k)] 3 rfl (by decide) (by omega) rfl dX3_countAlive_25 ?_
        refine x_iinc G [(4, xI (k + 1)), (3, xI (q + 1)), (0, xR a), (1, xI sh), (2, xI lab)] 4 rfl (by decide) (by omega) rfl dX3_countAlive_28 ?_
        refine x_goto G 5 (by decide) dX3_countAlive_31 ?_
        refine x_sub [(0, xR a), (1, xI sh), (2, xI lab), (3, xI (q + 1)), (4, xI (k + 1))] [2, 3, 4, 1, 0] rfl ?_
        exact ih5 _ (by omega) (k + 1) (q + 1) rfl (by omega) (by first | exact si_y hk.1 hn (c22) | exact si_n hk.1 hn (c22))
  refine x_sub [(0, xR a), (1, xI sh), (2, xI lab), (3, xI 0), (4, xI 0)] [2, 3, 4, 1, 0] rfl ?_
  exact loop5 _ 0 0 rfl (by omega) (rfl)
set_option maxRecDepth 100000 in
set_option maxHeartbeats 4000000 in
theorem kX3_countUndroppedBetween (D : xD) (l : Launch) {n : Nat} {T : xT} {M : xM} (a : Nat) (V : xM) (f g : Int) (hS : StL n T a) (hV : shw M a V) (hv : VOK V) : xC D l uX3_countUndroppedBetween 1 22 0 0 [xR a, xI f, xI g] n T M (xPp n T M (fb_si (fun j => b2i (V 9 j = 0 ∧ f ≤ V 8 j ∧ V 8 j ≤ g)) (V 0 10).toNat)) := by
  refine x_met uX3_countUndroppedBetween (by decide) (Nat.le_of_ble_eq_true rfl) ?_
  intro Γ G Rt _
  have G : xG Γ RX3 cX3_countUndroppedBetween 5 1 22 0 0 := G
  have Rt : xRt Γ (xPp n T M (fb_si (fun j => b2i (V 9 j = 0 ∧ f ≤ V 8 j ∧ V 8 j ≤ g)) (V 0 10).toNat)) (some .int) 0 0 := Rt
  show xX Γ 0 0 n T 0 [(0, xR a), (1, xI f), (2, xI g)] [] M
  have hc := ok_c hv
  refine x_iconst G (by decide) dX3_countUndroppedBetween_0 ?_
  refine x_istore_n G [(3, xI 0), (0, xR a), (1, xI f), (2, xI g)] rfl (by decide) rfl dX3_countUndroppedBetween_1 ?_
  refine x_iconst G (by decide) dX3_countUndroppedBetween_2 ?_
  refine x_istore G [(4, xI 0), (3, xI 0), (0, xR a), (1, xI f), (2, xI g)] (by decide) rfl dX3_countUndroppedBetween_3 ?_
  have loop5 : ∀ (d : Nat) (k : Int) (q : Int), (V 0 10 - k).toNat = d → (0 ≤ k ∧ k ≤ V 0 10) → (q = fb_si (fun j => b2i (V 9 j = 0 ∧ f ≤ V 8 j ∧ V 8 j ≤ g)) k.toNat) → xX Γ 0 0 n T 5 [(0, xR a), (1, xI f), (2, xI g), (3, xI q), (4, xI k)] [] M := by
    intro d
    induction d using Nat.strongRecOn with
    | ind d ih5 =>
    intro k q hd5 hk hn
    have hb := si_b (fun j => V 9 j = 0 ∧ f ≤ V 8 j ∧ V 8 j ≤ g) k.toNat
    have hb2 : 0 ≤ q ∧ q ≤ 100 := by omega
    refine x_iload G 4 rfl dX3_countUndroppedBetween_5 ?_
    refine x_aload_n G 0 rfl rfl dX3_countUndroppedBetween_7 ?_
    refine x_get G (xI (M a 10)) xf3_10 lk_X3_50 (st_n hS 0 (by decide)) (st_k hS 0 (by decide)) (Or.inl ⟨rfl, rfl⟩) dX3_countUndroppedBetween_8 ?_
    rw [show M a 10 = (V 0 10) from (congrFun (hV 0 (by decide) (by decide) (by decide)) 10)]
    refine x_icmp_ge G 48 (by decide) dX3_countUndroppedBetween_11 (fun c11 => ?_) (fun c11 => ?_)
    · skip
      refine x_iload_n G 3 rfl rfl dX3_countUndroppedBetween_48 ?_
      exact x_iret G Rt dX3_countUndroppedBetween_49 ⟨rfl, rfl, congrArg (fun z => some (xI z)) (by have e : k = V 0 10 := (by omega); rw [hn, e]), rfl⟩
    · skip
      have hit := ok_i hv hk.1 (by omega)
      refine x_aload_n G 0 rfl rfl dX3_countUndroppedBetween_14 ?_
      refine x_get G (xR (a + 9)) xf3_6 lk_X3_34 (st_n hS 0 (by decide)) (st_k hS 0 (by decide)) (Or.inr ⟨rfl, _, (st_r hS 0 6 (by decide) (by decide)), rfl⟩) dX3_countUndroppedBetween_15 ?_
      refine x_iload G 4 rfl dX3_countUndroppedBetween_18 ?_
      refine x_zald G (st_n hS 9 (by decide)) (st_k hS 9 (by decide)) (show _ = 100 from st_l hS 9 (by decide)) (by omega) (by omega) dX3_countUndroppedBetween_20 ?_
      rw [show M (a + 9) k.toNat = (V 9 k.toNat) from (congrFun (hV 9 (by decide) (by decide) (by decide)) k.toNat)]
      refine x_if_ne G 42 (by decide) dX3_countUndroppedBetween_21 (fun c21 => ?_) (fun c21 => ?_)
      · skip
        refine x_iinc G [(4, xI (k + 1)), (0, xR a), (1, xI f), (2, xI g), (3, xI q)] 4 rfl (by decide) (by omega) rfl dX3_countUndroppedBetween_42 ?_
        refine x_goto G 5 (by decide) dX3_countUndroppedBetween_45 ?_
        refine x_sub [(0, xR a), (1, xI f), (2, xI g), (3, xI q), (4, xI (k + 1))] [1, 2, 3, 4, 0] rfl ?_
        exact ih5 _ (by omega) (k + 1) q rfl (by omega) (by first | exact si_y hk.1 hn (by omega) | exact si_n hk.1 hn (by omega))
      · skip
        refine x_aload_n G 0 rfl rfl dX3_countUndroppedBetween_24 ?_
        refine x_get G (xR (a + 8)) xf3_5 lk_X3_31 (st_n hS 0 (by decide)) (st_k hS 0 (by decide)) (Or.inr ⟨rfl, _, (st_r hS 0 5 (by decide) (by decide)), rfl⟩) dX3_countUndroppedBetween_25 ?_
        refine x_iload G 4 rfl dX3_countUndroppedBetween_28 ?_
        refine x_iald G (st_n hS 8 (by decide)) (st_k hS 8 (by decide)) (show _ = 100 from st_l hS 8 (by decide)) (by omega) (by omega) dX3_countUndroppedBetween_30 ?_
        rw [show M (a + 8) k.toNat = (V 8 k.toNat) from (congrFun (hV 8 (by decide) (by decide) (by decide)) k.toNat)]
        refine x_iload_n G 1 rfl rfl dX3_countUndroppedBetween_31 ?_
        refine x_iload_n G 2 rfl rfl dX3_countUndroppedBetween_32 ?_
        refine x_callSp G [] [xI (V 8 k.toNat), xI f, xI g] hy_X6_isWithin ht_X6_isWithin ml_X3_60 rfl rfl (kX6_isWithin _ _ (V 8 k.toNat) f g) (by decide) (by decide) (Nat.le_of_ble_eq_true rfl) dX3_countUndroppedBetween_33 ?_
        refine x_if_eq G 42 (by decide) dX3_countUndroppedBetween_36 (fun c36 => ?_) (fun c36 => ?_)
        · skip
          have c36 := b2i_eq0.mp c36
          refine x_iinc G [(4, xI (k + 1)), (0, xR a), (1, xI f), (2, xI g), (3, xI q)] 4 rfl (by decide) (by omega) rfl dX3_countUndroppedBetween_42 ?_
          refine x_goto G 5 (by decide) dX3_countUndroppedBetween_45 ?_
          refine x_sub [(0, xR a), (1, xI f), (2, xI g), (3, xI q), (4, xI (k + 1))] [1, 2, 3, 4, 0] rfl ?_
          exact ih5 _ (by omega) (k + 1) q rfl (by omega) (by first | exact si_y hk.1 hn (by omega) | exact si_n hk.1 hn (by omega))
        · skip
          have c36 := b2i_ne0.mp c36
          refine x_iinc G [(3, xI (q + 1)), (0, xR a), (1, xI f), (2, xI g), (4, xI k)] 3 rfl (by decide) (by omega) rfl dX3_countUndroppedBetween_39 ?_
          refine x_iinc G [(4, xI (k + 1)), (3, xI (q + 1)), (0, xR a), (1, xI f), (2, xI g)] 4 rfl (by decide) (by omega) rfl dX3_countUndroppedBetween_42 ?_
          refine x_goto G 5 (by decide) dX3_countUndroppedBetween_45 ?_
          refine x_sub [(0, xR a), (1, xI f), (2, xI g), (3, xI (q + 1)), (4, xI (k + 1))] [2, 3, 4, 1, 0] rfl ?_
          exact ih5 _ (by omega) (k + 1) (q + 1) rfl (by omega) (by first | exact si_y hk.1 hn (by omega) | exact si_n hk.1 hn (by omega))
  refine x_sub [(0, xR a), (1, xI f), (2, xI g), (3, xI 0), (4, xI 0)] [2, 3, 4, 1, 0] rfl ?_
  exact loop5 _ 0 0 rfl (by omega) (rfl)
theorem si_w {V : xM} (hv : VOK V) {p : Nat → Prop} [DecidablePred p] : ∀ k : Nat, (k : Int) ≤ V 0 10 → 0 ≤ fb_si (fun j => b2i (p j) * V 6 j) k ∧ fb_si (fun j => b2i (p j) * V 6 j) k ≤ 20 * k := by
  intro k
  induction k with
  | zero => intro _; exact ⟨Int.le_refl _, Int.le_refl _⟩
  | succ k ih =>
    intro hk
    have h := ih (by omega)
    have hi := hv.2.2.1 k (by omega)
    rw [fb_si_succ]
    have : b2i (p k) = 0 ∨ b2i (p k) = 1 := b2i_01
    rcases this with e | e <;> rw [e] <;> omega
set_option maxRecDepth 100000 in
set_option maxHeartbeats 4000000 in
theorem kX3_weightAlive (D : xD) (l : Launch) {n : Nat} {T : xT} {M : xM} (a : Nat) (V : xM) (sh lab : Int) (hS : StL n T a) (hV : shw M a V) (hv : VOK V) : xC D l uX3_weightAlive 3 67 0 0 [xR a, xI sh, xI lab] n T M (xPp n T M (fb_si (fun j => b2i (und V j sh lab ∧ alv V j (V 0 11)) * V 6 j) (V 0 10).toNat)) := by
  refine x_met uX3_weightAlive (by decide) (Nat.le_of_ble_eq_true rfl) ?_
  intro Γ G Rt _
  have G : xG Γ RX3 cX3_weightAlive 5 3 67 0 0 := G
  have Rt : xRt Γ (xPp n T M (fb_si (fun j => b2i (und V j sh lab ∧ alv V j (V 0 11)) * V 6 j) (V 0 10).toNat)) (some .int) 0 0 := Rt
  show xX Γ 0 0 n T 0 [(0, xR a), (1, xI sh), (2, xI lab)] [] M
  have hc := ok_c hv
  refine x_iconst G (by decide) dX3_weightAlive_0 ?_
  refine x_istore_n G [(3, xI 0), (0, xR a), (1, xI sh), (2, xI lab)] rfl (by decide) rfl dX3_weightAlive_1 ?_
  refine x_iconst G (by decide) dX3_weightAlive_2 ?_
  refine x_istore G [(4, xI 0), (3, xI 0), (0, xR a), (1, xI sh), (2, xI lab)] (by decide) rfl dX3_weightAlive_3 ?_
  have loop5 : ∀ (d : Nat) (k : Int) (q : Int), (V 0 10 - k).toNat = d → (0 ≤ k ∧ k ≤ V 0 10) → (q = fb_si (fun j => b2i (und V j sh lab ∧ alv V j (V 0 11)) * V 6 j) k.toNat) → xX Γ 0 0 n T 5 [(0, xR a), (1, xI sh), (2, xI lab), (3, xI q), (4, xI k)] [] M := by
    intro d
    induction d using Nat.strongRecOn with
    | ind d ih5 =>
    intro k q hd5 hk hn
    have hb := si_w hv (p := fun j => und V j sh lab ∧ alv V j (V 0 11)) k.toNat (by omega)
    have hb2 : 0 ≤ q ∧ q ≤ 2000 := by omega
    refine x_iload G 4 rfl dX3_weightAlive_5 ?_
    refine x_aload_n G 0 rfl rfl dX3_weightAlive_7 ?_
    refine x_get G (xI (M a 10)) xf3_10 lk_X3_50 (st_n hS 0 (by decide)) (st_k hS 0 (by decide)) (Or.inl ⟨rfl, rfl⟩) dX3_weightAlive_8 ?_
    rw [show M a 10 = (V 0 10) from (congrFun (hV 0 (by decide) (by decide) (by decide)) 10)]
    refine x_icmp_ge G 41 (by decide) dX3_weightAlive_11 (fun c11 => ?_) (fun c11 => ?_)
    · skip
      refine x_iload_n G 3 rfl rfl dX3_weightAlive_41 ?_
      exact x_iret G Rt dX3_weightAlive_42 ⟨rfl, rfl, congrArg (fun z => some (xI z)) (by have e : k = V 0 10 := (by omega); rw [hn, e]), rfl⟩
    · skip
      have hit := ok_i hv hk.1 (by omega)
      refine x_aload_n G 0 rfl rfl dX3_weightAlive_14 ?_
      refine x_iload G 4 rfl dX3_weightAlive_15 ?_
      refine x_iload_n G 1 rfl rfl dX3_weightAlive_17 ?_
      refine x_iload_n G 2 rfl rfl dX3_weightAlive_18 ?_
      refine x_callVp G [] [xI k, xI sh, xI lab] rfl (by decide) (st_n hS 0 (by decide)) (st_k hS 0 (by decide)) hy_X3_isAliveOf hi_X3_isAliveOf hs_X3_isAliveOf ml_X3_110 rfl rfl (kX3_isAliveOf _ _ a V k sh lab hS hV hv (by omega)) (by decide) (by decide) (Nat.le_of_ble_eq_true rfl) dX3_weightAlive_19 ?_
      refine x_if_eq G 35 (by decide) dX3_weightAlive_22 (fun c22 => ?_) (fun c22 => ?_)
      · skip
        have c22 := b2i_eq0.mp c22
        refine x_iinc G [(4, xI (k + 1)), (0, xR a), (1, xI sh), (2, xI lab), (3, xI q)] 4 rfl (by decide) (by omega) rfl dX3_weightAlive_35 ?_
        refine x_goto G 5 (by decide) dX3_weightAlive_38 ?_
        refine x_sub [(0, xR a), (1, xI sh), (2, xI lab), (3, xI q), (4, xI (k + 1))] [1, 2, 3, 4, 0] rfl ?_
        exact ih5 _ (by omega) (k + 1) q rfl (by omega) (by first | exact si_r hk.1 hn (by simp only [b2i_t c22]; omega) | (have := si_r (v := 0) hk.1 hn (by simp only [b2i_f c22]; omega); omega))
      · skip
        have c22 := b2i_ne0.mp c22
        refine x_iload_n G 3 rfl rfl dX3_weightAlive_25 ?_
        refine x_aload_n G 0 rfl rfl dX3_weightAlive_26 ?_
        refine x_get G (xR (a + 6)) xf3_3 lk_X3_25 (st_n hS 0 (by decide)) (st_k hS 0 (by decide)) (Or.inr ⟨rfl, _, (st_r hS 0 3 (by decide) (by decide)), rfl⟩) dX3_weightAlive_27 ?_
        refine x_iload G 4 rfl dX3_weightAlive_30 ?_
        refine x_iald G (st_n hS 6 (by decide)) (st_k hS 6 (by decide)) (show _ = 100 from st_l hS 6 (by decide)) (by omega) (by omega) dX3_weightAlive_32 ?_
        rw [show M (a + 6) k.toNat = (V 6 k.toNat) from (congrFun (hV 6 (by decide) (by decide) (by decide)) k.toNat)]
        refine x_iadd G (by omega) dX3_weightAlive_33 ?_
        refine x_istore_n G [(3, xI (q + (V 6 k.toNat))), (0, xR a), (1, xI sh), (2, xI lab), (4, xI k)] rfl (by decide) rfl dX3_weightAlive_34 ?_
        refine x_iinc G [(4, xI (k + 1)), (3, xI (q + (V 6 k.toNat))), (0, xR a), (1, xI sh), (2, xI lab)] 4 rfl (by decide) (by omega) rfl dX3_weightAlive_35 ?_
        refine x_goto G 5 (by decide) dX3_weightAlive_38 ?_
        refine x_sub [(0, xR a), (1, xI sh), (2, xI lab), (3, xI (q + (V 6 k.toNat))), (4, xI (k + 1))] [2, 3, 4, 1, 0] rfl ?_
        exact ih5 _ (by omega) (k + 1) (q + (V 6 k.toNat)) rfl (by omega) (by first | exact si_r hk.1 hn (by simp only [b2i_t c22]; omega) | (have := si_r (v := 0) hk.1 hn (by simp only [b2i_f c22]; omega); omega))
  refine x_sub [(0, xR a), (1, xI sh), (2, xI lab), (3, xI 0), (4, xI 0)] [2, 3, 4, 1, 0] rfl ?_
  exact loop5 _ 0 0 rfl (by omega) (rfl)
set_option maxRecDepth 100000 in
set_option maxHeartbeats 4000000 in
theorem kX3_compareToKey (D : xD) (l : Launch) {n : Nat} {T : xT} {M : xM} (a : Nat) (V : xM) (lo w j : Int) (hS : StL n T a) (hV : shw M a V) (hv : VOK V) (hl : 1 ≤ lo ∧ lo ≤ 1023) (hw : 1 ≤ w ∧ w ≤ 20) (hj : 0 ≤ j ∧ j < V 0 10) : xC D l uX3_compareToKey 3 69 0 0 [xR a, xI lo, xI w, xI j] n T M (xPI n T (fun z M2 => z = kc lo w (V 7 j.toNat) (V 6 j.toNat) ∧ xof [a + 2, a + 3] M M2)) := by
  refine x_met uX3_compareToKey (by decide) (Nat.le_of_ble_eq_true rfl) ?_
  intro Γ G Rt _
  have G : xG Γ RX3 cX3_compareToKey 4 3 69 0 0 := G
  have Rt : xRt Γ (xPI n T (fun z M2 => z = kc lo w (V 7 j.toNat) (V 6 j.toNat) ∧ xof [a + 2, a + 3] M M2)) (some .int) 0 0 := Rt
  show xX Γ 0 0 n T 0 [(0, xR a), (1, xI lo), (2, xI w), (3, xI j)] [] M
  have hc := ok_c hv
  have hjt := ok_i hv hj.1 hj.2
  refine x_aload_n G 0 rfl rfl dX3_compareToKey_0 ?_
  refine x_get G (xR (a + 1)) xf3_0 lk_X3_12 (st_n hS 0 (by decide)) (st_k hS 0 (by decide)) (Or.inr ⟨rfl, _, (st_r hS 0 0 (by decide) (by decide)), rfl⟩) dX3_compareToKey_1 ?_
  refine x_iload_n G 1 rfl rfl dX3_compareToKey_4 ?_
  refine x_iload_n G 2 rfl rfl dX3_compareToKey_5 ?_
  refine x_aload_n G 0 rfl rfl dX3_compareToKey_6 ?_
  refine x_get G (xR (a + 7)) xf3_4 lk_X3_28 (st_n hS 0 (by decide)) (st_k hS 0 (by decide)) (Or.inr ⟨rfl, _, (st_r hS 0 4 (by decide) (by decide)), rfl⟩) dX3_compareToKey_7 ?_
  refine x_iload_n G 3 rfl rfl dX3_compareToKey_10 ?_
  refine x_iald G (st_n hS 7 (by decide)) (st_k hS 7 (by decide)) (show _ = 100 from st_l hS 7 (by decide)) (by omega) (by omega) dX3_compareToKey_11 ?_
  rw [show M (a + 7) j.toNat = (V 7 j.toNat) from (congrFun (hV 7 (by decide) (by decide) (by decide)) j.toNat)]
  refine x_aload_n G 0 rfl rfl dX3_compareToKey_12 ?_
  refine x_get G (xR (a + 6)) xf3_3 lk_X3_25 (st_n hS 0 (by decide)) (st_k hS 0 (by decide)) (Or.inr ⟨rfl, _, (st_r hS 0 3 (by decide) (by decide)), rfl⟩) dX3_compareToKey_13 ?_
  refine x_iload_n G 3 rfl rfl dX3_compareToKey_16 ?_
  refine x_iald G (st_n hS 6 (by decide)) (st_k hS 6 (by decide)) (show _ = 100 from st_l hS 6 (by decide)) (by omega) (by omega) dX3_compareToKey_17 ?_
  rw [show M (a + 6) j.toNat = (V 6 j.toNat) from (congrFun (hV 6 (by decide) (by decide) (by decide)) j.toNat)]
  refine x_callVI G [] [xI lo, xI w, xI (V 7 j.toNat), xI (V 6 j.toNat)] rfl (by decide) (st_n hS 1 (by decide)) (st_k hS 1 (by decide)) hy_X1_compare hi_X1_compare hs_X1_compare ml_X3_90 rfl rfl (kX1_compare _ _ a lo w (V 7 j.toNat) (V 6 j.toNat) hS (by omega) (by omega) (by omega) (by omega)) (by decide) (by decide) (Nat.le_of_ble_eq_true rfl) dX3_compareToKey_18 (fun z18 M18 h18 => ?_)
  rw [h18.1]
  exact x_iret G Rt dX3_compareToKey_21 ⟨rfl, rfl, _, rfl, ⟨rfl, h18.2⟩⟩
set_option maxRecDepth 100000 in
set_option maxHeartbeats 4000000 in
theorem kX3_compareKeys (D : xD) (l : Launch) {n : Nat} {T : xT} {M : xM} (a : Nat) (V : xM) (i j : Int) (hS : StL n T a) (hV : shw M a V) (hv : VOK V) (hi : 0 ≤ i ∧ i < V 0 10) (hj : 0 ≤ j ∧ j < V 0 10) : xC D l uX3_compareKeys 4 92 0 0 [xR a, xI i, xI j] n T M (xPI n T (fun z M2 => z = kc (V 7 i.toNat) (V 6 i.toNat) (V 7 j.toNat) (V 6 j.toNat) ∧ xof [a + 2, a + 3] M M2)) := by
  refine x_met uX3_compareKeys (by decide) (Nat.le_of_ble_eq_true rfl) ?_
  intro Γ G Rt _
  have G : xG Γ RX3 cX3_compareKeys 3 4 92 0 0 := G
  have Rt : xRt Γ (xPI n T (fun z M2 => z = kc (V 7 i.toNat) (V 6 i.toNat) (V 7 j.toNat) (V 6 j.toNat) ∧ xof [a + 2, a + 3] M M2)) (some .int) 0 0 := Rt
  show xX Γ 0 0 n T 0 [(0, xR a), (1, xI i), (2, xI j)] [] M
  have hc := ok_c hv
  have hit := ok_i hv hi.1 hi.2
  have hjt := ok_i hv hj.1 hj.2
  refine x_aload_n G 0 rfl rfl dX3_compareKeys_0 ?_
  refine x_aload_n G 0 rfl rfl dX3_compareKeys_1 ?_
  refine x_get G (xR (a + 7)) xf3_4 lk_X3_28 (st_n hS 0 (by decide)) (st_k hS 0 (by decide)) (Or.inr ⟨rfl, _, (st_r hS 0 4 (by decide) (by decide)), rfl⟩) dX3_compareKeys_2 ?_
  refine x_iload_n G 1 rfl rfl dX3_compareKeys_5 ?_
  refine x_iald G (st_n hS 7 (by decide)) (st_k hS 7 (by decide)) (show _ = 100 from st_l hS 7 (by decide)) (by omega) (by omega) dX3_compareKeys_6 ?_
  rw [show M (a + 7) i.toNat = (V 7 i.toNat) from (congrFun (hV 7 (by decide) (by decide) (by decide)) i.toNat)]
  refine x_aload_n G 0 rfl rfl dX3_compareKeys_7 ?_
  refine x_get G (xR (a + 6)) xf3_3 lk_X3_25 (st_n hS 0 (by decide)) (st_k hS 0 (by decide)) (Or.inr ⟨rfl, _, (st_r hS 0 3 (by decide) (by decide)), rfl⟩) dX3_compareKeys_8 ?_
  refine x_iload_n G 1 rfl rfl dX3_compareKeys_11 ?_
  refine x_iald G (st_n hS 6 (by decide)) (st_k hS 6 (by decide)) (show _ = 100 from st_l hS 6 (by decide)) (by omega) (by omega) dX3_compareKeys_12 ?_
  rw [show M (a + 6) i.toNat = (V 6 i.toNat) from (congrFun (hV 6 (by decide) (by decide) (by decide)) i.toNat)]
  refine x_iload_n G 2 rfl rfl dX3_compareKeys_13 ?_
  refine x_callVI G [] [xI (V 7 i.toNat), xI (V 6 i.toNat), xI j] rfl (by decide) (st_n hS 0 (by decide)) (st_k hS 0 (by decide)) hy_X3_compareToKey hi_X3_compareToKey hs_X3_compareToKey ml_X3_93 rfl rfl (kX3_compareToKey _ _ a V (V 7 i.toNat) (V 6 i.toNat) j hS hV hv (by omega) (by omega) (by omega)) (by decide) (by decide) (Nat.le_of_ble_eq_true rfl) dX3_compareKeys_14 (fun z14 M14 h14 => ?_)
  rw [h14.1]
  exact x_iret G Rt dX3_compareKeys_17 ⟨rfl, rfl, _, rfl, ⟨rfl, h14.2⟩⟩
set_option maxRecDepth 100000 in
set_option maxHeartbeats 4000000 in
theorem kX3_wouldBeAhead (D : xD) (l : Launch) {n : Nat} {T : xT} {M : xM} (a : Nat) (V : xM) (i w j : Int) (hS : StL n T a) (hV : shw M a V) (hv : VOK V) (hi : 0 ≤ i ∧ i < V 0 10) (hw : 1 ≤ w ∧ w ≤ 20) (hj : 0 ≤ j ∧ j < V 0 10) : xC D l uX3_wouldBeAhead 3 69 0 0 [xR a, xI i, xI w, xI j] n T M (xPI n T (fun z M2 => z = b2i (ahw V i w j) ∧ xof [a + 2, a + 3] M M2)) := by
  refine x_met uX3_wouldBeAhead (by decide) (Nat.le_of_ble_eq_true rfl) ?_
  intro Γ G Rt _
  have G : xG Γ RX3 cX3_wouldBeAhead 5 3 69 0 0 := G
  have Rt : xRt Γ (xPI n T (fun z M2 => z = b2i (ahw V i w j) ∧ xof [a + 2, a + 3] M M2)) (some .boolean) 0 0 := Rt
  show xX Γ 0 0 n T 0 [(0, xR a), (1, xI i), (2, xI w), (3, xI j)] [] M
  have hc := ok_c hv
  have hit := ok_i hv hi.1 hi.2
  have hjt := ok_i hv hj.1 hj.2
  refine x_aload_n G 0 rfl rfl dX3_wouldBeAhead_0 ?_
  refine x_get G (xR (a + 1)) xf3_0 lk_X3_12 (st_n hS 0 (by decide)) (st_k hS 0 (by decide)) (Or.inr ⟨rfl, _, (st_r hS 0 0 (by decide) (by decide)), rfl⟩) dX3_wouldBeAhead_1 ?_
  refine x_aload_n G 0 rfl rfl dX3_wouldBeAhead_4 ?_
  refine x_get G (xR (a + 7)) xf3_4 lk_X3_28 (st_n hS 0 (by decide)) (st_k hS 0 (by decide)) (Or.inr ⟨rfl, _, (st_r hS 0 4 (by decide) (by decide)), rfl⟩) dX3_wouldBeAhead_5 ?_
  refine x_iload_n G 1 rfl rfl dX3_wouldBeAhead_8 ?_
  refine x_iald G (st_n hS 7 (by decide)) (st_k hS 7 (by decide)) (show _ = 100 from st_l hS 7 (by decide)) (by omega) (by omega) dX3_wouldBeAhead_9 ?_
  rw [show M (a + 7) i.toNat = (V 7 i.toNat) from (congrFun (hV 7 (by decide) (by decide) (by decide)) i.toNat)]
  refine x_iload_n G 2 rfl rfl dX3_wouldBeAhead_10 ?_
  refine x_aload_n G 0 rfl rfl dX3_wouldBeAhead_11 ?_
  refine x_get G (xR (a + 7)) xf3_4 lk_X3_28 (st_n hS 0 (by decide)) (st_k hS 0 (by decide)) (Or.inr ⟨rfl, _, (st_r hS 0 4 (by decide) (by decide)), rfl⟩) dX3_wouldBeAhead_12 ?_
  refine x_iload_n G 3 rfl rfl dX3_wouldBeAhead_15 ?_
  refine x_iald G (st_n hS 7 (by decide)) (st_k hS 7 (by decide)) (show _ = 100 from st_l hS 7 (by decide)) (by omega) (by omega) dX3_wouldBeAhead_16 ?_
  rw [show M (a + 7) j.toNat = (V 7 j.toNat) from (congrFun (hV 7 (by decide) (by decide) (by decide)) j.toNat)]
  refine x_aload_n G 0 rfl rfl dX3_wouldBeAhead_17 ?_
  refine x_get G (xR (a + 6)) xf3_3 lk_X3_25 (st_n hS 0 (by decide)) (st_k hS 0 (by decide)) (Or.inr ⟨rfl, _, (st_r hS 0 3 (by decide) (by decide)), rfl⟩) dX3_wouldBeAhead_18 ?_
  refine x_iload_n G 3 rfl rfl dX3_wouldBeAhead_21 ?_
  refine x_iald G (st_n hS 6 (by decide)) (st_k hS 6 (by decide)) (show _ = 100 from st_l hS 6 (by decide)) (by omega) (by omega) dX3_wouldBeAhead_22 ?_
  rw [show M (a + 6) j.toNat = (V 6 j.toNat) from (congrFun (hV 6 (by decide) (by decide) (by decide)) j.toNat)]
  refine x_callVI G [] [xI (V 7 i.toNat), xI w, xI (V 7 j.toNat), xI (V 6 j.toNat)] rfl (by decide) (st_n hS 1 (by decide)) (st_k hS 1 (by decide)) hy_X1_compare hi_X1_compare hs_X1_compare ml_X3_90 rfl rfl (kX1_compare _ _ a (V 7 i.toNat) w (V 7 j.toNat) (V 6 j.toNat) hS (by omega) (by omega) (by omega) (by omega)) (by decide) (by decide) (Nat.le_of_ble_eq_true rfl) dX3_wouldBeAhead_23 (fun z23 M23 h23 => ?_)
  rw [h23.1]
  refine x_istore G [(4, xI (kc (V 7 i.toNat) w (V 7 j.toNat) (V 6 j.toNat))), (0, xR a), (1, xI i), (2, xI w), (3, xI j)] (by decide) rfl dX3_wouldBeAhead_26 ?_
  refine x_iload G 0 rfl dX3_wouldBeAhead_28 ?_
  refine x_if_gt G 43 (by decide) dX3_wouldBeAhead_30 (fun c30 => ?_) (fun c30 => ?_)
  · skip
    refine x_iconst G (by decide) dX3_wouldBeAhead_43 ?_
    refine x_goto G 48 (by decide) dX3_wouldBeAhead_44 ?_
    exact x_zret G (by omega) Rt dX3_wouldBeAhead_48 ⟨rfl, rfl, _, rfl, ⟨by first | exact (b2i_t (by omega)).symm | exact (b2i_f (by omega)).symm, h23.2⟩⟩
  · skip
    refine x_iload G 0 rfl dX3_wouldBeAhead_33 ?_
    refine x_if_ne G 47 (by decide) dX3_wouldBeAhead_35 (fun c35 => ?_) (fun c35 => ?_)
    · skip
      refine x_iconst G (by decide) dX3_wouldBeAhead_47 ?_
      exact x_zret G (by omega) Rt dX3_wouldBeAhead_48 ⟨rfl, rfl, _, rfl, ⟨by first | exact (b2i_t (by omega)).symm | exact (b2i_f (by omega)).symm, h23.2⟩⟩
    · skip
      refine x_iload_n G 2 rfl rfl dX3_wouldBeAhead_38 ?_
      refine x_iload_n G 4 rfl rfl dX3_wouldBeAhead_39 ?_
      refine x_icmp_ge G 47 (by decide) dX3_wouldBeAhead_40 (fun c40 => ?_) (fun c40 => ?_)
      · skip
        refine x_iconst G (by decide) dX3_wouldBeAhead_47 ?_
        exact x_zret G (by omega) Rt dX3_wouldBeAhead_48 ⟨rfl, rfl, _, rfl, ⟨by first | exact (b2i_t (by omega)).symm | exact (b2i_f (by omega)).symm, h23.2⟩⟩
      · skip
        refine x_iconst G (by decide) dX3_wouldBeAhead_43 ?_
        refine x_goto G 48 (by decide) dX3_wouldBeAhead_44 ?_
        exact x_zret G (by omega) Rt dX3_wouldBeAhead_48 ⟨rfl, rfl, _, rfl, ⟨by first | exact (b2i_t (by omega)).symm | exact (b2i_f (by omega)).symm, h23.2⟩⟩
set_option maxRecDepth 100000 in
set_option maxHeartbeats 4000000 in
theorem kX3_isAhead (D : xD) (l : Launch) {n : Nat} {T : xT} {M : xM} (a : Nat) (V : xM) (i j : Int) (hS : StL n T a) (hV : shw M a V) (hv : VOK V) (hi : 0 ≤ i ∧ i < V 0 10) (hj : 0 ≤ j ∧ j < V 0 10) : xC D l uX3_isAhead 4 93 0 0 [xR a, xI i, xI j] n T M (xPI n T (fun z M2 => z = b2i (ahd V i j) ∧ xof [a + 2, a + 3] M M2)) := by
  refine x_met uX3_isAhead (by decide) (Nat.le_of_ble_eq_true rfl) ?_
  intro Γ G Rt _
  have G : xG Γ RX3 cX3_isAhead 3 4 93 0 0 := G
  have Rt : xRt Γ (xPI n T (fun z M2 => z = b2i (ahd V i j) ∧ xof [a + 2, a + 3] M M2)) (some .boolean) 0 0 := Rt
  show xX Γ 0 0 n T 0 [(0, xR a), (1, xI i), (2, xI j)] [] M
  have hc := ok_c hv
  have hit := ok_i hv hi.1 hi.2
  have hjt := ok_i hv hj.1 hj.2
  refine x_aload_n G 0 rfl rfl dX3_isAhead_0 ?_
  refine x_iload_n G 1 rfl rfl dX3_isAhead_1 ?_
  refine x_aload_n G 0 rfl rfl dX3_isAhead_2 ?_
  refine x_get G (xR (a + 6)) xf3_3 lk_X3_25 (st_n hS 0 (by decide)) (st_k hS 0 (by decide)) (Or.inr ⟨rfl, _, (st_r hS 0 3 (by decide) (by decide)), rfl⟩) dX3_isAhead_3 ?_
  refine x_iload_n G 1 rfl rfl dX3_isAhead_6 ?_
  refine x_iald G (st_n hS 6 (by decide)) (st_k hS 6 (by decide)) (show _ = 100 from st_l hS 6 (by decide)) (by omega) (by omega) dX3_isAhead_7 ?_
  rw [show M (a + 6) i.toNat = (V 6 i.toNat) from (congrFun (hV 6 (by decide) (by decide) (by decide)) i.toNat)]
  refine x_iload_n G 2 rfl rfl dX3_isAhead_8 ?_
  refine x_callVI G [] [xI i, xI (V 6 i.toNat), xI j] rfl (by decide) (st_n hS 0 (by decide)) (st_k hS 0 (by decide)) hy_X3_wouldBeAhead hi_X3_wouldBeAhead hs_X3_wouldBeAhead ml_X3_87 rfl rfl (kX3_wouldBeAhead _ _ a V i (V 6 i.toNat) j hS hV hv (by omega) (by omega) (by omega)) (by decide) (by decide) (Nat.le_of_ble_eq_true rfl) dX3_isAhead_9 (fun z9 M9 h9 => ?_)
  rw [h9.1]
  exact x_zret G b2i_01 Rt dX3_isAhead_12 ⟨rfl, rfl, _, rfl, ⟨rfl, h9.2⟩⟩
set_option maxRecDepth 100000 in
set_option maxHeartbeats 4000000 in
theorem kX3_isPartOfKey (D : xD) (l : Launch) {n : Nat} {T : xT} {M : xM} (a : Nat) (V : xM) (p q i : Int) (hS : StL n T a) (hV : shw M a V) (hv : VOK V) (hp : 1 ≤ p ∧ p ≤ 1024) (hq : 1 ≤ q ∧ q ≤ 1024) (hi : 0 ≤ i ∧ i < V 0 10) : xC D l uX3_isPartOfKey 3 68 0 0 [xR a, xI p, xI q, xI i] n T M (xPI n T (fun z M2 => z = b2i (p ^ (V 6 i.toNat).toNat * 1024 ≤ q ^ (V 6 i.toNat).toNat * V 7 i.toNat) ∧ xof [a + 2, a + 3] M M2)) := by
  refine x_met uX3_isPartOfKey (by decide) (Nat.le_of_ble_eq_true rfl) ?_
  intro Γ G Rt _
  have G : xG Γ RX3 cX3_isPartOfKey 4 3 68 0 0 := G
  have Rt : xRt Γ (xPI n T (fun z M2 => z = b2i (p ^ (V 6 i.toNat).toNat * 1024 ≤ q ^ (V 6 i.toNat).toNat * V 7 i.toNat) ∧ xof [a + 2, a + 3] M M2)) (some .boolean) 0 0 := Rt
  show xX Γ 0 0 n T 0 [(0, xR a), (1, xI p), (2, xI q), (3, xI i)] [] M
  have hc := ok_c hv
  have hit := ok_i hv hi.1 hi.2
  refine x_aload_n G 0 rfl rfl dX3_isPartOfKey_0 ?_
  refine x_get G (xR (a + 1)) xf3_0 lk_X3_12 (st_n hS 0 (by decide)) (st_k hS 0 (by decide)) (Or.inr ⟨rfl, _, (st_r hS 0 0 (by decide) (by decide)), rfl⟩) dX3_isPartOfKey_1 ?_
  refine x_iload_n G 1 rfl rfl dX3_isPartOfKey_4 ?_
  refine x_iload_n G 2 rfl rfl dX3_isPartOfKey_5 ?_
  refine x_aload_n G 0 rfl rfl dX3_isPartOfKey_6 ?_
  refine x_get G (xR (a + 7)) xf3_4 lk_X3_28 (st_n hS 0 (by decide)) (st_k hS 0 (by decide)) (Or.inr ⟨rfl, _, (st_r hS 0 4 (by decide) (by decide)), rfl⟩) dX3_isPartOfKey_7 ?_
  refine x_iload_n G 3 rfl rfl dX3_isPartOfKey_10 ?_
  refine x_iald G (st_n hS 7 (by decide)) (st_k hS 7 (by decide)) (show _ = 100 from st_l hS 7 (by decide)) (by omega) (by omega) dX3_isPartOfKey_11 ?_
  rw [show M (a + 7) i.toNat = (V 7 i.toNat) from (congrFun (hV 7 (by decide) (by decide) (by decide)) i.toNat)]
  refine x_aload_n G 0 rfl rfl dX3_isPartOfKey_12 ?_
  refine x_get G (xR (a + 6)) xf3_3 lk_X3_25 (st_n hS 0 (by decide)) (st_k hS 0 (by decide)) (Or.inr ⟨rfl, _, (st_r hS 0 3 (by decide) (by decide)), rfl⟩) dX3_isPartOfKey_13 ?_
  refine x_iload_n G 3 rfl rfl dX3_isPartOfKey_16 ?_
  refine x_iald G (st_n hS 6 (by decide)) (st_k hS 6 (by decide)) (show _ = 100 from st_l hS 6 (by decide)) (by omega) (by omega) dX3_isPartOfKey_17 ?_
  rw [show M (a + 6) i.toNat = (V 6 i.toNat) from (congrFun (hV 6 (by decide) (by decide) (by decide)) i.toNat)]
  refine x_callVI G [] [xI p, xI q, xI (V 7 i.toNat), xI (V 6 i.toNat)] rfl (by decide) (st_n hS 1 (by decide)) (st_k hS 1 (by decide)) hy_X1_isPart hi_X1_isPart hs_X1_isPart ml_X3_97 rfl rfl (kX1_isPart _ _ a p q (V 7 i.toNat) (V 6 i.toNat) hS (by omega) (by omega) (by omega) (by omega)) (by decide) (by decide) (Nat.le_of_ble_eq_true rfl) dX3_isPartOfKey_18 (fun z18 M18 h18 => ?_)
  rw [h18.1]
  exact x_zret G b2i_01 Rt dX3_isPartOfKey_21 ⟨rfl, rfl, _, rfl, ⟨rfl, h18.2⟩⟩
