set_option maxRecDepth 100000 in
set_option maxHeartbeats 4000000 in
theorem kX2_ask (D : xD) (l : Launch) {n : Nat} {T : xT} {M : xM} (b a : Nat) (V : xM) (sh : Int) (hB : SaL n T b) (hS : StL n T a) (hab : a + 13 ≤ b ∨ b + 3 ≤ a) (hV : shw M a V) (hv : VOK V) (hsh : 0 ≤ sh ∧ sh ≤ 3) : xC D l uX2_ask 0 0 0 0 [xR b, xR a, xI sh] n T M (xPV n T (fun M2 => Ask M2 b (2 ^ sh.toNat) (V 11 sh.toNat) (V 0 11) 100 (-1) 100 ∧ xof [b] M M2)) := by
  refine x_met uX2_ask (by decide) (Nat.le_of_ble_eq_true rfl) ?_
  intro Γ G Rt _
  have G : xG Γ RX2 cX2_ask 3 0 0 0 0 := G
  have Rt : xRt Γ (xPV n T (fun M2 => Ask M2 b (2 ^ sh.toNat) (V 11 sh.toNat) (V 0 11) 100 (-1) 100 ∧ xof [b] M M2)) none 0 0 := Rt
  show xX Γ 0 0 n T 0 [(0, xR b), (1, xR a), (2, xI sh)] [] M
  have hsw := ok_s hv hsh.1 hsh.2
  have hp : (2 : Int) ^ sh.toNat ≤ 8 := by
    have := ipow_mono (show (1 : Int) ≤ 2 by decide) (show sh.toNat ≤ 3 by omega)
    omega
  have hp1 := ipow_pos (show (1 : Int) ≤ 2 by decide) sh.toNat
  refine x_aload_n G 0 rfl rfl dX2_ask_0 ?_
  refine x_iconst G (by decide) dX2_ask_1 ?_
  refine x_iload_n G 2 rfl rfl dX2_ask_2 ?_
  refine x_ishl G (2 ^ sh.toNat) (x_shl1 hsh.1 (by omega)) (by omega) dX2_ask_3 ?_
  refine x_put G  xf2_3 lk_X2_30 (sa_n hB 0 (by decide)) (sa_k hB 0 (by decide)) rfl dX2_ask_4 ?_
  refine x_aload_n G 0 rfl rfl dX2_ask_7 ?_
  refine x_aload_n G 1 rfl rfl dX2_ask_8 ?_
  refine x_get G (xR (a + 11)) xf3_8 lk_X2_33 (st_n hS 0 (by decide)) (st_k hS 0 (by decide)) (Or.inr ⟨rfl, _, (st_r hS 0 8 (by decide) (by decide)), rfl⟩) dX2_ask_9 ?_
  refine x_iload_n G 2 rfl rfl dX2_ask_12 ?_
  refine x_iald G (st_n hS 11 (by decide)) (st_k hS 11 (by decide)) (show _ = 4 from st_l hS 11 (by decide)) (by omega) (by omega) dX2_ask_13 ?_
  rw [show (xst M b 3 (2 ^ sh.toNat)) (a + 11) sh.toNat = (V 11 sh.toNat) from ((xst_nq (by omega)).trans (congrFun (hV 11 (by decide) (by decide) (by decide)) sh.toNat))]
  refine x_put G  xf2_4 lk_X2_38 (sa_n hB 0 (by decide)) (sa_k hB 0 (by decide)) rfl dX2_ask_14 ?_
  refine x_aload_n G 0 rfl rfl dX2_ask_17 ?_
  refine x_aload_n G 1 rfl rfl dX2_ask_18 ?_
  refine x_get G (xI ((xst (xst M b 3 (2 ^ sh.toNat)) b 4 (V 11 sh.toNat)) a 11)) xf3_11 lk_X2_41 (st_n hS 0 (by decide)) (st_k hS 0 (by decide)) (Or.inl ⟨rfl, rfl⟩) dX2_ask_19 ?_
  rw [show (xst (xst M b 3 (2 ^ sh.toNat)) b 4 (V 11 sh.toNat)) a 11 = (V 0 11) from ((xst_nq (by omega)).trans ((xst_nq (by omega)).trans (congrFun (hV 0 (by decide) (by decide) (by decide)) 11)))]
  refine x_put G  xf2_5 lk_X2_44 (sa_n hB 0 (by decide)) (sa_k hB 0 (by decide)) rfl dX2_ask_22 ?_
  refine x_aload_n G 0 rfl rfl dX2_ask_25 ?_
  refine x_bipush G (by decide) dX2_ask_26 ?_
  refine x_put G  xf2_6 lk_X2_45 (sa_n hB 0 (by decide)) (sa_k hB 0 (by decide)) rfl dX2_ask_28 ?_
  refine x_aload_n G 0 rfl rfl dX2_ask_31 ?_
  refine x_iconst G (by decide) dX2_ask_32 ?_
  refine x_put G  xf2_7 lk_X2_48 (sa_n hB 0 (by decide)) (sa_k hB 0 (by decide)) rfl dX2_ask_33 ?_
  refine x_aload_n G 0 rfl rfl dX2_ask_36 ?_
  refine x_bipush G (by decide) dX2_ask_37 ?_
  refine x_put G  xf2_8 lk_X2_51 (sa_n hB 0 (by decide)) (sa_k hB 0 (by decide)) rfl dX2_ask_39 ?_
  exact x_vret G Rt dX2_ask_42 ⟨rfl, rfl, rfl, ⟨by simp [Ask, xst_eq], fun q hq => by simp at hq; simp (disch := omega) only [xst_row]⟩⟩
theorem ask_gt {s t u ou : Int} {V : xM} {i : Nat} : bit s (V 4 i) → (i : Int) ≤ u → ¬ (i : Int) = ou → alv V i t → asd V s t u ou i := fun h1 h2 h3 h4 => ⟨h1, h2, h3, h4⟩
set_option maxRecDepth 100000 in
set_option maxHeartbeats 4000000 in
theorem kX2_isAskedFor (D : xD) (l : Launch) {n : Nat} {T : xT} {M : xM} (b a : Nat) (V : xM) (s mo t u ou c i : Int) (hB : SaL n T b) (hS : StL n T a) (hab : a + 13 ≤ b ∨ b + 3 ≤ a) (hV : shw M a V) (hv : VOK V) (hA : Ask M b s mo t u ou c) (hset : 0 ≤ s ∧ s < 16) (ht : 0 ≤ t ∧ t < 1000000) (hi : 0 ≤ i ∧ i < V 0 10) : xC D l uX2_isAskedFor 1 23 0 0 [xR b, xR a, xI i] n T M (xPp n T M (b2i (asd V s t u ou i.toNat))) := by
  refine x_met uX2_isAskedFor (by decide) (Nat.le_of_ble_eq_true rfl) ?_
  intro Γ G Rt _
  have G : xG Γ RX2 cX2_isAskedFor 3 1 23 0 0 := G
  have Rt : xRt Γ (xPp n T M (b2i (asd V s t u ou i.toNat))) (some .boolean) 0 0 := Rt
  show xX Γ 0 0 n T 0 [(0, xR b), (1, xR a), (2, xI i)] [] M
  have hit := ok_i hv hi.1 hi.2
  have hc := ok_c hv
  have ei : ((i.toNat : Nat) : Int) = i := by omega
  obtain ⟨A3, A4, A5, A6, A7, A8⟩ := hA
  have hq : 0 ≤ s / 2 ^ (V 4 i.toNat).toNat ∧ s / 2 ^ (V 4 i.toNat).toNat ≤ s := ⟨Int.ediv_nonneg hset.1 (Int.pow_nonneg (by decide)), Int.ediv_le_self _ hset.1⟩
  refine x_aload_n G 0 rfl rfl dX2_isAskedFor_0 ?_
  refine x_get G (xI (M b 3)) xf2_3 lk_X2_30 (sa_n hB 0 (by decide)) (sa_k hB 0 (by decide)) (Or.inl ⟨rfl, rfl⟩) dX2_isAskedFor_1 ?_
  rw [A3]
  skip
  refine x_aload_n G 1 rfl rfl dX2_isAskedFor_4 ?_
  refine x_get G (xR (a + 4)) xf3_1 lk_X2_67 (st_n hS 0 (by decide)) (st_k hS 0 (by decide)) (Or.inr ⟨rfl, _, (st_r hS 0 1 (by decide) (by decide)), rfl⟩) dX2_isAskedFor_5 ?_
  refine x_iload_n G 2 rfl rfl dX2_isAskedFor_8 ?_
  refine x_iald G (st_n hS 4 (by decide)) (st_k hS 4 (by decide)) (show _ = 100 from st_l hS 4 (by decide)) (by omega) (by omega) dX2_isAskedFor_9 ?_
  rw [show M (a + 4) i.toNat = (V 4 i.toNat) from (congrFun (hV 4 (by decide) (by decide) (by decide)) i.toNat)]
  refine x_ishr G (s / 2 ^ (V 4 i.toNat).toNat) (x_shr' hset.1 ⟨by omega, by omega⟩ hit.1.1 (by omega)) (by omega) dX2_isAskedFor_10 ?_
  refine x_iconst G (by decide) dX2_isAskedFor_11 ?_
  refine x_iand G (s / 2 ^ (V 4 i.toNat).toNat % 2) (by have := x_and' (x := s / 2 ^ (V 4 i.toNat).toNat) (m := 1) 1 (by decide) hq.1; exact this) (by omega) dX2_isAskedFor_12 ?_
  refine x_iconst G (by decide) dX2_isAskedFor_13 ?_
  refine x_icmp_ne G 49 (by decide) dX2_isAskedFor_14 (fun c14 => ?_) (fun c14 => ?_)
  · skip
    refine x_iconst G (by decide) dX2_isAskedFor_49 ?_
    exact x_zret G (by omega) Rt dX2_isAskedFor_50 ⟨rfl, rfl, congrArg (fun z => some (xI z)) (by first | exact (b2i_t ⟨c14, by omega, by omega, c42⟩).symm | exact (b2i_f (fun h => c14 h.1)).symm | exact (b2i_f (fun h => absurd h.2.1 (by omega))).symm | exact (b2i_f (fun h => absurd h.2.2.1 (by omega))).symm | exact (b2i_f (fun h => c42 h.2.2.2)).symm), rfl⟩
  · skip
    refine x_iload_n G 2 rfl rfl dX2_isAskedFor_17 ?_
    refine x_aload_n G 0 rfl rfl dX2_isAskedFor_18 ?_
    refine x_get G (xI (M b 6)) xf2_6 lk_X2_45 (sa_n hB 0 (by decide)) (sa_k hB 0 (by decide)) (Or.inl ⟨rfl, rfl⟩) dX2_isAskedFor_19 ?_
    rw [A6]
    skip
    refine x_icmp_gt G 49 (by decide) dX2_isAskedFor_22 (fun c22 => ?_) (fun c22 => ?_)
    · skip
      refine x_iconst G (by decide) dX2_isAskedFor_49 ?_
      exact x_zret G (by omega) Rt dX2_isAskedFor_50 ⟨rfl, rfl, congrArg (fun z => some (xI z)) (by first | exact (b2i_t ⟨c14, by omega, by omega, c42⟩).symm | exact (b2i_f (fun h => c14 h.1)).symm | exact (b2i_f (fun h => absurd h.2.1 (by omega))).symm | exact (b2i_f (fun h => absurd h.2.2.1 (by omega))).symm | exact (b2i_f (fun h => c42 h.2.2.2)).symm), rfl⟩
    · skip
      refine x_iload_n G 2 rfl rfl dX2_isAskedFor_25 ?_
      refine x_aload_n G 0 rfl rfl dX2_isAskedFor_26 ?_
      refine x_get G (xI (M b 7)) xf2_7 lk_X2_48 (sa_n hB 0 (by decide)) (sa_k hB 0 (by decide)) (Or.inl ⟨rfl, rfl⟩) dX2_isAskedFor_27 ?_
      rw [A7]
      skip
      refine x_icmp_eq G 49 (by decide) dX2_isAskedFor_30 (fun c30 => ?_) (fun c30 => ?_)
      · skip
        refine x_iconst G (by decide) dX2_isAskedFor_49 ?_
        exact x_zret G (by omega) Rt dX2_isAskedFor_50 ⟨rfl, rfl, congrArg (fun z => some (xI z)) (by first | exact (b2i_t ⟨c14, by omega, by omega, c42⟩).symm | exact (b2i_f (fun h => c14 h.1)).symm | exact (b2i_f (fun h => absurd h.2.1 (by omega))).symm | exact (b2i_f (fun h => absurd h.2.2.1 (by omega))).symm | exact (b2i_f (fun h => c42 h.2.2.2)).symm), rfl⟩
      · skip
        refine x_aload_n G 1 rfl rfl dX2_isAskedFor_33 ?_
        refine x_iload_n G 2 rfl rfl dX2_isAskedFor_34 ?_
        refine x_aload_n G 0 rfl rfl dX2_isAskedFor_35 ?_
        refine x_get G (xI (M b 5)) xf2_5 lk_X2_44 (sa_n hB 0 (by decide)) (sa_k hB 0 (by decide)) (Or.inl ⟨rfl, rfl⟩) dX2_isAskedFor_36 ?_
        rw [A5]
        skip
        refine x_callVp G [] [xI i, xI t] rfl (by decide) (st_n hS 0 (by decide)) (st_k hS 0 (by decide)) hy_X3_isAliveAt hi_X3_isAliveAt hs_X3_isAliveAt ml_X2_70 rfl rfl (kX3_isAliveAt _ _ a V i t hS hV hv (by omega) (by omega)) (by decide) (by decide) (Nat.le_of_ble_eq_true rfl) dX2_isAskedFor_39 ?_
        refine x_if_eq G 49 (by decide) dX2_isAskedFor_42 (fun c42 => ?_) (fun c42 => ?_)
        · skip
          have c42 := b2i_eq0.mp c42
          refine x_iconst G (by decide) dX2_isAskedFor_49 ?_
          exact x_zret G (by omega) Rt dX2_isAskedFor_50 ⟨rfl, rfl, congrArg (fun z => some (xI z)) (by first | exact (b2i_t ⟨c14, by omega, by omega, c42⟩).symm | exact (b2i_f (fun h => c14 h.1)).symm | exact (b2i_f (fun h => absurd h.2.1 (by omega))).symm | exact (b2i_f (fun h => absurd h.2.2.1 (by omega))).symm | exact (b2i_f (fun h => c42 h.2.2.2)).symm), rfl⟩
        · skip
          have c42 := b2i_ne0.mp c42
          refine x_iconst G (by decide) dX2_isAskedFor_45 ?_
          refine x_goto G 50 (by decide) dX2_isAskedFor_46 ?_
          exact x_zret G (by omega) Rt dX2_isAskedFor_50 ⟨rfl, rfl, congrArg (fun z => some (xI z)) (by first | exact (b2i_t ⟨c14, by omega, by omega, c42⟩).symm | exact (b2i_f (fun h => c14 h.1)).symm | exact (b2i_f (fun h => absurd h.2.1 (by omega))).symm | exact (b2i_f (fun h => absurd h.2.2.1 (by omega))).symm | exact (b2i_f (fun h => c42 h.2.2.2)).symm), rfl⟩
theorem smp_in {M : xM} {b : Nat} {V : xM} {L : List Nat} (h : Smp M b V L) {i : Nat} {M2 : xM} (h1 : M2 b 2 = M b 2 + 1) (h2 : ∀ j, M2 (b + 1) j = if j = L.length then (i : Int) else M (b + 1) j) (h3 : ∀ q, M2 (b + 2) q = M (b + 2) q + (if V 5 i = q then 1 else 0)) : Smp M2 b V (L ++ [i]) := by
  refine ⟨by rw [h1, h.1]; simp, fun j hj => ?_, fun q hq => ?_⟩
  · rw [h2]
    by_cases e : j = L.length
    · rw [if_pos e, e, getD_add_eq]
    · have hj2 : j < L.length := by simp at hj; omega
      rw [if_neg e, getD_add_lt hj2]; exact h.2.1 j hj2
  · rw [h3, lb1_add, h.2.2 q hq]
theorem stp_no {V : xM} {P : Nat → Bool} {most cap : Int} {acc : List Nat} {i : Nat} (h : ¬ ((acc.length : Int) < most ∧ P i = true ∧ lb1 V acc (V 5 i) < cap)) : stp V P most cap acc i = acc := if_neg h
theorem stp_yes {V : xM} {P : Nat → Bool} {most cap : Int} {acc : List Nat} {i : Nat} (h1 : (acc.length : Int) < most) (h2 : P i = true) (h3 : lb1 V acc (V 5 i) < cap) : stp V P most cap acc i = acc ++ [i] := if_pos ⟨h1, h2, h3⟩
set_option maxRecDepth 100000 in
set_option maxHeartbeats 4000000 in
theorem kX2_fill (D : xD) (l : Launch) {n : Nat} {T : xT} {M : xM} (b a : Nat) (V : xM) (s mo t u ou c : Int) (hB : SaL n T b) (hS : StL n T a) (hab : a + 13 ≤ b ∨ b + 3 ≤ a) (hV : shw M a V) (hv : VOK V) (hA : Ask M b s mo t u ou c) (hset : 0 ≤ s ∧ s < 16) (ht : 0 ≤ t ∧ t < 1000000) (hs : Srt V (V 10) (V 0 10).toNat) : xC D l uX2_fill 2 45 0 0 [xR b, xR a] n T M (xPV n T (fun M2 => Smp M2 b V (fil V (fun i => decide (asd V s t u ou i)) mo c (rkl V)) ∧ Ask M2 b s mo t u ou c ∧ xof [b, b + 1, b + 2] M M2)) := by
  refine x_met uX2_fill (by decide) (Nat.le_of_ble_eq_true rfl) ?_
  intro Γ G Rt _
  have G : xG Γ RX2 cX2_fill 5 2 45 0 0 := G
  have Rt : xRt Γ (xPV n T (fun M2 => Smp M2 b V (fil V (fun i => decide (asd V s t u ou i)) mo c (rkl V)) ∧ Ask M2 b s mo t u ou c ∧ xof [b, b + 1, b + 2] M M2)) none 0 0 := Rt
  show xX Γ 0 0 n T 0 [(0, xR b), (1, xR a)] [] M
  have hc := ok_c hv
  refine x_aload_n G 0 rfl rfl dX2_fill_0 ?_
  refine x_iconst G (by decide) dX2_fill_1 ?_
  refine x_put G  xf2_2 lk_X2_18 (sa_n hB 0 (by decide)) (sa_k hB 0 (by decide)) rfl dX2_fill_2 ?_
  refine x_iconst G (by decide) dX2_fill_5 ?_
  refine x_istore_n G [(2, xI 0), (0, xR b), (1, xR a)] rfl (by decide) rfl dX2_fill_6 ?_
  have loop7 : ∀ (d : Nat) (k : Int) (M0 : xM), (26 - k).toNat = d → (0 ≤ k ∧ k ≤ 26) → (shw M0 a V) → (Ask M0 b s mo t u ou c) → (M0 b 2 = 0) → (∀ q : Nat, (q : Int) < k → M0 (b + 2) q = 0) → (xof [b, b + 1, b + 2] M M0) → xX Γ 0 0 n T 7 [(0, xR b), (1, xR a), (2, xI k)] [] M0 := by
    intro d
    induction d using Nat.strongRecOn with
    | ind d ih7 =>
    intro k M0 hd7 hk0 hV0 hA0 h20 hz hx0
    refine x_iload_n G 2 rfl rfl dX2_fill_7 ?_
    refine x_bipush G (by decide) dX2_fill_8 ?_
    refine x_icmp_ge G 26 (by decide) dX2_fill_10 (fun c10 => ?_) (fun c10 => ?_)
    · skip
      refine x_iconst G (by decide) dX2_fill_26 ?_
      refine x_istore_n G [(2, xI 0), (0, xR b), (1, xR a)] rfl (by decide) rfl dX2_fill_27 ?_
      have loop28 : ∀ (d : Nat) (k : Int) (M1 : xM), (V 0 10 - k).toNat = d → (0 ≤ k ∧ k ≤ V 0 10) → (shw M1 a V) → (Ask M1 b s mo t u ou c) → (xof [b, b + 1, b + 2] M M1) → (Smp M1 b V (fil V (fun i => decide (asd V s t u ou i)) mo c ((rkl V).take k.toNat))) → xX Γ 0 0 n T 28 [(0, xR b), (1, xR a), (2, xI k)] [] M1 := by
        intro d
        induction d using Nat.strongRecOn with
        | ind d ih28 =>
        intro k M1 hd28 hk hV1 hA1 hx1 hsm
        have hfl := fil_len V (fun i => decide (asd V s t u ou i)) mo c k.toNat
        have hsm1 := hsm.1
        refine x_iload_n G 2 rfl rfl dX2_fill_28 ?_
        refine x_aload_n G 1 rfl rfl dX2_fill_29 ?_
        refine x_get G (xI (M1 a 10)) xf3_10 lk_X2_54 (st_n hS 0 (by decide)) (st_k hS 0 (by decide)) (Or.inl ⟨rfl, rfl⟩) dX2_fill_30 ?_
        rw [show M1 a 10 = (V 0 10) from (congrFun (hV1 0 (by decide) (by decide) (by decide)) 10)]
        refine x_icmp_ge G 122 (by decide) dX2_fill_33 (fun c33 => ?_) (fun c33 => ?_)
        · skip
          exact x_vret G Rt dX2_fill_122 ⟨rfl, rfl, rfl, ⟨by first | (have e : k = V 0 10 := (by omega); have e2 := rkl_all V; rw [← e2, ← e]; exact hsm) | (rw [fil_full k.toNat (by have h1 := hsm.1; have h2 := hA1.2.1; omega)]; exact hsm), hA1, hx1⟩⟩
        · skip
          refine x_aload_n G 0 rfl rfl dX2_fill_36 ?_
          refine x_get G (xI (M1 b 2)) xf2_2 lk_X2_18 (sa_n hB 0 (by decide)) (sa_k hB 0 (by decide)) (Or.inl ⟨rfl, rfl⟩) dX2_fill_37 ?_
          refine x_aload_n G 0 rfl rfl dX2_fill_40 ?_
          refine x_get G (xI (M1 b 4)) xf2_4 lk_X2_38 (sa_n hB 0 (by decide)) (sa_k hB 0 (by decide)) (Or.inl ⟨rfl, rfl⟩) dX2_fill_41 ?_
          refine x_icmp_ge G 122 (by decide) dX2_fill_44 (fun c44 => ?_) (fun c44 => ?_)
          · skip
            exact x_vret G Rt dX2_fill_122 ⟨rfl, rfl, rfl, ⟨by first | (have e : k = V 0 10 := (by omega); have e2 := rkl_all V; rw [← e2, ← e]; exact hsm) | (rw [fil_full k.toNat (by have h1 := hsm.1; have h2 := hA1.2.1; omega)]; exact hsm), hA1, hx1⟩⟩
          · skip
            have hr := hs.1 k.toNat (by omega)
            refine x_aload_n G 1 rfl rfl dX2_fill_47 ?_
            refine x_get G (xR (a + 10)) xf3_7 lk_X2_57 (st_n hS 0 (by decide)) (st_k hS 0 (by decide)) (Or.inr ⟨rfl, _, (st_r hS 0 7 (by decide) (by decide)), rfl⟩) dX2_fill_48 ?_
            refine x_iload_n G 2 rfl rfl dX2_fill_51 ?_
            refine x_iald G (st_n hS 10 (by decide)) (st_k hS 10 (by decide)) (show _ = 100 from st_l hS 10 (by decide)) (by omega) (by omega) dX2_fill_52 ?_
            rw [show M1 (a + 10) k.toNat = (V 10 k.toNat) from (congrFun (hV1 10 (by decide) (by decide) (by decide)) k.toNat)]
            refine x_istore_n G [(3, xI (V 10 k.toNat)), (0, xR b), (1, xR a), (2, xI k)] rfl (by decide) rfl dX2_fill_53 ?_
            have hit := ok_i hv hr.1 (by omega)
            refine x_aload_n G 2 rfl rfl dX2_fill_54 ?_
            refine x_get G (xR (a + 5)) xf3_2 lk_X2_60 (st_n hS 0 (by decide)) (st_k hS 0 (by decide)) (Or.inr ⟨rfl, _, (st_r hS 0 2 (by decide) (by decide)), rfl⟩) dX2_fill_55 ?_
            refine x_iload_n G 0 rfl rfl dX2_fill_58 ?_
            refine x_iald G (st_n hS 5 (by decide)) (st_k hS 5 (by decide)) (show _ = 100 from st_l hS 5 (by decide)) (by omega) (by omega) dX2_fill_59 ?_
            rw [show M1 (a + 5) (V 10 k.toNat).toNat = (V 5 (V 10 k.toNat).toNat) from (congrFun (hV1 5 (by decide) (by decide) (by decide)) (V 10 k.toNat).toNat)]
            refine x_istore G [(4, xI (V 5 (V 10 k.toNat).toNat)), (3, xI (V 10 k.toNat)), (0, xR b), (1, xR a), (2, xI k)] (by decide) rfl dX2_fill_60 ?_
            refine x_aload_n G 2 rfl rfl dX2_fill_62 ?_
            refine x_aload_n G 3 rfl rfl dX2_fill_63 ?_
            refine x_iload_n G 1 rfl rfl dX2_fill_64 ?_
            refine x_callVp G [] [xR a, xI (V 10 k.toNat)] rfl (by decide) (sa_n hB 0 (by decide)) (sa_k hB 0 (by decide)) hy_X2_isAskedFor hi_X2_isAskedFor hs_X2_isAskedFor ml_X2_63 rfl rfl (kX2_isAskedFor _ _ b a V s mo t u ou c (V 10 k.toNat) hB hS (by omega) hV1 hv hA1 hset ht (by omega)) (by decide) (by decide) (Nat.le_of_ble_eq_true rfl) dX2_fill_65 ?_
            refine x_if_eq G 116 (by decide) dX2_fill_68 (fun c68 => ?_) (fun c68 => ?_)
            · skip
              have c68 := b2i_eq0.mp c68
              refine x_iinc G [(2, xI (k + 1)), (4, xI (V 5 (V 10 k.toNat).toNat)), (3, xI (V 10 k.toNat)), (0, xR b), (1, xR a)] 4 rfl (by decide) (by omega) rfl dX2_fill_116 ?_
              refine x_goto G 28 (by decide) dX2_fill_119 ?_
              refine x_sub [(0, xR b), (1, xR a), (2, xI (k + 1))] [3, 4, 0] rfl ?_
              exact ih28 _ (by omega) (k + 1) M1 rfl (by omega) (hV1) (hA1) (hx1) (by
        rw [show (k + 1).toNat = k.toNat + 1 by omega, rkl_take (by omega), fil_add]
        first
          | (rw [stp_no (fun h => c68 (of_decide_eq_true h.2.1))]; exact hsm)
          | (rw [stp_no (fun h => by
              have e := hsm.2.2 (V 5 (V 10 k.toNat).toNat).toNat (by omega)
              rw [show (((V 5 (V 10 k.toNat).toNat).toNat : Nat) : Int) = V 5 (V 10 k.toNat).toNat by omega] at e
              have h2 := h.2.2
              have h8 := hA1.2.2.2.2.2
              omega)]; exact hsm))
            · skip
              have c68 := b2i_ne0.mp c68
              refine x_aload_n G 2 rfl rfl dX2_fill_71 ?_
              refine x_get G (xR (b + 2)) xf2_1 lk_X2_15 (sa_n hB 0 (by decide)) (sa_k hB 0 (by decide)) (Or.inr ⟨rfl, _, (sa_r hB 0 1 (by decide) (by decide)), rfl⟩) dX2_fill_72 ?_
              refine x_iload G 0 rfl dX2_fill_75 ?_
              refine x_iald G (sa_n hB 2 (by decide)) (sa_k hB 2 (by decide)) (show _ = 26 from sa_l hB 2 (by decide)) (by omega) (by omega) dX2_fill_77 ?_
              refine x_aload_n G 2 rfl rfl dX2_fill_78 ?_
              refine x_get G (xI (M1 b 8)) xf2_8 lk_X2_51 (sa_n hB 0 (by decide)) (sa_k hB 0 (by decide)) (Or.inl ⟨rfl, rfl⟩) dX2_fill_79 ?_
              refine x_icmp_ge G 116 (by decide) dX2_fill_82 (fun c82 => ?_) (fun c82 => ?_)
              · skip
                refine x_iinc G [(2, xI (k + 1)), (4, xI (V 5 (V 10 k.toNat).toNat)), (3, xI (V 10 k.toNat)), (0, xR b), (1, xR a)] 4 rfl (by decide) (by omega) rfl dX2_fill_116 ?_
                refine x_goto G 28 (by decide) dX2_fill_119 ?_
                refine x_sub [(0, xR b), (1, xR a), (2, xI (k + 1))] [3, 4, 0] rfl ?_
                exact ih28 _ (by omega) (k + 1) M1 rfl (by omega) (hV1) (hA1) (hx1) (by
        rw [show (k + 1).toNat = k.toNat + 1 by omega, rkl_take (by omega), fil_add]
        first
          | (rw [stp_no (fun h => c68 (of_decide_eq_true h.2.1))]; exact hsm)
          | (rw [stp_no (fun h => by
              have e := hsm.2.2 (V 5 (V 10 k.toNat).toNat).toNat (by omega)
              rw [show (((V 5 (V 10 k.toNat).toNat).toNat : Nat) : Int) = V 5 (V 10 k.toNat).toNat by omega] at e
              have h2 := h.2.2
              have h8 := hA1.2.2.2.2.2
              omega)]; exact hsm))
              · skip
                have e5 := hsm.2.2 (V 5 (V 10 k.toNat).toNat).toNat (by omega)
                have e6 := lb1_b V (fil V (fun i => decide (asd V s t u ou i)) mo c ((rkl V).take k.toNat)) ((V 5 (V 10 k.toNat).toNat).toNat : Nat)
                refine x_aload_n G 2 rfl rfl dX2_fill_85 ?_
                refine x_get G (xR (b + 1)) xf2_0 lk_X2_9 (sa_n hB 0 (by decide)) (sa_k hB 0 (by decide)) (Or.inr ⟨rfl, _, (sa_r hB 0 0 (by decide) (by decide)), rfl⟩) dX2_fill_86 ?_
                refine x_aload_n G 2 rfl rfl dX2_fill_89 ?_
                refine x_get G (xI (M1 b 2)) xf2_2 lk_X2_18 (sa_n hB 0 (by decide)) (sa_k hB 0 (by decide)) (Or.inl ⟨rfl, rfl⟩) dX2_fill_90 ?_
                refine x_iload_n G 1 rfl rfl dX2_fill_93 ?_
                refine x_iast G (sa_n hB 1 (by decide)) (sa_k hB 1 (by decide)) (show _ = 100 from sa_l hB 1 (by decide)) (by omega) (by omega) dX2_fill_94 ?_
                refine x_aload_n G 2 rfl rfl dX2_fill_95 ?_
                refine x_dup G rfl dX2_fill_96 ?_
                refine x_get G (xI ((xst M1 (b + 1) (M1 b 2).toNat (V 10 k.toNat)) b 2)) xf2_2 lk_X2_18 (sa_n hB 0 (by decide)) (sa_k hB 0 (by decide)) (Or.inl ⟨rfl, rfl⟩) dX2_fill_97 ?_
                rw [show (xst M1 (b + 1) (M1 b 2).toNat (V 10 k.toNat)) b 2 = (M1 b 2) from (xst_nq (by omega))]
                refine x_iconst G (by decide) dX2_fill_100 ?_
                refine x_iadd G (by omega) dX2_fill_101 ?_
                refine x_put G  xf2_2 lk_X2_18 (sa_n hB 0 (by decide)) (sa_k hB 0 (by decide)) rfl dX2_fill_102 ?_
                refine x_aload_n G 2 rfl rfl dX2_fill_105 ?_
                refine x_get G (xR (b + 2)) xf2_1 lk_X2_15 (sa_n hB 0 (by decide)) (sa_k hB 0 (by decide)) (Or.inr ⟨rfl, _, (sa_r hB 0 1 (by decide) (by decide)), rfl⟩) dX2_fill_106 ?_
                refine x_iload G 0 rfl dX2_fill_109 ?_
                refine x_dup2 G rfl rfl dX2_fill_111 ?_
                refine x_iald G (sa_n hB 2 (by decide)) (sa_k hB 2 (by decide)) (show _ = 26 from sa_l hB 2 (by decide)) (by omega) (by omega) dX2_fill_112 ?_
                rw [show (xst (xst M1 (b + 1) (M1 b 2).toNat (V 10 k.toNat)) b 2 ((M1 b 2) + 1)) (b + 2) (V 5 (V 10 k.toNat).toNat).toNat = (M1 (b + 2) (V 5 (V 10 k.toNat).toNat).toNat) from ((xst_nq (by omega)).trans (xst_nq (by omega)))]
                refine x_iconst G (by decide) dX2_fill_113 ?_
                refine x_iadd G (by omega) dX2_fill_114 ?_
                refine x_iast G (sa_n hB 2 (by decide)) (sa_k hB 2 (by decide)) (show _ = 26 from sa_l hB 2 (by decide)) (by omega) (by omega) dX2_fill_115 ?_
                refine x_iinc G [(2, xI (k + 1)), (4, xI (V 5 (V 10 k.toNat).toNat)), (3, xI (V 10 k.toNat)), (0, xR b), (1, xR a)] 4 rfl (by decide) (by omega) rfl dX2_fill_116 ?_
                refine x_goto G 28 (by decide) dX2_fill_119 ?_
                refine x_sub [(0, xR b), (1, xR a), (2, xI (k + 1))] [3, 4, 0] rfl ?_
                exact ih28 _ (by omega) (k + 1) (xst (xst (xst M1 (b + 1) (M1 b 2).toNat (V 10 k.toNat)) b 2 ((M1 b 2) + 1)) (b + 2) (V 5 (V 10 k.toNat).toNat).toNat ((M1 (b + 2) (V 5 (V 10 k.toNat).toNat).toNat) + 1)) rfl (by omega) ((shw_st (shw_st (shw_st hV1 (by omega)) (by omega)) (by omega))) (by simp [Ask, xst_eq]; exact hA1) (fun q hq => by have h9 := hq; simp at h9; simp (disch := omega) only [xst_row]; exact hx1 q hq) (by
        rw [show (k + 1).toNat = k.toNat + 1 by omega, rkl_take (by omega), fil_add]
        have e := hsm.2.2 (V 5 (V 10 k.toNat).toNat).toNat (by omega)
        rw [show (((V 5 (V 10 k.toNat).toNat).toNat : Nat) : Int) = V 5 (V 10 k.toNat).toNat by omega] at e
        have h8 := hA1.2.2.2.2.2
        have h4 := hA1.2.1
        have h1 := hsm.1
        rw [stp_yes (by omega) (decide_eq_true c68) (by omega)]
        refine smp_in hsm (by simp [xst_eq]) (fun j => by rw [show (((V 10 k.toNat).toNat : Nat) : Int) = V 10 k.toNat by omega]; simp [xst_eq, hsm.1]) (fun q => ?_)
        rw [xst_eq]
        by_cases e2 : q = (V 5 (V 10 k.toNat).toNat).toNat
        · rw [if_pos ⟨rfl, e2⟩, if_pos (by omega), e2]
        · rw [if_neg (fun h => e2 h.2), if_neg (by omega), xst_nq (by omega), xst_nq (by omega)]; omega)
      refine x_sub [(0, xR b), (1, xR a), (2, xI 0)] [1, 2, 0] rfl ?_
      exact loop28 _ 0 M0 rfl (by omega) (hV0) (hA0) (hx0) (show Smp _ b V [] from ⟨h20, fun j hj => absurd hj (Nat.not_lt_zero _), fun q hq => (hz q (by omega)).trans rfl⟩)
    · skip
      refine x_aload_n G 0 rfl rfl dX2_fill_13 ?_
      refine x_get G (xR (b + 2)) xf2_1 lk_X2_15 (sa_n hB 0 (by decide)) (sa_k hB 0 (by decide)) (Or.inr ⟨rfl, _, (sa_r hB 0 1 (by decide) (by decide)), rfl⟩) dX2_fill_14 ?_
      refine x_iload_n G 2 rfl rfl dX2_fill_17 ?_
      refine x_iconst G (by decide) dX2_fill_18 ?_
      refine x_iast G (sa_n hB 2 (by decide)) (sa_k hB 2 (by decide)) (show _ = 26 from sa_l hB 2 (by decide)) (by omega) (by omega) dX2_fill_19 ?_
      refine x_iinc G [(2, xI (k + 1)), (0, xR b), (1, xR a)] 2 rfl (by decide) (by omega) rfl dX2_fill_20 ?_
      refine x_goto G 7 (by decide) dX2_fill_23 ?_
      refine x_sub [(0, xR b), (1, xR a), (2, xI (k + 1))] [1, 2, 0] rfl ?_
      exact ih7 _ (by omega) (k + 1) (xst M0 (b + 2) k.toNat 0) rfl (by omega) ((shw_st hV0 (by omega))) (by simp [Ask, xst_eq]; exact hA0) (by simp [xst_eq]; exact h20) (by intro q hq; rw [xst_eq]; by_cases e : q = k.toNat; rw [if_pos ⟨rfl, e⟩]; rw [if_neg (fun h => e h.2)]; exact hz q (by omega)) (fun q hq => by have h9 := hq; simp at h9; simp (disch := omega) only [xst_row]; exact hx0 q hq)
  refine x_sub [(0, xR b), (1, xR a), (2, xI 0)] [1, 2, 0] rfl ?_
  exact loop7 _ 0 (xst M b 2 0) rfl (by omega) ((shw_st hV (by omega))) (by simp [Ask, xst_eq]; exact hA) (by simp [xst_eq]) (by intro q hq; omega) (fun q hq => by simp at hq; simp (disch := omega) only [xst_row])
def tkL (V : xM) (sh : Int) : List Nat := (fil V (fun i => decide (asd V (2 ^ sh.toNat) (V 0 11) 100 (-1) i)) (V 11 sh.toNat) 100 (rkl V))
set_option maxRecDepth 100000 in
set_option maxHeartbeats 4000000 in
theorem kX2_take (D : xD) (l : Launch) {n : Nat} {T : xT} {M : xM} (b a : Nat) (V : xM) (sh : Int) (hB : SaL n T b) (hS : StL n T a) (hab : a + 13 ≤ b ∨ b + 3 ≤ a) (hV : shw M a V) (hv : VOK V) (hsh : 0 ≤ sh ∧ sh ≤ 3) (hs : Srt V (V 10) (V 0 10).toNat) : xC D l uX2_take 3 69 0 0 [xR b, xR a, xI sh] n T M (xPV n T (fun M2 => Smp M2 b V (tkL V sh) ∧ M2 b 4 = V 11 sh.toNat ∧ xof [b, b + 1, b + 2] M M2)) := by
  refine x_met uX2_take (by decide) (Nat.le_of_ble_eq_true rfl) ?_
  intro Γ G Rt _
  have G : xG Γ RX2 cX2_take 3 3 69 0 0 := G
  have Rt : xRt Γ (xPV n T (fun M2 => Smp M2 b V (tkL V sh) ∧ M2 b 4 = V 11 sh.toNat ∧ xof [b, b + 1, b + 2] M M2)) none 0 0 := Rt
  show xX Γ 0 0 n T 0 [(0, xR b), (1, xR a), (2, xI sh)] [] M
  have hp : (2 : Int) ^ sh.toNat ≤ 8 := by
    have := ipow_mono (show (1 : Int) ≤ 2 by decide) (show sh.toNat ≤ 3 by omega)
    omega
  have hp1 := ipow_pos (show (1 : Int) ≤ 2 by decide) sh.toNat
  have hsc := hv.1
  refine x_aload_n G 0 rfl rfl dX2_take_0 ?_
  refine x_aload_n G 1 rfl rfl dX2_take_1 ?_
  refine x_iload_n G 2 rfl rfl dX2_take_2 ?_
  refine x_callVV G [] [xR a, xI sh] rfl (by decide) (sa_n hB 0 (by decide)) (sa_k hB 0 (by decide)) hy_X2_ask hi_X2_ask hs_X2_ask ml_X2_22 rfl rfl (kX2_ask _ _ b a V sh hB hS (by omega) hV hv (by omega)) (by decide) (by decide) (Nat.le_of_ble_eq_true rfl) dX2_take_3 (fun M3 h3 => ?_)
  refine x_aload_n G 0 rfl rfl dX2_take_6 ?_
  refine x_aload_n G 1 rfl rfl dX2_take_7 ?_
  refine x_callVV G [] [xR a] rfl (by decide) (sa_n hB 0 (by decide)) (sa_k hB 0 (by decide)) hy_X2_fill hi_X2_fill hs_X2_fill ml_X2_26 rfl rfl (kX2_fill _ _ b a V (2 ^ sh.toNat) (V 11 sh.toNat) (V 0 11) 100 (-1) 100 hB hS hab (shw_xof hV h3.2 (by intro k9 h1 h2 h3; simp <;> omega)) hv h3.1 (by omega) (by omega) hs) (by decide) (by decide) (Nat.le_of_ble_eq_true rfl) dX2_take_8 (fun M8 h8 => ?_)
  exact x_vret G Rt dX2_take_11 ⟨rfl, rfl, rfl, ⟨h8.1, h8.2.1.2.1, xof_trans (xof_mono h3.2 (by simp)) h8.2.2⟩⟩
set_option maxRecDepth 100000 in
set_option maxHeartbeats 4000000 in
theorem kX2_kth (D : xD) (l : Launch) {n : Nat} {T : xT} {M : xM} (b : Nat) (V : xM) (L : List Nat) (k : Int) (hB : SaL n T b) (hsm : Smp M b V L) (hl : L.length ≤ 100) : xC D l uX2_kth 0 0 0 0 [xR b, xI k] n T M (xPp n T M (kth L k)) := by
  refine x_met uX2_kth (by decide) (Nat.le_of_ble_eq_true rfl) ?_
  intro Γ G Rt _
  have G : xG Γ RX2 cX2_kth 2 0 0 0 0 := G
  have Rt : xRt Γ (xPp n T M (kth L k)) (some .int) 0 0 := Rt
  show xX Γ 0 0 n T 0 [(0, xR b), (1, xI k)] [] M
  have hn := hsm.1
  refine x_iload_n G 1 rfl rfl dX2_kth_0 ?_
  refine x_iconst G (by decide) dX2_kth_1 ?_
  refine x_icmp_ne G 10 (by decide) dX2_kth_2 (fun c2 => ?_) (fun c2 => ?_)
  · skip
    refine x_iload_n G 1 rfl rfl dX2_kth_10 ?_
    refine x_if_lt G 31 (by decide) dX2_kth_11 (fun c11 => ?_) (fun c11 => ?_)
    · skip
      refine x_bipush G (by decide) dX2_kth_31 ?_
      exact x_iret G Rt dX2_kth_33 ⟨rfl, rfl, congrArg (fun z => some (xI z)) (by unfold kth; rw [if_neg (by omega)]; first | (rw [if_pos (by omega)]; exact hsm.2.1 k.toNat (by omega)) | rw [if_neg (by omega)]), rfl⟩
    · skip
      refine x_iload_n G 1 rfl rfl dX2_kth_14 ?_
      refine x_aload_n G 0 rfl rfl dX2_kth_15 ?_
      refine x_get G (xI (M b 2)) xf2_2 lk_X2_18 (sa_n hB 0 (by decide)) (sa_k hB 0 (by decide)) (Or.inl ⟨rfl, rfl⟩) dX2_kth_16 ?_
      refine x_icmp_ge G 31 (by decide) dX2_kth_19 (fun c19 => ?_) (fun c19 => ?_)
      · skip
        refine x_bipush G (by decide) dX2_kth_31 ?_
        exact x_iret G Rt dX2_kth_33 ⟨rfl, rfl, congrArg (fun z => some (xI z)) (by unfold kth; rw [if_neg (by omega)]; first | (rw [if_pos (by omega)]; exact hsm.2.1 k.toNat (by omega)) | rw [if_neg (by omega)]), rfl⟩
      · skip
        refine x_aload_n G 0 rfl rfl dX2_kth_22 ?_
        refine x_get G (xR (b + 1)) xf2_0 lk_X2_9 (sa_n hB 0 (by decide)) (sa_k hB 0 (by decide)) (Or.inr ⟨rfl, _, (sa_r hB 0 0 (by decide) (by decide)), rfl⟩) dX2_kth_23 ?_
        refine x_iload_n G 1 rfl rfl dX2_kth_26 ?_
        refine x_iald G (sa_n hB 1 (by decide)) (sa_k hB 1 (by decide)) (show _ = 100 from sa_l hB 1 (by decide)) (by omega) (by omega) dX2_kth_27 ?_
        refine x_goto G 33 (by decide) dX2_kth_28 ?_
        exact x_iret G Rt dX2_kth_33 ⟨rfl, rfl, congrArg (fun z => some (xI z)) (by unfold kth; rw [if_neg (by omega)]; first | (rw [if_pos (by omega)]; exact hsm.2.1 k.toNat (by omega)) | rw [if_neg (by omega)]), rfl⟩
  · skip
    refine x_aload_n G 0 rfl rfl dX2_kth_5 ?_
    refine x_get G (xI (M b 2)) xf2_2 lk_X2_18 (sa_n hB 0 (by decide)) (sa_k hB 0 (by decide)) (Or.inl ⟨rfl, rfl⟩) dX2_kth_6 ?_
    exact x_iret G Rt dX2_kth_9 ⟨rfl, rfl, congrArg (fun z => some (xI z)) (by unfold kth; rw [if_pos (by omega)]; exact hn), rfl⟩
set_option maxRecDepth 100000 in
set_option maxHeartbeats 4000000 in
theorem kX2_lastOne (D : xD) (l : Launch) {n : Nat} {T : xT} {M : xM} (b : Nat) (V : xM) (L : List Nat) (hB : SaL n T b) (hsm : Smp M b V L) (hl : L.length ≤ 100) : xC D l uX2_lastOne 0 0 0 0 [xR b] n T M (xPp n T M (lst L)) := by
  refine x_met uX2_lastOne (by decide) (Nat.le_of_ble_eq_true rfl) ?_
  intro Γ G Rt _
  have G : xG Γ RX2 cX2_lastOne 1 0 0 0 0 := G
  have Rt : xRt Γ (xPp n T M (lst L)) (some .int) 0 0 := Rt
  show xX Γ 0 0 n T 0 [(0, xR b)] [] M
  have hn := hsm.1
  refine x_aload_n G 0 rfl rfl dX2_lastOne_0 ?_
  refine x_get G (xI (M b 2)) xf2_2 lk_X2_18 (sa_n hB 0 (by decide)) (sa_k hB 0 (by decide)) (Or.inl ⟨rfl, rfl⟩) dX2_lastOne_1 ?_
  refine x_if_le G 21 (by decide) dX2_lastOne_4 (fun c4 => ?_) (fun c4 => ?_)
  · skip
    refine x_bipush G (by decide) dX2_lastOne_21 ?_
    exact x_iret G Rt dX2_lastOne_23 ⟨rfl, rfl, congrArg (fun z => some (xI z)) (by unfold lst; first | (rw [if_pos (by omega), show L.length - 1 = ((M b 2) - 1).toNat by omega]; exact hsm.2.1 _ (by omega)) | rw [if_neg (by omega)]), rfl⟩
  · skip
    refine x_aload_n G 0 rfl rfl dX2_lastOne_7 ?_
    refine x_get G (xR (b + 1)) xf2_0 lk_X2_9 (sa_n hB 0 (by decide)) (sa_k hB 0 (by decide)) (Or.inr ⟨rfl, _, (sa_r hB 0 0 (by decide) (by decide)), rfl⟩) dX2_lastOne_8 ?_
    refine x_aload_n G 0 rfl rfl dX2_lastOne_11 ?_
    refine x_get G (xI (M b 2)) xf2_2 lk_X2_18 (sa_n hB 0 (by decide)) (sa_k hB 0 (by decide)) (Or.inl ⟨rfl, rfl⟩) dX2_lastOne_12 ?_
    refine x_iconst G (by decide) dX2_lastOne_15 ?_
    refine x_isub G (by omega) dX2_lastOne_16 ?_
    refine x_iald G (sa_n hB 1 (by decide)) (sa_k hB 1 (by decide)) (show _ = 100 from sa_l hB 1 (by decide)) (by omega) (by omega) dX2_lastOne_17 ?_
    refine x_goto G 23 (by decide) dX2_lastOne_18 ?_
    exact x_iret G Rt dX2_lastOne_23 ⟨rfl, rfl, congrArg (fun z => some (xI z)) (by unfold lst; first | (rw [if_pos (by omega), show L.length - 1 = ((M b 2) - 1).toNat by omega]; exact hsm.2.1 _ (by omega)) | rw [if_neg (by omega)]), rfl⟩
set_option maxRecDepth 100000 in
set_option maxHeartbeats 4000000 in
theorem kX2_placeOf (D : xD) (l : Launch) {n : Nat} {T : xT} {M : xM} (b : Nat) (V : xM) (L : List Nat) (i : Int) (hB : SaL n T b) (hsm : Smp M b V L) (hl : L.length ≤ 100) (hi : 0 ≤ i) : xC D l uX2_placeOf 0 0 0 0 [xR b, xI i] n T M (xPp n T M (plc L i.toNat)) := by
  refine x_met uX2_placeOf (by decide) (Nat.le_of_ble_eq_true rfl) ?_
  intro Γ G Rt _
  have G : xG Γ RX2 cX2_placeOf 3 0 0 0 0 := G
  have Rt : xRt Γ (xPp n T M (plc L i.toNat)) (some .int) 0 0 := Rt
  show xX Γ 0 0 n T 0 [(0, xR b), (1, xI i)] [] M
  have hn := hsm.1
  refine x_iconst G (by decide) dX2_placeOf_0 ?_
  refine x_istore_n G [(2, xI 0), (0, xR b), (1, xI i)] rfl (by decide) rfl dX2_placeOf_1 ?_
  have loop2 : ∀ (d : Nat) (k : Int), (L.length - k).toNat = d → (0 ≤ k ∧ k ≤ L.length) → (∀ j : Nat, (j : Int) < k → L.getD j 0 ≠ i.toNat) → xX Γ 0 0 n T 2 [(0, xR b), (1, xI i), (2, xI k)] [] M := by
    intro d
    induction d using Nat.strongRecOn with
    | ind d ih2 =>
    intro k hd2 hk hno
    refine x_iload_n G 2 rfl rfl dX2_placeOf_2 ?_
    refine x_aload_n G 0 rfl rfl dX2_placeOf_3 ?_
    refine x_get G (xI (M b 2)) xf2_2 lk_X2_18 (sa_n hB 0 (by decide)) (sa_k hB 0 (by decide)) (Or.inl ⟨rfl, rfl⟩) dX2_placeOf_4 ?_
    refine x_icmp_ge G 28 (by decide) dX2_placeOf_7 (fun c7 => ?_) (fun c7 => ?_)
    · skip
      refine x_iconst G (by decide) dX2_placeOf_28 ?_
      exact x_iret G Rt dX2_placeOf_29 ⟨rfl, rfl, congrArg (fun z => some (xI z)) ((plc_no (fun j hj => hno j (by omega))).symm), rfl⟩
    · skip
      refine x_aload_n G 0 rfl rfl dX2_placeOf_10 ?_
      refine x_get G (xR (b + 1)) xf2_0 lk_X2_9 (sa_n hB 0 (by decide)) (sa_k hB 0 (by decide)) (Or.inr ⟨rfl, _, (sa_r hB 0 0 (by decide) (by decide)), rfl⟩) dX2_placeOf_11 ?_
      refine x_iload_n G 2 rfl rfl dX2_placeOf_14 ?_
      refine x_iald G (sa_n hB 1 (by decide)) (sa_k hB 1 (by decide)) (show _ = 100 from sa_l hB 1 (by decide)) (by omega) (by omega) dX2_placeOf_15 ?_
      refine x_iload_n G 1 rfl rfl dX2_placeOf_16 ?_
      refine x_icmp_ne G 22 (by decide) dX2_placeOf_17 (fun c17 => ?_) (fun c17 => ?_)
      · skip
        refine x_iinc G [(2, xI (k + 1)), (0, xR b), (1, xI i)] 2 rfl (by decide) (by omega) rfl dX2_placeOf_22 ?_
        refine x_goto G 2 (by decide) dX2_placeOf_25 ?_
        refine x_sub [(0, xR b), (1, xI i), (2, xI (k + 1))] [1, 2, 0] rfl ?_
        exact ih2 _ (by omega) (k + 1) rfl (by omega) (by intro j hj; rcases Int.lt_or_le j k with g | g; exact hno j g; have e : j = k.toNat := (by omega); have := hsm.2.1 k.toNat (by omega); rw [e]; omega)
      · skip
        refine x_iload_n G 2 rfl rfl dX2_placeOf_20 ?_
        exact x_iret G Rt dX2_placeOf_21 ⟨rfl, rfl, congrArg (fun z => some (xI z)) (by rw [plc_at (k := k.toNat) (fun j hj => hno j (by omega)) (by omega) (by have := hsm.2.1 k.toNat (by omega); omega)]; omega), rfl⟩
  refine x_sub [(0, xR b), (1, xI i), (2, xI 0)] [1, 2, 0] rfl ?_
  exact loop2 _ 0 rfl (by omega) (by intro j hj; omega)
set_option maxRecDepth 100000 in
set_option maxHeartbeats 4000000 in
theorem kX2_isLike (D : xD) (l : Launch) {n : Nat} {T : xT} {M : xM} (b c : Nat) (V W : xM) (L K : List Nat) (hB : SaL n T b) (hsm : Smp M b V L) (hl : L.length ≤ 100) (hC : SaL n T c) (hsc : Smp M c W K) (hlc : K.length ≤ 100) : xC D l uX2_isLike 0 0 0 0 [xR b, xR c] n T M (xPp n T M (b2i (L = K))) := by
  refine x_met uX2_isLike (by decide) (Nat.le_of_ble_eq_true rfl) ?_
  intro Γ G Rt _
  have G : xG Γ RX2 cX2_isLike 4 0 0 0 0 := G
  have Rt : xRt Γ (xPp n T M (b2i (L = K))) (some .boolean) 0 0 := Rt
  show xX Γ 0 0 n T 0 [(0, xR b), (1, xR c)] [] M
  have hn := hsm.1
  have hnc := hsc.1
  refine x_aload_n G 0 rfl rfl dX2_isLike_0 ?_
  refine x_get G (xI (M b 2)) xf2_2 lk_X2_18 (sa_n hB 0 (by decide)) (sa_k hB 0 (by decide)) (Or.inl ⟨rfl, rfl⟩) dX2_isLike_1 ?_
  refine x_aload_n G 1 rfl rfl dX2_isLike_4 ?_
  refine x_get G (xI (M c 2)) xf2_2 lk_X2_18 (sa_n hC 0 (by decide)) (sa_k hC 0 (by decide)) (Or.inl ⟨rfl, rfl⟩) dX2_isLike_5 ?_
  refine x_icmp_ne G 15 (by decide) dX2_isLike_8 (fun c8 => ?_) (fun c8 => ?_)
  · skip
    refine x_iconst G (by decide) dX2_isLike_15 ?_
    refine x_istore_n G [(2, xI 0), (0, xR b), (1, xR c)] rfl (by decide) rfl dX2_isLike_16 ?_
    refine x_iconst G (by decide) dX2_isLike_17 ?_
    refine x_istore_n G [(3, xI 0), (2, xI 0), (0, xR b), (1, xR c)] rfl (by decide) rfl dX2_isLike_18 ?_
    have loop19 : ∀ (d : Nat) (k : Int) (like : Int), (L.length + 1 - k + like).toNat = d → (0 ≤ k ∧ k ≤ L.length) → ((like = 1 ∧ L.length = K.length ∧ ∀ j : Nat, (j : Int) < k → L.getD j 0 = K.getD j 0) ∨ (like = 0 ∧ L ≠ K)) → xX Γ 0 0 n T 19 [(0, xR b), (1, xR c), (2, xI like), (3, xI k)] [] M := by
      intro d
      induction d using Nat.strongRecOn with
      | ind d ih19 =>
      intro k like hd19 hk hlk
      refine x_iload_n G 3 rfl rfl dX2_isLike_19 ?_
      refine x_aload_n G 0 rfl rfl dX2_isLike_20 ?_
      refine x_get G (xI (M b 2)) xf2_2 lk_X2_18 (sa_n hB 0 (by decide)) (sa_k hB 0 (by decide)) (Or.inl ⟨rfl, rfl⟩) dX2_isLike_21 ?_
      refine x_icmp_ge G 58 (by decide) dX2_isLike_24 (fun c24 => ?_) (fun c24 => ?_)
      · skip
        refine x_iload_n G 2 rfl rfl dX2_isLike_58 ?_
        exact x_zret G (by omega) Rt dX2_isLike_59 ⟨rfl, rfl, congrArg (fun z => some (xI z)) (by
      rcases hlk with ⟨g1, g2, g3⟩ | ⟨g1, g2⟩
      · rw [g1, b2i_t (list_eq g2 (fun j hj => g3 j (by omega)))]
      · rw [g1, b2i_f g2]), rfl⟩
      · skip
        refine x_iload_n G 2 rfl rfl dX2_isLike_27 ?_
        refine x_if_eq G 58 (by decide) dX2_isLike_28 (fun c28 => ?_) (fun c28 => ?_)
        · skip
          refine x_iload_n G 2 rfl rfl dX2_isLike_58 ?_
          exact x_zret G (by omega) Rt dX2_isLike_59 ⟨rfl, rfl, congrArg (fun z => some (xI z)) (by
      rcases hlk with ⟨g1, g2, g3⟩ | ⟨g1, g2⟩
      · rw [g1, b2i_t (list_eq g2 (fun j hj => g3 j (by omega)))]
      · rw [g1, b2i_f g2]), rfl⟩
        · skip
          refine x_aload_n G 0 rfl rfl dX2_isLike_31 ?_
          refine x_get G (xR (b + 1)) xf2_0 lk_X2_9 (sa_n hB 0 (by decide)) (sa_k hB 0 (by decide)) (Or.inr ⟨rfl, _, (sa_r hB 0 0 (by decide) (by decide)), rfl⟩) dX2_isLike_32 ?_
          refine x_iload_n G 3 rfl rfl dX2_isLike_35 ?_
          refine x_iald G (sa_n hB 1 (by decide)) (sa_k hB 1 (by decide)) (show _ = 100 from sa_l hB 1 (by decide)) (by omega) (by omega) dX2_isLike_36 ?_
          refine x_aload_n G 1 rfl rfl dX2_isLike_37 ?_
          refine x_get G (xR (c + 1)) xf2_0 lk_X2_9 (sa_n hC 0 (by decide)) (sa_k hC 0 (by decide)) (Or.inr ⟨rfl, _, (sa_r hC 0 0 (by decide) (by decide)), rfl⟩) dX2_isLike_38 ?_
          refine x_iload_n G 3 rfl rfl dX2_isLike_41 ?_
          refine x_iald G (sa_n hC 1 (by decide)) (sa_k hC 1 (by decide)) (show _ = 100 from sa_l hC 1 (by decide)) (by omega) (by omega) dX2_isLike_42 ?_
          refine x_icmp_ne G 50 (by decide) dX2_isLike_43 (fun c43 => ?_) (fun c43 => ?_)
          · skip
            refine x_iconst G (by decide) dX2_isLike_50 ?_
            refine x_istore_n G [(2, xI 0), (0, xR b), (1, xR c), (3, xI k)] rfl (by decide) rfl dX2_isLike_51 ?_
            refine x_iinc G [(3, xI (k + 1)), (2, xI 0), (0, xR b), (1, xR c)] 3 rfl (by decide) (by omega) rfl dX2_isLike_52 ?_
            refine x_goto G 19 (by decide) dX2_isLike_55 ?_
            refine x_sub [(0, xR b), (1, xR c), (2, xI 0), (3, xI (k + 1))] [2, 3, 1, 0] rfl ?_
            exact ih19 _ (by omega) (k + 1) 0 rfl (by omega) (by
        rcases hlk with ⟨g1, g2, g3⟩ | ⟨g1, g2⟩
        · have e1 := hsm.2.1 k.toNat (by omega)
          have e2 := hsc.2.1 k.toNat (by omega)
          first
            | exact Or.inr ⟨rfl, fun e => by rw [e] at e1; omega⟩
            | exact Or.inl ⟨rfl, g2, fun j hj => by
                rcases Int.lt_or_le j k with g | g
                · exact g3 j g
                · have e : j = k.toNat := by omega
                  rw [e]; omega⟩
        · omega)
          · skip
            refine x_iconst G (by decide) dX2_isLike_46 ?_
            refine x_goto G 51 (by decide) dX2_isLike_47 ?_
            refine x_istore_n G [(2, xI 1), (0, xR b), (1, xR c), (3, xI k)] rfl (by decide) rfl dX2_isLike_51 ?_
            refine x_iinc G [(3, xI (k + 1)), (2, xI 1), (0, xR b), (1, xR c)] 3 rfl (by decide) (by omega) rfl dX2_isLike_52 ?_
            refine x_goto G 19 (by decide) dX2_isLike_55 ?_
            refine x_sub [(0, xR b), (1, xR c), (2, xI 1), (3, xI (k + 1))] [2, 3, 1, 0] rfl ?_
            exact ih19 _ (by omega) (k + 1) 1 rfl (by omega) (by
        rcases hlk with ⟨g1, g2, g3⟩ | ⟨g1, g2⟩
        · have e1 := hsm.2.1 k.toNat (by omega)
          have e2 := hsc.2.1 k.toNat (by omega)
          first
            | exact Or.inr ⟨rfl, fun e => by rw [e] at e1; omega⟩
            | exact Or.inl ⟨rfl, g2, fun j hj => by
                rcases Int.lt_or_le j k with g | g
                · exact g3 j g
                · have e : j = k.toNat := by omega
                  rw [e]; omega⟩
        · omega)
    refine x_sub [(0, xR b), (1, xR c), (2, xI 0), (3, xI 0)] [2, 3, 1, 0] rfl ?_
    exact loop19 _ 0 0 rfl (by omega) (by first | exact Or.inl ⟨rfl, by omega, fun j hj => by omega⟩ | exact Or.inr ⟨rfl, fun e => by rw [e] at hn; omega⟩)
  · skip
    refine x_iconst G (by decide) dX2_isLike_11 ?_
    refine x_goto G 16 (by decide) dX2_isLike_12 ?_
    refine x_istore_n G [(2, xI 1), (0, xR b), (1, xR c)] rfl (by decide) rfl dX2_isLike_16 ?_
    refine x_iconst G (by decide) dX2_isLike_17 ?_
    refine x_istore_n G [(3, xI 0), (2, xI 1), (0, xR b), (1, xR c)] rfl (by decide) rfl dX2_isLike_18 ?_
    have loop19 : ∀ (d : Nat) (k : Int) (like : Int), (L.length + 1 - k + like).toNat = d → (0 ≤ k ∧ k ≤ L.length) → ((like = 1 ∧ L.length = K.length ∧ ∀ j : Nat, (j : Int) < k → L.getD j 0 = K.getD j 0) ∨ (like = 0 ∧ L ≠ K)) → xX Γ 0 0 n T 19 [(0, xR b), (1, xR c), (2, xI like), (3, xI k)] [] M := by
      intro d
      induction d using Nat.strongRecOn with
      | ind d ih19 =>
      intro k like hd19 hk hlk
      refine x_iload_n G 3 rfl rfl dX2_isLike_19 ?_
      refine x_aload_n G 0 rfl rfl dX2_isLike_20 ?_
      refine x_get G (xI (M b 2)) xf2_2 lk_X2_18 (sa_n hB 0 (by decide)) (sa_k hB 0 (by decide)) (Or.inl ⟨rfl, rfl⟩) dX2_isLike_21 ?_
      refine x_icmp_ge G 58 (by decide) dX2_isLike_24 (fun c24 => ?_) (fun c24 => ?_)
      · skip
        refine x_iload_n G 2 rfl rfl dX2_isLike_58 ?_
        exact x_zret G (by omega) Rt dX2_isLike_59 ⟨rfl, rfl, congrArg (fun z => some (xI z)) (by
      rcases hlk with ⟨g1, g2, g3⟩ | ⟨g1, g2⟩
      · rw [g1, b2i_t (list_eq g2 (fun j hj => g3 j (by omega)))]
      · rw [g1, b2i_f g2]), rfl⟩
      · skip
        refine x_iload_n G 2 rfl rfl dX2_isLike_27 ?_
        refine x_if_eq G 58 (by decide) dX2_isLike_28 (fun c28 => ?_) (fun c28 => ?_)
        · skip
          refine x_iload_n G 2 rfl rfl dX2_isLike_58 ?_
          exact x_zret G (by omega) Rt dX2_isLike_59 ⟨rfl, rfl, congrArg (fun z => some (xI z)) (by
      rcases hlk with ⟨g1, g2, g3⟩ | ⟨g1, g2⟩
      · rw [g1, b2i_t (list_eq g2 (fun j hj => g3 j (by omega)))]
      · rw [g1, b2i_f g2]), rfl⟩
        · skip
          refine x_aload_n G 0 rfl rfl dX2_isLike_31 ?_
          refine x_get G (xR (b + 1)) xf2_0 lk_X2_9 (sa_n hB 0 (by decide)) (sa_k hB 0 (by decide)) (Or.inr ⟨rfl, _, (sa_r hB 0 0 (by decide) (by decide)), rfl⟩) dX2_isLike_32 ?_
          refine x_iload_n G 3 rfl rfl dX2_isLike_35 ?_
          refine x_iald G (sa_n hB 1 (by decide)) (sa_k hB 1 (by decide)) (show _ = 100 from sa_l hB 1 (by decide)) (by omega) (by omega) dX2_isLike_36 ?_
          refine x_aload_n G 1 rfl rfl dX2_isLike_37 ?_
          refine x_get G (xR (c + 1)) xf2_0 lk_X2_9 (sa_n hC 0 (by decide)) (sa_k hC 0 (by decide)) (Or.inr ⟨rfl, _, (sa_r hC 0 0 (by decide) (by decide)), rfl⟩) dX2_isLike_38 ?_
          refine x_iload_n G 3 rfl rfl dX2_isLike_41 ?_
          refine x_iald G (sa_n hC 1 (by decide)) (sa_k hC 1 (by decide)) (show _ = 100 from sa_l hC 1 (by decide)) (by omega) (by omega) dX2_isLike_42 ?_
          refine x_icmp_ne G 50 (by decide) dX2_isLike_43 (fun c43 => ?_) (fun c43 => ?_)
          · skip
            refine x_iconst G (by decide) dX2_isLike_50 ?_
            refine x_istore_n G [(2, xI 0), (0, xR b), (1, xR c), (3, xI k)] rfl (by decide) rfl dX2_isLike_51 ?_
            refine x_iinc G [(3, xI (k + 1)), (2, xI 0), (0, xR b), (1, xR c)] 3 rfl (by decide) (by omega) rfl dX2_isLike_52 ?_
            refine x_goto G 19 (by decide) dX2_isLike_55 ?_
            refine x_sub [(0, xR b), (1, xR c), (2, xI 0), (3, xI (k + 1))] [2, 3, 1, 0] rfl ?_
            exact ih19 _ (by omega) (k + 1) 0 rfl (by omega) (by
        rcases hlk with ⟨g1, g2, g3⟩ | ⟨g1, g2⟩
        · have e1 := hsm.2.1 k.toNat (by omega)
          have e2 := hsc.2.1 k.toNat (by omega)
          first
            | exact Or.inr ⟨rfl, fun e => by rw [e] at e1; omega⟩
            | exact Or.inl ⟨rfl, g2, fun j hj => by
                rcases Int.lt_or_le j k with g | g
                · exact g3 j g
                · have e : j = k.toNat := by omega
                  rw [e]; omega⟩
        · omega)
          · skip
            refine x_iconst G (by decide) dX2_isLike_46 ?_
            refine x_goto G 51 (by decide) dX2_isLike_47 ?_
            refine x_istore_n G [(2, xI 1), (0, xR b), (1, xR c), (3, xI k)] rfl (by decide) rfl dX2_isLike_51 ?_
            refine x_iinc G [(3, xI (k + 1)), (2, xI 1), (0, xR b), (1, xR c)] 3 rfl (by decide) (by omega) rfl dX2_isLike_52 ?_
            refine x_goto G 19 (by decide) dX2_isLike_55 ?_
            refine x_sub [(0, xR b), (1, xR c), (2, xI 1), (3, xI (k + 1))] [2, 3, 1, 0] rfl ?_
            exact ih19 _ (by omega) (k + 1) 1 rfl (by omega) (by
        rcases hlk with ⟨g1, g2, g3⟩ | ⟨g1, g2⟩
        · have e1 := hsm.2.1 k.toNat (by omega)
          have e2 := hsc.2.1 k.toNat (by omega)
          first
            | exact Or.inr ⟨rfl, fun e => by rw [e] at e1; omega⟩
            | exact Or.inl ⟨rfl, g2, fun j hj => by
                rcases Int.lt_or_le j k with g | g
                · exact g3 j g
                · have e : j = k.toNat := by omega
                  rw [e]; omega⟩
        · omega)
    refine x_sub [(0, xR b), (1, xR c), (2, xI 1), (3, xI 0)] [2, 3, 1, 0] rfl ?_
    exact loop19 _ 0 1 rfl (by omega) (by first | exact Or.inl ⟨rfl, by omega, fun j hj => by omega⟩ | exact Or.inr ⟨rfl, fun e => by rw [e] at hn; omega⟩)
