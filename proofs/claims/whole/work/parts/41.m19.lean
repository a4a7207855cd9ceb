abbrev TL (M : xM) (k : Int) (L : List Int) : Prop := M 168 0 = k ∧ M 168 2 = (L.length : Int) ∧ M 168 1 = hrd L k
abbrev tlf (M M2 : xM) : Prop := ∀ q, q ≠ 168 → M2 q = M q
theorem dgp_step {n u v : Int} (h : (u = 10000 ∧ v = 1000) ∨ (u = 1000 ∧ v = 100) ∨ (u = 100 ∧ v = 10) ∨ (u = 10 ∧ v = 1) ∨ (u = 1 ∧ v = 0)) : dgp n v = dgp n u ++ dg1 n u := by
  rcases h with ⟨rfl, rfl⟩ | ⟨rfl, rfl⟩ | ⟨rfl, rfl⟩ | ⟨rfl, rfl⟩ | ⟨rfl, rfl⟩ <;> simp [dgp]
theorem tlf_refl (M : xM) : tlf M M := fun _ _ => rfl
theorem tlf_tr {M M1 M2 : xM} (h : tlf M M1) (h2 : tlf M1 M2) : tlf M M2 := fun q hq => (h2 q hq).trans (h q hq)
set_option maxRecDepth 100000 in
set_option maxHeartbeats 4000000 in
theorem kX5_tellByte (D : xD) (l : Launch) {n : Nat} {T : xT} {M : xM} (k : Int) (L : List Int) (c : Int) (hY : LayOK n T) (hL : TL M k L) (hl : L.length ≤ 900000) : xC D l uX5_tellByte 0 0 0 0 [xR 168, xI c] n T M (xPV n T (fun M2 => TL M2 k (L ++ [c]) ∧ tlf M M2)) := by
  refine x_met uX5_tellByte (by decide) (Nat.le_of_ble_eq_true rfl) ?_
  intro Γ G Rt _
  have G : xG Γ RX5 cX5_tellByte 2 0 0 0 0 := G
  have Rt : xRt Γ (xPV n T (fun M2 => TL M2 k (L ++ [c]) ∧ tlf M M2)) none 0 0 := Rt
  show xX Γ 0 0 n T 0 [(0, xR 168), (1, xI c)] [] M
  obtain ⟨hL0, hL2, hL1⟩ := hL
  refine x_aload_n G 0 rfl rfl dX5_tellByte_0 ?_
  refine x_get G (xI (M 168 2)) xf5_2 lk_X5_18 (ly_n hY 168 (by decide)) (ly_k hY 168 (by decide)) (Or.inl ⟨rfl, rfl⟩) dX5_tellByte_1 ?_
  refine x_aload_n G 0 rfl rfl dX5_tellByte_4 ?_
  refine x_get G (xI (M 168 0)) xf5_0 lk_X5_9 (ly_n hY 168 (by decide)) (ly_k hY 168 (by decide)) (Or.inl ⟨rfl, rfl⟩) dX5_tellByte_5 ?_
  refine x_icmp_ne G 16 (by decide) dX5_tellByte_8 (fun c8 => ?_) (fun c8 => ?_)
  · skip
    refine x_aload_n G 0 rfl rfl dX5_tellByte_16 ?_
    refine x_dup G rfl dX5_tellByte_17 ?_
    refine x_get G (xI (M 168 2)) xf5_2 lk_X5_18 (ly_n hY 168 (by decide)) (ly_k hY 168 (by decide)) (Or.inl ⟨rfl, rfl⟩) dX5_tellByte_18 ?_
    refine x_iconst G (by decide) dX5_tellByte_21 ?_
    refine x_iadd G (by omega) dX5_tellByte_22 ?_
    refine x_put G  xf5_2 lk_X5_18 (ly_n hY 168 (by decide)) (ly_k hY 168 (by decide)) rfl dX5_tellByte_23 ?_
    exact x_vret G Rt dX5_tellByte_26 ⟨rfl, rfl, rfl, ⟨⟨by simp [xst_eq]; exact hL0, by simp [xst_eq]; omega, by rw [hrd_add]; rw [if_neg (by omega)]; simp [xst_eq]; exact hL1⟩, fun q hq => by simp (disch := omega) only [xst_row]⟩⟩
  · skip
    refine x_aload_n G 0 rfl rfl dX5_tellByte_11 ?_
    refine x_iload_n G 1 rfl rfl dX5_tellByte_12 ?_
    refine x_put G  xf5_1 lk_X5_15 (ly_n hY 168 (by decide)) (ly_k hY 168 (by decide)) rfl dX5_tellByte_13 ?_
    refine x_aload_n G 0 rfl rfl dX5_tellByte_16 ?_
    refine x_dup G rfl dX5_tellByte_17 ?_
    refine x_get G (xI ((xst M 168 1 c) 168 2)) xf5_2 lk_X5_18 (ly_n hY 168 (by decide)) (ly_k hY 168 (by decide)) (Or.inl ⟨rfl, rfl⟩) dX5_tellByte_18 ?_
    rw [show (xst M 168 1 c) 168 2 = (M 168 2) from (xst_nq (by omega))]
    refine x_iconst G (by decide) dX5_tellByte_21 ?_
    refine x_iadd G (by omega) dX5_tellByte_22 ?_
    refine x_put G  xf5_2 lk_X5_18 (ly_n hY 168 (by decide)) (ly_k hY 168 (by decide)) rfl dX5_tellByte_23 ?_
    exact x_vret G Rt dX5_tellByte_26 ⟨rfl, rfl, rfl, ⟨⟨by simp [xst_eq]; exact hL0, by simp [xst_eq]; omega, by rw [hrd_add]; rw [if_pos (by omega)]; simp [xst_eq]⟩, fun q hq => by simp (disch := omega) only [xst_row]⟩⟩
set_option maxRecDepth 100000 in
set_option maxHeartbeats 4000000 in
theorem kX5_tellNumber (D : xD) (l : Launch) {n : Nat} {T : xT} {M : xM} (k : Int) (L : List Int) (c : Int) (hY : LayOK n T) (hL : TL M k L) (hl : L.length ≤ 900000) (hl9 : L.length ≤ 890000) (hc : 0 ≤ c ∧ c < 100000) : xC D l uX5_tellNumber 1 21 0 0 [xR 168, xI c] n T M (xPV n T (fun M2 => TL M2 k (numT L c) ∧ tlf M M2)) := by
  refine x_met uX5_tellNumber (by decide) (Nat.le_of_ble_eq_true rfl) ?_
  intro Γ G Rt _
  have G : xG Γ RX5 cX5_tellNumber 3 1 21 0 0 := G
  have Rt : xRt Γ (xPV n T (fun M2 => TL M2 k (numT L c) ∧ tlf M M2)) none 0 0 := Rt
  show xX Γ 0 0 n T 0 [(0, xR 168), (1, xI c)] [] M
  refine x_aload_n G 0 rfl rfl dX5_tellNumber_0 ?_
  refine x_bipush G (by decide) dX5_tellNumber_1 ?_
  refine x_callVV G [] [xI 32] rfl (by decide) (ly_n hY 168 (by decide)) (ly_k hY 168 (by decide)) hy_X5_tellByte hi_X5_tellByte hs_X5_tellByte ml_X5_75 rfl rfl (kX5_tellByte _ _ k L 32 hY hL hl) (by decide) (by decide) (Nat.le_of_ble_eq_true rfl) dX5_tellNumber_3 (fun M3 h3 => ?_)
  have hn3 : ((L ++ [32])).length ≤ (L).length + 1 := (by rw [List.length_append]; exact Nat.le_refl _)
  refine x_sipush G (by decide) dX5_tellNumber_6 ?_
  refine x_istore_n G [(2, xI 10000), (0, xR 168), (1, xI c)] rfl (by decide) rfl dX5_tellNumber_9 ?_
  have loop10 : ∀ (d : Nat) (u : Int) (M1 : xM), u.toNat = d → (u = 10000 ∨ u = 1000 ∨ u = 100 ∨ u = 10 ∨ u = 1 ∨ u = 0) → (TL M1 k (L ++ [32] ++ dgp c u)) → (tlf M M1) → xX Γ 0 0 n T 10 [(0, xR 168), (1, xI c), (2, xI u)] [] M1 := by
    intro d
    induction d using Nat.strongRecOn with
    | ind d ih10 =>
    intro u M1 hd10 hu hT1 hf1
    skip
    refine x_iload_n G 2 rfl rfl dX5_tellNumber_10 ?_
    refine x_if_le G 45 (by decide) dX5_tellNumber_11 (fun c11 => ?_) (fun c11 => ?_)
    · skip
      exact x_vret G Rt dX5_tellNumber_45 ⟨rfl, rfl, rfl, ⟨by have h9 := hT1; rw [show u = 0 by omega] at h9; exact h9, hf1⟩⟩
    · skip
      refine x_iload_n G 1 rfl rfl dX5_tellNumber_14 ?_
      refine x_iload_n G 2 rfl rfl dX5_tellNumber_15 ?_
      refine x_icmp_ge G 24 (by decide) dX5_tellNumber_16 (fun c16 => ?_) (fun c16 => ?_)
      · skip
        refine x_aload_n G 0 rfl rfl dX5_tellNumber_24 ?_
        refine x_bipush G (by decide) dX5_tellNumber_25 ?_
        refine x_iload_n G 1 rfl rfl dX5_tellNumber_27 ?_
        refine x_iload_n G 2 rfl rfl dX5_tellNumber_28 ?_
        have hcu : 0 ≤ c / u ∧ c / u < 100000 := by (rcases hu with h | h | h | h | h | h <;> subst h <;> omega)
        refine x_idiv G (c / u) (x_nz (by omega) ⟨by omega, by omega⟩) (x_div' hc.1 ⟨by omega, by omega⟩ (by omega) ⟨by omega, by omega⟩) (by omega) dX5_tellNumber_29 ?_
        refine x_bipush G (by decide) dX5_tellNumber_30 ?_
        refine x_irem G (c / u % 10) (x_nz (by decide) (by decide)) (x_rem' hcu.1 ⟨by omega, by omega⟩ (by decide) (by decide)) (by omega) dX5_tellNumber_32 ?_
        refine x_iadd G (by omega) dX5_tellNumber_33 ?_
        refine x_callVV G [] [xI (48 + (c / u % 10))] rfl (by decide) (ly_n hY 168 (by decide)) (ly_k hY 168 (by decide)) hy_X5_tellByte hi_X5_tellByte hs_X5_tellByte ml_X5_75 rfl rfl (kX5_tellByte _ _ k (L ++ [32] ++ dgp c u) (48 + (c / u % 10)) hY hT1 (by have := dgp_len c u; simp only [List.length_append, List.length_cons, List.length_nil]; omega)) (by decide) (by decide) (Nat.le_of_ble_eq_true rfl) dX5_tellNumber_34 (fun M34 h34 => ?_)
        have hn34 : (((L ++ [32] ++ dgp c u) ++ [(48 + (c / u % 10))])).length ≤ ((L ++ [32] ++ dgp c u)).length + 1 := (by rw [List.length_append]; exact Nat.le_refl _)
        refine x_iload_n G 2 rfl rfl dX5_tellNumber_37 ?_
        refine x_bipush G (by decide) dX5_tellNumber_38 ?_
        refine x_idiv G (u / 10) (x_nz (by decide) (by decide)) (x_div' (by omega) ⟨by omega, by omega⟩ (by decide) (by decide)) (by omega) dX5_tellNumber_40 ?_
        refine x_istore_n G [(2, xI (u / 10)), (0, xR 168), (1, xI c)] rfl (by decide) rfl dX5_tellNumber_41 ?_
        refine x_goto G 10 (by decide) dX5_tellNumber_42 ?_
        refine x_sub [(0, xR 168), (1, xI c), (2, xI (u / 10))] [1, 2, 0] rfl ?_
        exact ih10 _ (by omega) (u / 10) M34 rfl (by omega) ((by rw [dgp_step (u := u) (v := u / 10) (by omega)]; rw [show dg1 c u = [48 + c / u % 10] from if_pos (by omega)]; rw [← List.append_assoc]; exact h34.1)) ((tlf_tr hf1 (fun q9 g9 => h34.2 q9 (by omega))))
      · skip
        refine x_iload_n G 2 rfl rfl dX5_tellNumber_19 ?_
        refine x_iconst G (by decide) dX5_tellNumber_20 ?_
        refine x_icmp_ne G 37 (by decide) dX5_tellNumber_21 (fun c21 => ?_) (fun c21 => ?_)
        · skip
          refine x_iload_n G 2 rfl rfl dX5_tellNumber_37 ?_
          refine x_bipush G (by decide) dX5_tellNumber_38 ?_
          refine x_idiv G (u / 10) (x_nz (by decide) (by decide)) (x_div' (by omega) ⟨by omega, by omega⟩ (by decide) (by decide)) (by omega) dX5_tellNumber_40 ?_
          refine x_istore_n G [(2, xI (u / 10)), (0, xR 168), (1, xI c)] rfl (by decide) rfl dX5_tellNumber_41 ?_
          refine x_goto G 10 (by decide) dX5_tellNumber_42 ?_
          refine x_sub [(0, xR 168), (1, xI c), (2, xI (u / 10))] [1, 2, 0] rfl ?_
          exact ih10 _ (by omega) (u / 10) M1 rfl (by omega) ((by rw [dgp_step (u := u) (v := u / 10) (by omega)]; rw [show dg1 c u = [] from if_neg (by omega), List.append_nil]; exact hT1)) (hf1)
        · skip
          refine x_aload_n G 0 rfl rfl dX5_tellNumber_24 ?_
          refine x_bipush G (by decide) dX5_tellNumber_25 ?_
          refine x_iload_n G 1 rfl rfl dX5_tellNumber_27 ?_
          refine x_iload_n G 2 rfl rfl dX5_tellNumber_28 ?_
          have hcu : 0 ≤ c / u ∧ c / u < 100000 := by (rcases hu with h | h | h | h | h | h <;> subst h <;> omega)
          refine x_idiv G (c / u) (x_nz (by omega) ⟨by omega, by omega⟩) (x_div' hc.1 ⟨by omega, by omega⟩ (by omega) ⟨by omega, by omega⟩) (by omega) dX5_tellNumber_29 ?_
          refine x_bipush G (by decide) dX5_tellNumber_30 ?_
          refine x_irem G (c / u % 10) (x_nz (by decide) (by decide)) (x_rem' hcu.1 ⟨by omega, by omega⟩ (by decide) (by decide)) (by omega) dX5_tellNumber_32 ?_
          refine x_iadd G (by omega) dX5_tellNumber_33 ?_
          refine x_callVV G [] [xI (48 + (c / u % 10))] rfl (by decide) (ly_n hY 168 (by decide)) (ly_k hY 168 (by decide)) hy_X5_tellByte hi_X5_tellByte hs_X5_tellByte ml_X5_75 rfl rfl (kX5_tellByte _ _ k (L ++ [32] ++ dgp c u) (48 + (c / u % 10)) hY hT1 (by have := dgp_len c u; simp only [List.length_append, List.length_cons, List.length_nil]; omega)) (by decide) (by decide) (Nat.le_of_ble_eq_true rfl) dX5_tellNumber_34 (fun M34 h34 => ?_)
          have hn34 : (((L ++ [32] ++ dgp c u) ++ [(48 + (c / u % 10))])).length ≤ ((L ++ [32] ++ dgp c u)).length + 1 := (by rw [List.length_append]; exact Nat.le_refl _)
          refine x_iload_n G 2 rfl rfl dX5_tellNumber_37 ?_
          refine x_bipush G (by decide) dX5_tellNumber_38 ?_
          refine x_idiv G (u / 10) (x_nz (by decide) (by decide)) (x_div' (by omega) ⟨by omega, by omega⟩ (by decide) (by decide)) (by omega) dX5_tellNumber_40 ?_
          refine x_istore_n G [(2, xI (u / 10)), (0, xR 168), (1, xI c)] rfl (by decide) rfl dX5_tellNumber_41 ?_
          refine x_goto G 10 (by decide) dX5_tellNumber_42 ?_
          refine x_sub [(0, xR 168), (1, xI c), (2, xI (u / 10))] [1, 2, 0] rfl ?_
          exact ih10 _ (by omega) (u / 10) M34 rfl (by omega) ((by rw [dgp_step (u := u) (v := u / 10) (by omega)]; rw [show dg1 c u = [48 + c / u % 10] from if_pos (by omega)]; rw [← List.append_assoc]; exact h34.1)) ((tlf_tr hf1 (fun q9 g9 => h34.2 q9 (by omega))))
  refine x_sub [(0, xR 168), (1, xI c), (2, xI 10000)] [1, 2, 0] rfl ?_
  exact loop10 _ 10000 M3 rfl (by omega) ((by rw [show dgp c 10000 = [] from rfl, List.append_nil]; exact h3.1)) ((tlf_tr (tlf_refl _) (fun q9 g9 => h3.2 q9 (by omega))))
theorem q0_len (L : List Int) : (if 0 < L.length then L ++ [59] else L).length ≤ L.length + 1 := by
  split
  · simp
  · omega
theorem take_one {bs : List Int} {j : Int} (h0 : 0 ≤ j) (h : j < bs.length) : bs.take (j + 1).toNat = bs.take j.toNat ++ [bs.getD j.toNat 0] := by
  rw [show (j + 1).toNat = j.toNat + 1 by omega, List.take_succ]
  have e : bs[j.toNat]? = some (bs.getD j.toNat 0) := by simp [List.getD, show j.toNat < bs.length by omega]
  rw [e]; rfl
set_option maxRecDepth 100000 in
set_option maxHeartbeats 4000000 in
theorem kX5_tellWord (D : xD) (l : Launch) {n : Nat} {T : xT} {M : xM} (k : Int) (L : List Int) (si : Nat) (bs : List Int) (hY : LayOK n T) (hL : TL M k L) (hl : L.length ≤ 900000) (hl9 : L.length ≤ 890000) (hi : strI si bs) : xC D l uX5_tellWord 4 85 0 0 [xR 168, xR (1000000 + si)] n T M (xPV n T (fun M2 => TL M2 k (wrdT L bs) ∧ tlf M M2)) := by
  refine x_met uX5_tellWord (by decide) (Nat.le_of_ble_eq_true rfl) ?_
  intro Γ G Rt _
  have G : xG Γ RX5 cX5_tellWord 3 4 85 0 0 := G
  have Rt : xRt Γ (xPV n T (fun M2 => TL M2 k (wrdT L bs) ∧ tlf M M2)) none 0 0 := Rt
  show xX Γ 0 0 n T 0 [(0, xR 168), (1, xR (1000000 + si))] [] M
  have hsb := str_b hi
  have hL2 := hL.2.1
  refine x_aload_n G 0 rfl rfl dX5_tellWord_0 ?_
  refine x_get G (xI (M 168 2)) xf5_2 lk_X5_18 (ly_n hY 168 (by decide)) (ly_k hY 168 (by decide)) (Or.inl ⟨rfl, rfl⟩) dX5_tellWord_1 ?_
  refine x_if_le G 13 (by decide) dX5_tellWord_4 (fun c4 => ?_) (fun c4 => ?_)
  · skip
    refine x_iconst G (by decide) dX5_tellWord_13 ?_
    refine x_istore_n G [(2, xI 0), (0, xR 168), (1, xR (1000000 + si))] rfl (by decide) rfl dX5_tellWord_14 ?_
    have loop15 : ∀ (d : Nat) (j : Int) (M1 : xM), (bs.length - j).toNat = d → (0 ≤ j ∧ j ≤ bs.length) → (TL M1 k ((if 0 < L.length then L ++ [59] else L) ++ bs.take j.toNat)) → (tlf M M1) → xX Γ 0 0 n T 15 [(0, xR 168), (1, xR (1000000 + si)), (2, xI j)] [] M1 := by
      intro d
      induction d using Nat.strongRecOn with
      | ind d ih15 =>
      intro j M1 hd15 hj hT1 hf1
      have hbj : 0 ≤ j := hj.1
      refine x_iload_n G 2 rfl rfl dX5_tellWord_15 ?_
      refine x_aload_n G 1 rfl rfl dX5_tellWord_16 ?_
      refine x_callStr G [xI j] [] hi rfl hy_J0_length_8abf5 hi_J0_length_8abf5 hs_J0_length_8abf5 ml_X5_95 rfl rfl (kJ0_length_8abf5 _ _ si bs hi) (by decide) (by decide) (Nat.le_of_ble_eq_true rfl) dX5_tellWord_17 ?_
      refine x_icmp_ge G 38 (by decide) dX5_tellWord_20 (fun c20 => ?_) (fun c20 => ?_)
      · skip
        exact x_vret G Rt dX5_tellWord_38 ⟨rfl, rfl, rfl, ⟨by have h9 := hT1; rw [List.take_of_length_le (by omega)] at h9; exact h9, hf1⟩⟩
      · skip
        refine x_aload_n G 0 rfl rfl dX5_tellWord_23 ?_
        refine x_aload_n G 1 rfl rfl dX5_tellWord_24 ?_
        refine x_iload_n G 2 rfl rfl dX5_tellWord_25 ?_
        refine x_callStr G [xR 168] [xI j] hi rfl hy_J0_charAt_5068e hi_J0_charAt_5068e hs_J0_charAt_5068e ml_X5_100 rfl rfl (kJ0_charAt_5068e _ _ si bs j hi (by omega) (by omega)) (by decide) (by decide) (Nat.le_of_ble_eq_true rfl) dX5_tellWord_26 ?_
        refine x_callVV G [] [xI (bs.getD j.toNat 0)] rfl (by decide) (ly_n hY 168 (by decide)) (ly_k hY 168 (by decide)) hy_X5_tellByte hi_X5_tellByte hs_X5_tellByte ml_X5_75 rfl rfl (kX5_tellByte _ _ k ((if 0 < L.length then L ++ [59] else L) ++ bs.take j.toNat) (bs.getD j.toNat 0) hY hT1 (by have := q0_len L; have := List.length_take_le j.toNat bs; rw [List.length_append]; omega)) (by decide) (by decide) (Nat.le_of_ble_eq_true rfl) dX5_tellWord_29 (fun M29 h29 => ?_)
        have hn29 : ((((if 0 < L.length then L ++ [59] else L) ++ bs.take j.toNat) ++ [(bs.getD j.toNat 0)])).length ≤ (((if 0 < L.length then L ++ [59] else L) ++ bs.take j.toNat)).length + 1 := (by rw [List.length_append]; exact Nat.le_refl _)
        refine x_iinc G [(2, xI (j + 1)), (0, xR 168), (1, xR (1000000 + si))] 2 rfl (by decide) (by omega) rfl dX5_tellWord_32 ?_
        refine x_goto G 15 (by decide) dX5_tellWord_35 ?_
        refine x_sub [(0, xR 168), (1, xR (1000000 + si)), (2, xI (j + 1))] [1, 2, 0] rfl ?_
        exact ih15 _ (by omega) (j + 1) M29 rfl (by omega) ((by rw [take_one hj.1 (by omega), ← List.append_assoc]; exact h29.1)) ((tlf_tr hf1 (fun q9 g9 => h29.2 q9 (by omega))))
    refine x_sub [(0, xR 168), (1, xR (1000000 + si)), (2, xI 0)] [1, 2, 0] rfl ?_
    exact loop15 _ 0 M rfl (by omega) ((by rw [show bs.take (0 : Int).toNat = [] from rfl, List.append_nil]; rw [if_neg (by omega)]; exact hL)) ((tlf_refl _))
  · skip
    refine x_aload_n G 0 rfl rfl dX5_tellWord_7 ?_
    refine x_bipush G (by decide) dX5_tellWord_8 ?_
    refine x_callVV G [] [xI 59] rfl (by decide) (ly_n hY 168 (by decide)) (ly_k hY 168 (by decide)) hy_X5_tellByte hi_X5_tellByte hs_X5_tellByte ml_X5_75 rfl rfl (kX5_tellByte _ _ k L 59 hY hL hl) (by decide) (by decide) (Nat.le_of_ble_eq_true rfl) dX5_tellWord_10 (fun M10 h10 => ?_)
    have hn10 : ((L ++ [59])).length ≤ (L).length + 1 := (by rw [List.length_append]; exact Nat.le_refl _)
    refine x_iconst G (by decide) dX5_tellWord_13 ?_
    refine x_istore_n G [(2, xI 0), (0, xR 168), (1, xR (1000000 + si))] rfl (by decide) rfl dX5_tellWord_14 ?_
    have loop15 : ∀ (d : Nat) (j : Int) (M1 : xM), (bs.length - j).toNat = d → (0 ≤ j ∧ j ≤ bs.length) → (TL M1 k ((if 0 < L.length then L ++ [59] else L) ++ bs.take j.toNat)) → (tlf M M1) → xX Γ 0 0 n T 15 [(0, xR 168), (1, xR (1000000 + si)), (2, xI j)] [] M1 := by
      intro d
      induction d using Nat.strongRecOn with
      | ind d ih15 =>
      intro j M1 hd15 hj hT1 hf1
      have hbj : 0 ≤ j := hj.1
      refine x_iload_n G 2 rfl rfl dX5_tellWord_15 ?_
      refine x_aload_n G 1 rfl rfl dX5_tellWord_16 ?_
      refine x_callStr G [xI j] [] hi rfl hy_J0_length_8abf5 hi_J0_length_8abf5 hs_J0_length_8abf5 ml_X5_95 rfl rfl (kJ0_length_8abf5 _ _ si bs hi) (by decide) (by decide) (Nat.le_of_ble_eq_true rfl) dX5_tellWord_17 ?_
      refine x_icmp_ge G 38 (by decide) dX5_tellWord_20 (fun c20 => ?_) (fun c20 => ?_)
      · skip
        exact x_vret G Rt dX5_tellWord_38 ⟨rfl, rfl, rfl, ⟨by have h9 := hT1; rw [List.take_of_length_le (by omega)] at h9; exact h9, hf1⟩⟩
      · skip
        refine x_aload_n G 0 rfl rfl dX5_tellWord_23 ?_
        refine x_aload_n G 1 rfl rfl dX5_tellWord_24 ?_
        refine x_iload_n G 2 rfl rfl dX5_tellWord_25 ?_
        refine x_callStr G [xR 168] [xI j] hi rfl hy_J0_charAt_5068e hi_J0_charAt_5068e hs_J0_charAt_5068e ml_X5_100 rfl rfl (kJ0_charAt_5068e _ _ si bs j hi (by omega) (by omega)) (by decide) (by decide) (Nat.le_of_ble_eq_true rfl) dX5_tellWord_26 ?_
        refine x_callVV G [] [xI (bs.getD j.toNat 0)] rfl (by decide) (ly_n hY 168 (by decide)) (ly_k hY 168 (by decide)) hy_X5_tellByte hi_X5_tellByte hs_X5_tellByte ml_X5_75 rfl rfl (kX5_tellByte _ _ k ((if 0 < L.length then L ++ [59] else L) ++ bs.take j.toNat) (bs.getD j.toNat 0) hY hT1 (by have := q0_len L; have := List.length_take_le j.toNat bs; rw [List.length_append]; omega)) (by decide) (by decide) (Nat.le_of_ble_eq_true rfl) dX5_tellWord_29 (fun M29 h29 => ?_)
        have hn29 : ((((if 0 < L.length then L ++ [59] else L) ++ bs.take j.toNat) ++ [(bs.getD j.toNat 0)])).length ≤ (((if 0 < L.length then L ++ [59] else L) ++ bs.take j.toNat)).length + 1 := (by rw [List.length_append]; exact Nat.le_refl _)
        refine x_iinc G [(2, xI (j + 1)), (0, xR 168), (1, xR (1000000 + si))] 2 rfl (by decide) (by omega) rfl dX5_tellWord_32 ?_
        refine x_goto G 15 (by decide) dX5_tellWord_35 ?_
        refine x_sub [(0, xR 168), (1, xR (1000000 + si)), (2, xI (j + 1))] [1, 2, 0] rfl ?_
        exact ih15 _ (by omega) (j + 1) M29 rfl (by omega) ((by rw [take_one hj.1 (by omega), ← List.append_assoc]; exact h29.1)) ((tlf_tr hf1 (fun q9 g9 => h29.2 q9 (by omega))))
    refine x_sub [(0, xR 168), (1, xR (1000000 + si)), (2, xI 0)] [1, 2, 0] rfl ?_
    exact loop15 _ 0 M10 rfl (by omega) ((by rw [show bs.take (0 : Int).toNat = [] from rfl, List.append_nil]; rw [if_pos (by omega)]; exact h10.1)) ((tlf_tr (tlf_refl _) (fun q9 g9 => h10.2 q9 (by omega))))
set_option maxRecDepth 100000 in
set_option maxHeartbeats 4000000 in
theorem kX5_tellWaits (D : xD) (l : Launch) {n : Nat} {T : xT} {M : xM} (k : Int) (L : List Int) (t : Int) (hY : LayOK n T) (hL : TL M k L) (hl : L.length ≤ 900000) (ht : 0 ≤ t ∧ t ≤ 99999) (hl2 : L.length ≤ 800000) : xC D l uX5_tellWaits 5 107 0 0 [xR 168, xI t] n T M (xPV n T (fun M2 => TL M2 k (twn 12 L t) ∧ tlf M M2)) := by
  refine x_met uX5_tellWaits (by decide) (Nat.le_of_ble_eq_true rfl) ?_
  intro Γ G Rt _
  have G : xG Γ RX5 cX5_tellWaits 3 5 107 0 0 := G
  have Rt : xRt Γ (xPV n T (fun M2 => TL M2 k (twn 12 L t) ∧ tlf M M2)) none 0 0 := Rt
  show xX Γ 0 0 n T 0 [(0, xR 168), (1, xI t)] [] M
  refine x_iload_n G 1 rfl rfl dX5_tellWaits_0 ?_
  refine x_istore_n G [(2, xI t), (0, xR 168), (1, xI t)] rfl (by decide) rfl dX5_tellWaits_1 ?_
  have loop2 : ∀ (d : Nat) (r : Int) (f : Nat) (L1 : List Int) (M1 : xM), (r + 9999).toNat = d → (-9999 ≤ r ∧ r ≤ 9999 * ((f : Int) - 1) ∧ f ≤ 12) → (twn 12 L t = twn f L1 r) → (L1.length ≤ 800000 + 20 * (12 - f)) → (TL M1 k L1) → (tlf M M1) → xX Γ 0 0 n T 2 [(0, xR 168), (1, xI t), (2, xI r)] [] M1 := by
    intro d
    induction d using Nat.strongRecOn with
    | ind d ih2 =>
    intro r f L1 M1 hd2 hr htw hl1 hT1 hf1
    skip
    refine x_iload_n G 2 rfl rfl dX5_tellWaits_2 ?_
    refine x_if_le G 32 (by decide) dX5_tellWaits_3 (fun c3 => ?_) (fun c3 => ?_)
    · skip
      exact x_vret G Rt dX5_tellWaits_32 ⟨rfl, rfl, rfl, ⟨by rw [htw]; (have e9 : twn f L1 r = L1 := by (cases f with | zero => rfl | succ g => (show (if 0 < r then _ else _) = _; rw [if_neg (by omega)]))); rw [e9]; exact hT1, hf1⟩⟩
    · skip
      refine x_aload_n G 0 rfl rfl dX5_tellWaits_6 ?_
      refine x_ldcS G (i := 9) rfl dX5_tellWaits_7 ?_
      refine x_callVV G [] [xR (1000000 + 9)] rfl (by decide) (ly_n hY 168 (by decide)) (ly_k hY 168 (by decide)) hy_X5_tellWord hi_X5_tellWord hs_X5_tellWord ml_X5_51 rfl rfl (kX5_tellWord _ _ k L1 9 wWait hY hT1 (by omega) (by omega) ⟨_, _, _, rfl⟩) (by decide) (by decide) (Nat.le_of_ble_eq_true rfl) dX5_tellWaits_9 (fun M9 h9 => ?_)
      have hn9 : ((wrdT L1 wWait)).length ≤ (L1).length + 7 := Nat.le_trans (wrdT_len _ _) (by rw [Nat.add_assoc]; exact Nat.add_le_add_left (by decide) _)
      refine x_aload_n G 0 rfl rfl dX5_tellWaits_12 ?_
      refine x_iload_n G 2 rfl rfl dX5_tellWaits_13 ?_
      refine x_sipush G (by decide) dX5_tellWaits_14 ?_
      refine x_min G ml_X5_89 stat_min ini_Math code_min (by decide) (by decide) (Nat.le_of_ble_eq_true rfl) dX5_tellWaits_17 ?_
      refine x_callVV G [] [xI (if 9999 < r then 9999 else r)] rfl (by decide) (ly_n hY 168 (by decide)) (ly_k hY 168 (by decide)) hy_X5_tellNumber hi_X5_tellNumber hs_X5_tellNumber ml_X5_57 rfl rfl (kX5_tellNumber _ _ k (wrdT L1 wWait) (if 9999 < r then 9999 else r) hY h9.1 (by omega) (by omega) (by omega)) (by decide) (by decide) (Nat.le_of_ble_eq_true rfl) dX5_tellWaits_20 (fun M20 h20 => ?_)
      have hn20 : ((numT (wrdT L1 wWait) (if 9999 < r then 9999 else r))).length ≤ ((wrdT L1 wWait)).length + 6 := numT_len _ _
      refine x_iincW G [(2, xI (r + (-9999))), (0, xR 168), (1, xI t)] 2 rfl (by decide) (by omega) rfl dX5_tellWaits_23 ?_
      refine x_goto G 2 (by decide) dX5_tellWaits_29 ?_
      refine x_sub [(0, xR 168), (1, xI t), (2, xI (r + (-9999)))] [1, 2, 0] rfl ?_
      exact ih2 _ (by omega) (r + (-9999)) (f - 1) (numT (wrdT L1 wWait) (if 9999 < r then 9999 else r)) M20 rfl (by omega) (by (obtain ⟨g, rfl⟩ : ∃ g, f = g + 1 := ⟨f - 1, by omega⟩; rw [htw]; show (if 0 < r then _ else _) = _; rw [if_pos (by omega)]; rfl)) (by omega) (h20.1) ((tlf_tr (tlf_tr hf1 (fun q9 g9 => h9.2 q9 (by omega))) (fun q9 g9 => h20.2 q9 (by omega))))
  refine x_sub [(0, xR 168), (1, xI t), (2, xI t)] [1, 2, 0] rfl ?_
  exact loop2 _ t 12 L M rfl (by omega) (rfl) (by omega) (hL) ((tlf_refl _))
set_option maxRecDepth 100000 in
set_option maxHeartbeats 4000000 in
theorem kX5_tellShards (D : xD) (l : Launch) {n : Nat} {T : xT} {M : xM} (k : Int) (L : List Int) (V : xM) (hY : LayOK n T) (hL : TL M k L) (hl : L.length ≤ 900000) (hV : shw M 1 V) (hv : VOK V) (hl2 : L.length ≤ 700000) : xC D l uX5_tellShards 5 107 0 0 [xR 168, xR 1] n T M (xPV n T (fun M2 => TL M2 k (shT V 3 (shT V 2 (shT V 1 (shT V 0 L)))) ∧ tlf M M2)) := by
  refine x_met uX5_tellShards (by decide) (Nat.le_of_ble_eq_true rfl) ?_
  intro Γ G Rt _
  have G : xG Γ RX5 cX5_tellShards 3 5 107 0 0 := G
  have Rt : xRt Γ (xPV n T (fun M2 => TL M2 k (shT V 3 (shT V 2 (shT V 1 (shT V 0 L)))) ∧ tlf M M2)) none 0 0 := Rt
  show xX Γ 0 0 n T 0 [(0, xR 168), (1, xR 1)] [] M
  have hw0 := hv.2.1 0 (by decide)
  have hw1 := hv.2.1 1 (by decide)
  have hw2 := hv.2.1 2 (by decide)
  have hw3 := hv.2.1 3 (by decide)
  refine x_iconst G (by decide) dX5_tellShards_0 ?_
  refine x_istore_n G [(2, xI 0), (0, xR 168), (1, xR 1)] rfl (by decide) rfl dX5_tellShards_1 ?_
  refine x_iload_n G 0 rfl rfl dX5_tellShards_2 ?_
  refine x_iconst G (by decide) dX5_tellShards_3 ?_
  refine x_icmp_ge G 55 (by decide) dX5_tellShards_4 (fun c4 => absurd c4 (by decide)) (fun _ => ?_)
  refine x_aload_n G 1 rfl rfl dX5_tellShards_7 ?_
  refine x_ldcS G (i := 7) rfl dX5_tellShards_8 ?_
  refine x_callVV G [] [xR (1000000 + 7)] rfl (by decide) (ly_n hY 168 (by decide)) (ly_k hY 168 (by decide)) hy_X5_tellWord hi_X5_tellWord hs_X5_tellWord ml_X5_51 rfl rfl (kX5_tellWord _ _ k L 7 wSize hY hL hl (by omega) ⟨_, _, _, rfl⟩) (by decide) (by decide) (Nat.le_of_ble_eq_true rfl) dX5_tellShards_10 (fun M10 h10 => ?_)
  have hn10 : ((wrdT L wSize)).length ≤ (L).length + 7 := Nat.le_trans (wrdT_len _ _) (by rw [Nat.add_assoc]; exact Nat.add_le_add_left (by decide) _)
  refine x_aload_n G 1 rfl rfl dX5_tellShards_13 ?_
  refine x_iload_n G 0 rfl rfl dX5_tellShards_14 ?_
  refine x_callVV G [] [xI 0] rfl (by decide) (ly_n hY 168 (by decide)) (ly_k hY 168 (by decide)) hy_X5_tellNumber hi_X5_tellNumber hs_X5_tellNumber ml_X5_57 rfl rfl (kX5_tellNumber _ _ k (wrdT L wSize) 0 hY h10.1 (by omega) (by omega) (by omega)) (by decide) (by decide) (Nat.le_of_ble_eq_true rfl) dX5_tellShards_15 (fun M15 h15 => ?_)
  have hn15 : ((numT (wrdT L wSize) 0)).length ≤ ((wrdT L wSize)).length + 6 := numT_len _ _
  refine x_aload_n G 1 rfl rfl dX5_tellShards_18 ?_
  refine x_aload_n G 2 rfl rfl dX5_tellShards_19 ?_
  refine x_get G (xR (1 + 11)) xf3_8 lk_X5_62 (st_n (ly_st1 hY) 0 (by decide)) (st_k (ly_st1 hY) 0 (by decide)) (Or.inr ⟨rfl, _, (st_r (ly_st1 hY) 0 8 (by decide) (by decide)), rfl⟩) dX5_tellShards_20 ?_
  refine x_iload_n G 0 rfl rfl dX5_tellShards_23 ?_
  refine x_iald G (st_n (ly_st1 hY) 11 (by decide)) (st_k (ly_st1 hY) 11 (by decide)) (show _ = 4 from st_l (ly_st1 hY) 11 (by decide)) (by omega) (by omega) dX5_tellShards_24 ?_
  show xX Γ 0 0 n T 25 [(2, xI 0), (0, xR 168), (1, xR 1)] [xI (M15 (1 + 11) 0), xR 168] M15
  rw [show M15 (1 + 11) 0 = (V 11 0) from ((congrFun (h15.2 (1 + 11) (by omega)) 0).trans ((congrFun (h10.2 (1 + 11) (by omega)) 0).trans (congrFun (hV 11 (by decide) (by decide) (by decide)) 0)))]
  refine x_callVV G [] [xI (V 11 0)] rfl (by decide) (ly_n hY 168 (by decide)) (ly_k hY 168 (by decide)) hy_X5_tellNumber hi_X5_tellNumber hs_X5_tellNumber ml_X5_57 rfl rfl (kX5_tellNumber _ _ k (numT (wrdT L wSize) 0) (V 11 0) hY h15.1 (by omega) (by omega) (by omega)) (by decide) (by decide) (Nat.le_of_ble_eq_true rfl) dX5_tellShards_25 (fun M25 h25 => ?_)
  have hn25 : ((numT (numT (wrdT L wSize) 0) (V 11 0))).length ≤ ((numT (wrdT L wSize) 0)).length + 6 := numT_len _ _
  refine x_aload_n G 1 rfl rfl dX5_tellShards_28 ?_
  refine x_ldcS G (i := 8) rfl dX5_tellShards_29 ?_
  refine x_callVV G [] [xR (1000000 + 8)] rfl (by decide) (ly_n hY 168 (by decide)) (ly_k hY 168 (by decide)) hy_X5_tellWord hi_X5_tellWord hs_X5_tellWord ml_X5_51 rfl rfl (kX5_tellWord _ _ k (numT (numT (wrdT L wSize) 0) (V 11 0)) 8 wWindow hY h25.1 (by omega) (by omega) ⟨_, _, _, rfl⟩) (by decide) (by decide) (Nat.le_of_ble_eq_true rfl) dX5_tellShards_31 (fun M31 h31 => ?_)
  have hn31 : ((wrdT (numT (numT (wrdT L wSize) 0) (V 11 0)) wWindow)).length ≤ ((numT (numT (wrdT L wSize) 0) (V 11 0))).length + 7 := Nat.le_trans (wrdT_len _ _) (by rw [Nat.add_assoc]; exact Nat.add_le_add_left (by decide) _)
  refine x_aload_n G 1 rfl rfl dX5_tellShards_34 ?_
  refine x_iload_n G 0 rfl rfl dX5_tellShards_35 ?_
  refine x_callVV G [] [xI 0] rfl (by decide) (ly_n hY 168 (by decide)) (ly_k hY 168 (by decide)) hy_X5_tellNumber hi_X5_tellNumber hs_X5_tellNumber ml_X5_57 rfl rfl (kX5_tellNumber _ _ k (wrdT (numT (numT (wrdT L wSize) 0) (V 11 0)) wWindow) 0 hY h31.1 (by omega) (by omega) (by omega)) (by decide) (by decide) (Nat.le_of_ble_eq_true rfl) dX5_tellShards_36 (fun M36 h36 => ?_)
  have hn36 : ((numT (wrdT (numT (numT (wrdT L wSize) 0) (V 11 0)) wWindow) 0)).length ≤ ((wrdT (numT (numT (wrdT L wSize) 0) (V 11 0)) wWindow)).length + 6 := numT_len _ _
  refine x_aload_n G 1 rfl rfl dX5_tellShards_39 ?_
  refine x_aload_n G 2 rfl rfl dX5_tellShards_40 ?_
  refine x_get G (xR (1 + 12)) xf3_9 lk_X5_67 (st_n (ly_st1 hY) 0 (by decide)) (st_k (ly_st1 hY) 0 (by decide)) (Or.inr ⟨rfl, _, (st_r (ly_st1 hY) 0 9 (by decide) (by decide)), rfl⟩) dX5_tellShards_41 ?_
  refine x_iload_n G 0 rfl rfl dX5_tellShards_44 ?_
  refine x_iald G (st_n (ly_st1 hY) 12 (by decide)) (st_k (ly_st1 hY) 12 (by decide)) (show _ = 4 from st_l (ly_st1 hY) 12 (by decide)) (by omega) (by omega) dX5_tellShards_45 ?_
  show xX Γ 0 0 n T 46 [(2, xI 0), (0, xR 168), (1, xR 1)] [xI (M36 (1 + 12) 0), xR 168] M36
  rw [show M36 (1 + 12) 0 = (V 12 0) from ((congrFun (h36.2 (1 + 12) (by omega)) 0).trans ((congrFun (h31.2 (1 + 12) (by omega)) 0).trans ((congrFun (h25.2 (1 + 12) (by omega)) 0).trans ((congrFun (h15.2 (1 + 12) (by omega)) 0).trans ((congrFun (h10.2 (1 + 12) (by omega)) 0).trans (congrFun (hV 12 (by decide) (by decide) (by decide)) 0))))))]
  refine x_callVV G [] [xI (V 12 0)] rfl (by decide) (ly_n hY 168 (by decide)) (ly_k hY 168 (by decide)) hy_X5_tellNumber hi_X5_tellNumber hs_X5_tellNumber ml_X5_57 rfl rfl (kX5_tellNumber _ _ k (numT (wrdT (numT (numT (wrdT L wSize) 0) (V 11 0)) wWindow) 0) (V 12 0) hY h36.1 (by omega) (by omega) (by omega)) (by decide) (by decide) (Nat.le_of_ble_eq_true rfl) dX5_tellShards_46 (fun M46 h46 => ?_)
  have hn46 : ((numT (numT (wrdT (numT (numT (wrdT L wSize) 0) (V 11 0)) wWindow) 0) (V 12 0))).length ≤ ((numT (wrdT (numT (numT (wrdT L wSize) 0) (V 11 0)) wWindow) 0)).length + 6 := numT_len _ _
  refine x_iinc G [(2, xI 1), (0, xR 168), (1, xR 1)] 0 rfl (by decide) (by omega) rfl dX5_tellShards_49 ?_
  refine x_goto G 2 (by decide) dX5_tellShards_52 ?_
  refine x_iload_n G 0 rfl rfl dX5_tellShards_2 ?_
  refine x_iconst G (by decide) dX5_tellShards_3 ?_
  refine x_icmp_ge G 55 (by decide) dX5_tellShards_4 (fun c4 => absurd c4 (by decide)) (fun _ => ?_)
  refine x_aload_n G 1 rfl rfl dX5_tellShards_7 ?_
  refine x_ldcS G (i := 7) rfl dX5_tellShards_8 ?_
  refine x_callVV G [] [xR (1000000 + 7)] rfl (by decide) (ly_n hY 168 (by decide)) (ly_k hY 168 (by decide)) hy_X5_tellWord hi_X5_tellWord hs_X5_tellWord ml_X5_51 rfl rfl (kX5_tellWord _ _ k (numT (numT (wrdT (numT (numT (wrdT L wSize) 0) (V 11 0)) wWindow) 0) (V 12 0)) 7 wSize hY h46.1 (by omega) (by omega) ⟨_, _, _, rfl⟩) (by decide) (by decide) (Nat.le_of_ble_eq_true rfl) dX5_tellShards_10 (fun M10_ h10_ => ?_)
  have hn10_ : ((wrdT (numT (numT (wrdT (numT (numT (wrdT L wSize) 0) (V 11 0)) wWindow) 0) (V 12 0)) wSize)).length ≤ ((numT (numT (wrdT (numT (numT (wrdT L wSize) 0) (V 11 0)) wWindow) 0) (V 12 0))).length + 7 := Nat.le_trans (wrdT_len _ _) (by rw [Nat.add_assoc]; exact Nat.add_le_add_left (by decide) _)
  refine x_aload_n G 1 rfl rfl dX5_tellShards_13 ?_
  refine x_iload_n G 0 rfl rfl dX5_tellShards_14 ?_
  refine x_callVV G [] [xI 1] rfl (by decide) (ly_n hY 168 (by decide)) (ly_k hY 168 (by decide)) hy_X5_tellNumber hi_X5_tellNumber hs_X5_tellNumber ml_X5_57 rfl rfl (kX5_tellNumber _ _ k (wrdT (numT (numT (wrdT (numT (numT (wrdT L wSize) 0) (V 11 0)) wWindow) 0) (V 12 0)) wSize) 1 hY h10_.1 (by omega) (by omega) (by omega)) (by decide) (by decide) (Nat.le_of_ble_eq_true rfl) dX5_tellShards_15 (fun M15_ h15_ => ?_)
  have hn15_ : ((numT (wrdT (numT (numT (wrdT (numT (numT (wrdT L wSize) 0) (V 11 0)) wWindow) 0) (V 12 0)) wSize) 1)).length ≤ ((wrdT (numT (numT (wrdT (numT (numT (wrdT L wSize) 0) (V 11 0)) wWindow) 0) (V 12 0)) wSize)).length + 6 := numT_len _ _
  refine x_aload_n G 1 rfl rfl dX5_tellShards_18 ?_
  refine x_aload_n G 2 rfl rfl dX5_tellShards_19 ?_
  refine x_get G (xR (1 + 11)) xf3_8 lk_X5_62 (st_n (ly_st1 hY) 0 (by decide)) (st_k (ly_st1 hY) 0 (by decide)) (Or.inr ⟨rfl, _, (st_r (ly_st1 hY) 0 8 (by decide) (by decide)), rfl⟩) dX5_tellShards_20 ?_
  refine x_iload_n G 0 rfl rfl dX5_tellShards_23 ?_
  refine x_iald G (st_n (ly_st1 hY) 11 (by decide)) (st_k (ly_st1 hY) 11 (by decide)) (show _ = 4 from st_l (ly_st1 hY) 11 (by decide)) (by omega) (by omega) dX5_tellShards_24 ?_
  show xX Γ 0 0 n T 25 [(2, xI 1), (0, xR 168), (1, xR 1)] [xI (M15_ (1 + 11) 1), xR 168] M15_
  rw [show M15_ (1 + 11) 1 = (V 11 1) from ((congrFun (h15_.2 (1 + 11) (by omega)) 1).trans ((congrFun (h10_.2 (1 + 11) (by omega)) 1).trans ((congrFun (h46.2 (1 + 11) (by omega)) 1).trans ((congrFun (h36.2 (1 + 11) (by omega)) 1).trans ((congrFun (h31.2 (1 + 11) (by omega)) 1).trans ((congrFun (h25.2 (1 + 11) (by omega)) 1).trans ((congrFun (h15.2 (1 + 11) (by omega)) 1).trans ((congrFun (h10.2 (1 + 11) (by omega)) 1).trans (congrFun (hV 11 (by decide) (by decide) (by decide)) 1)))))))))]
  refine x_callVV G [] [xI (V 11 1)] rfl (by decide) (ly_n hY 168 (by decide)) (ly_k hY 168 (by decide)) hy_X5_tellNumber hi_X5_tellNumber hs_X5_tellNumber ml_X5_57 rfl rfl (kX5_tellNumber _ _ k (numT (wrdT (numT (numT (wrdT (numT (numT (wrdT L wSize) 0) (V 11 0)) wWindow) 0) (V 12 0)) wSize) 1) (V 11 1) hY h15_.1 (by omega) (by omega) (by omega)) (by decide) (by decide) (Nat.le_of_ble_eq_true rfl) dX5_tellShards_25 (fun M25_ h25_ => ?_)
  have hn25_ : ((numT (numT (wrdT (numT (numT (wrdT (numT (numT (wrdT L wSize) 0) (V 11 0)) wWindow) 0) (V 12 0)) wSize) 1) (V 11 1))).length ≤ ((numT (wrdT (numT (numT (wrdT (numT (numT (wrdT L wSize) 0) (V 11 0)) wWindow) 0) (V 12 0)) wSize) 1)).length + 6 := numT_len _ _
  refine x_aload_n G 1 rfl rfl dX5_tellShards_28 ?_
  refine x_ldcS G (i := 8) rfl dX5_tellShards_29 ?_
  refine x_callVV G [] [xR (1000000 + 8)] rfl (by decide) (ly_n hY 168 (by decide)) (ly_k hY 168 (by decide)) hy_X5_tellWord hi_X5_tellWord hs_X5_tellWord ml_X5_51 rfl rfl (kX5_tellWord _ _ k (numT (numT (wrdT (numT (numT (wrdT (numT (numT (wrdT L wSize) 0) (V 11 0)) wWindow) 0) (V 12 0)) wSize) 1) (V 11 1)) 8 wWindow hY h25_.1 (by omega) (by omega) ⟨_, _, _, rfl⟩) (by decide) (by decide) (Nat.le_of_ble_eq_true rfl) dX5_tellShards_31 (fun M31_ h31_ => ?_)
  have hn31_ : ((wrdT (numT (numT (wrdT (numT (numT (wrdT (numT (numT (wrdT L wSize) 0) (V 11 0)) wWindow) 0) (V 12 0)) wSize) 1) (V 11 1)) wWindow)).length ≤ ((numT (numT (wrdT (numT (numT (wrdT (numT (numT (wrdT L wSize) 0) (V 11 0)) wWindow) 0) (V 12 0)) wSize) 1) (V 11 1))).length + 7 := Nat.le_trans (wrdT_len _ _) (by rw [Nat.add_assoc]; exact Nat.add_le_add_left (by decide) _)
  refine x_aload_n G 1 rfl rfl dX5_tellShards_34 ?_
  refine x_iload_n G 0 rfl rfl dX5_tellShards_35 ?_
  refine x_callVV G [] [xI 1] rfl (by decide) (ly_n hY 168 (by decide)) (ly_k hY 168 (by decide)) hy_X5_tellNumber hi_X5_tellNumber hs_X5_tellNumber ml_X5_57 rfl rfl (kX5_tellNumber _ _ k (wrdT (numT (numT (wrdT (numT (numT (wrdT (numT (numT (wrdT L wSize) 0) (V 11 0)) wWindow) 0) (V 12 0)) wSize) 1) (V 11 1)) wWindow) 1 hY h31_.1 (by omega) (by omega) (by omega)) (by decide) (by decide) (Nat.le_of_ble_eq_true rfl) dX5_tellShards_36 (fun M36_ h36_ => ?_)
  have hn36_ : ((numT (wrdT (numT (numT (wrdT (numT (numT (wrdT (numT (numT (wrdT L wSize) 0) (V 11 0)) wWindow) 0) (V 12 0)) wSize) 1) (V 11 1)) wWindow) 1)).length ≤ ((wrdT (numT (numT (wrdT (numT (numT (wrdT (numT (numT (wrdT L wSize) 0) (V 11 0)) wWindow) 0) (V 12 0)) wSize) 1) (V 11 1)) wWindow)).length + 6 := numT_len _ _
  refine x_aload_n G 1 rfl rfl dX5_tellShards_39 ?_
  refine x_aload_n G 2 rfl rfl dX5_tellShards_40 ?_
  refine x_get G (xR (1 + 12)) xf3_9 lk_X5_67 (st_n (ly_st1 hY) 0 (by decide)) (st_k (ly_st1 hY) 0 (by decide)) (Or.inr ⟨rfl, _, (st_r (ly_st1 hY) 0 9 (by decide) (by decide)), rfl⟩) dX5_tellShards_41 ?_
  refine x_iload_n G 0 rfl rfl dX5_tellShards_44 ?_
  refine x_iald G (st_n (ly_st1 hY) 12 (by decide)) (st_k (ly_st1 hY) 12 (by decide)) (show _ = 4 from st_l (ly_st1 hY) 12 (by decide)) (by omega) (by omega) dX5_tellShards_45 ?_
  show xX Γ 0 0 n T 46 [(2, xI 1), (0, xR 168), (1, xR 1)] [xI (M36_ (1 + 12) 1), xR 168] M36_
  rw [show M36_ (1 + 12) 1 = (V 12 1) from ((congrFun (h36_.2 (1 + 12) (by omega)) 1).trans ((congrFun (h31_.2 (1 + 12) (by omega)) 1).trans ((congrFun (h25_.2 (1 + 12) (by omega)) 1).trans ((congrFun (h15_.2 (1 + 12) (by omega)) 1).trans ((congrFun (h10_.2 (1 + 12) (by omega)) 1).trans ((congrFun (h46.2 (1 + 12) (by omega)) 1).trans ((congrFun (h36.2 (1 + 12) (by omega)) 1).trans ((congrFun (h31.2 (1 + 12) (by omega)) 1).trans ((congrFun (h25.2 (1 + 12) (by omega)) 1).trans ((congrFun (h15.2 (1 + 12) (by omega)) 1).trans ((congrFun (h10.2 (1 + 12) (by omega)) 1).trans (congrFun (hV 12 (by decide) (by decide) (by decide)) 1))))))))))))]
  refine x_callVV G [] [xI (V 12 1)] rfl (by decide) (ly_n hY 168 (by decide)) (ly_k hY 168 (by decide)) hy_X5_tellNumber hi_X5_tellNumber hs_X5_tellNumber ml_X5_57 rfl rfl (kX5_tellNumber _ _ k (numT (wrdT (numT (numT (wrdT (numT (numT (wrdT (numT (numT (wrdT L wSize) 0) (V 11 0)) wWindow) 0) (V 12 0)) wSize) 1) (V 11 1)) wWindow) 1) (V 12 1) hY h36_.1 (by omega) (by omega) (by omega)) (by decide) (by decide) (Nat.le_of_ble_eq_true rfl) dX5_tellShards_46 (fun M46_ h46_ => ?_)
  have hn46_ : ((numT (numT (wrdT (numT (numT (wrdT (numT (numT (wrdT (numT (numT (wrdT L wSize) 0) (V 11 0)) wWindow) 0) (V 12 0)) wSize) 1) (V 11 1)) wWindow) 1) (V 12 1))).length ≤ ((numT (wrdT (numT (numT (wrdT (numT (numT (wrdT (numT (numT (wrdT L wSize) 0) (V 11 0)) wWindow) 0) (V 12 0)) wSize) 1) (V 11 1)) wWindow) 1)).length + 6 := numT_len _ _
  refine x_iinc G [(2, xI 2), (0, xR 168), (1, xR 1)] 0 rfl (by decide) (by omega) rfl dX5_tellShards_49 ?_
  refine x_goto G 2 (by decide) dX5_tellShards_52 ?_
  refine x_iload_n G 0 rfl rfl dX5_tellShards_2 ?_
  refine x_iconst G (by decide) dX5_tellShards_3 ?_
  refine x_icmp_ge G 55 (by decide) dX5_tellShards_4 (fun c4 => absurd c4 (by decide)) (fun _ => ?_)
  refine x_aload_n G 1 rfl rfl dX5_tellShards_7 ?_
  refine x_ldcS G (i := 7) rfl dX5_tellShards_8 ?_
  refine x_callVV G [] [xR (1000000 + 7)] rfl (by decide) (ly_n hY 168 (by decide)) (ly_k hY 168 (by decide)) hy_X5_tellWord hi_X5_tellWord hs_X5_tellWord ml_X5_51 rfl rfl (kX5_tellWord _ _ k (numT (numT (wrdT (numT (numT (wrdT (numT (numT (wrdT (numT (numT (wrdT L wSize) 0) (V 11 0)) wWindow) 0) (V 12 0)) wSize) 1) (V 11 1)) wWindow) 1) (V 12 1)) 7 wSize hY h46_.1 (by omega) (by omega) ⟨_, _, _, rfl⟩) (by decide) (by decide) (Nat.le_of_ble_eq_true rfl) dX5_tellShards_10 (fun M10__ h10__ => ?_)
  have hn10__ : ((wrdT (numT (numT (wrdT (numT (numT (wrdT (numT (numT (wrdT (numT (numT (wrdT L wSize) 0) (V 11 0)) wWindow) 0) (V 12 0)) wSize) 1) (V 11 1)) wWindow) 1) (V 12 1)) wSize)).length ≤ ((numT (numT (wrdT (numT (numT (wrdT (numT (numT (wrdT (numT (numT (wrdT L wSize) 0) (V 11 0)) wWindow) 0) (V 12 0)) wSize) 1) (V 11 1)) wWindow) 1) (V 12 1))).length + 7 := Nat.le_trans (wrdT_len _ _) (by rw [Nat.add_assoc]; exact Nat.add_le_add_left (by decide) _)
  refine x_aload_n G 1 rfl rfl dX5_tellShards_13 ?_
  refine x_iload_n G 0 rfl rfl dX5_tellShards_14 ?_
  refine x_callVV G [] [xI 2] rfl (by decide) (ly_n hY 168 (by decide)) (ly_k hY 168 (by decide)) hy_X5_tellNumber hi_X5_tellNumber hs_X5_tellNumber ml_X5_57 rfl rfl (kX5_tellNumber _ _ k (wrdT (numT (numT (wrdT (numT (numT (wrdT (numT (numT (wrdT (numT (numT (wrdT L wSize) 0) (V 11 0)) wWindow) 0) (V 12 0)) wSize) 1) (V 11 1)) wWindow) 1) (V 12 1)) wSize) 2 hY h10__.1 (by omega) (by omega) (by omega)) (by decide) (by decide) (Nat.le_of_ble_eq_true rfl) dX5_tellShards_15 (fun M15__ h15__ => ?_)
  have hn15__ : ((numT (wrdT (numT (numT (wrdT (numT (numT (wrdT (numT (numT (wrdT (numT (numT (wrdT L wSize) 0) (V 11 0)) wWindow) 0) (V 12 0)) wSize) 1) (V 11 1)) wWindow) 1) (V 12 1)) wSize) 2)).length ≤ ((wrdT (numT (numT (wrdT (numT (numT (wrdT (numT (numT (wrdT (numT (numT (wrdT L wSize) 0) (V 11 0)) wWindow) 0) (V 12 0)) wSize) 1) (V 11 1)) wWindow) 1) (V 12 1)) wSize)).length + 6 := numT_len _ _
  refine x_aload_n G 1 rfl rfl dX5_tellShards_18 ?_
  refine x_aload_n G 2 rfl rfl dX5_tellShards_19 ?_
  refine x_get G (xR (1 + 11)) xf3_8 lk_X5_62 (st_n (ly_st1 hY) 0 (by decide)) (st_k (ly_st1 hY) 0 (by decide)) (Or.inr ⟨rfl, _, (st_r (ly_st1 hY) 0 8 (by decide) (by decide)), rfl⟩) dX5_tellShards_20 ?_
  refine x_iload_n G 0 rfl rfl dX5_tellShards_23 ?_
  refine x_iald G (st_n (ly_st1 hY) 11 (by decide)) (st_k (ly_st1 hY) 11 (by decide)) (show _ = 4 from st_l (ly_st1 hY) 11 (by decide)) (by omega) (by omega) dX5_tellShards_24 ?_
  show xX Γ 0 0 n T 25 [(2, xI 2), (0, xR 168), (1, xR 1)] [xI (M15__ (1 + 11) 2), xR 168] M15__
  rw [show M15__ (1 + 11) 2 = (V 11 2) from ((congrFun (h15__.2 (1 + 11) (by omega)) 2).trans ((congrFun (h10__.2 (1 + 11) (by omega)) 2).trans ((congrFun (h46_.2 (1 + 11) (by omega)) 2).trans ((congrFun (h36_.2 (1 + 11) (by omega)) 2).trans ((congrFun (h31_.2 (1 + 11) (by omega)) 2).trans ((congrFun (h25_.2 (1 + 11) (by omega)) 2).trans ((congrFun (h15_.2 (1 + 11) (by omega)) 2).trans ((congrFun (h10_.2 (1 + 11) (by omega)) 2).trans ((congrFun (h46.2 (1 + 11) (by omega)) 2).trans ((congrFun (h36.2 (1 + 11) (by omega)) 2).trans ((congrFun (h31.2 (1 + 11) (by omega)) 2).trans ((congrFun (h25.2 (1 + 11) (by omega)) 2).trans ((congrFun (h15.2 (1 + 11) (by omega)) 2).trans ((congrFun (h10.2 (1 + 11) (by omega)) 2).trans (congrFun (hV 11 (by decide) (by decide) (by decide)) 2)))))))))))))))]
  refine x_callVV G [] [xI (V 11 2)] rfl (by decide) (ly_n hY 168 (by decide)) (ly_k hY 168 (by decide)) hy_X5_tellNumber hi_X5_tellNumber hs_X5_tellNumber ml_X5_57 rfl rfl (kX5_tellNumber _ _ k (numT (wrdT (numT (numT (wrdT (numT (numT (wrdT (numT (numT (wrdT (numT (numT (wrdT L wSize) 0) (V 11 0)) wWindow) 0) (V 12 0)) wSize) 1) (V 11 1)) wWindow) 1) (V 12 1)) wSize) 2) (V 11 2) hY h15__.1 (by omega) (by omega) (by omega)) (by decide) (by decide) (Nat.le_of_ble_eq_true rfl) dX5_tellShards_25 (fun M25__ h25__ => ?_)
  have hn25__ : ((numT (numT (wrdT (numT (numT (wrdT (numT (numT (wrdT (numT (numT (wrdT (numT (numT (wrdT L wSize) 0) (V 11 0)) wWindow) 0) (V 12 0)) wSize) 1) (V 11 1)) wWindow) 1) (V 12 1)) wSize) 2) (V 11 2))).length ≤ ((numT (wrdT (numT (numT (wrdT (numT (numT (wrdT (numT (numT (wrdT (numT (numT (wrdT L wSize) 0) (V 11 0)) wWindow) 0) (V 12 0)) wSize) 1) (V 11 1)) wWindow) 1) (V 12 1)) wSize) 2)).length + 6 := numT_len _ _
  refine x_aload_n G 1 rfl rfl dX5_tellShards_28 ?_
  refine x_ldcS G (i := 8) rfl dX5_tellShards_29 ?_
  refine x_callVV G [] [xR (1000000 + 8)] rfl (by decide) (ly_n hY 168 (by decide)) (ly_k hY 168 (by decide)) hy_X5_tellWord hi_X5_tellWord hs_X5_tellWord ml_X5_51 rfl rfl (kX5_tellWord _ _ k (numT (numT (wrdT (numT (numT (wrdT (numT (numT (wrdT (numT (numT (wrdT (numT (numT (wrdT L wSize) 0) (V 11 0)) wWindow) 0) (V 12 0)) wSize) 1) (V 11 1)) wWindow) 1) (V 12 1)) wSize) 2) (V 11 2)) 8 wWindow hY h25__.1 (by omega) (by omega) ⟨_, _, _, rfl⟩) (by decide) (by decide) (Nat.le_of_ble_eq_true rfl) dX5_tellShards_31 (fun M31__ h31__ => ?_)
  have hn31__ : ((wrdT (numT (numT (wrdT (numT (numT (wrdT (numT (numT (wrdT (numT (numT (wrdT (numT (numT (wrdT L wSize) 0) (V 11 0)) wWindow) 0) (V 12 0)) wSize) 1) (V 11 1)) wWindow) 1) (V 12 1)) wSize) 2) (V 11 2)) wWindow)).length ≤ ((numT (numT (wrdT (numT (numT (wrdT (numT (numT (wrdT (numT (numT (wrdT (numT (numT (wrdT L wSize) 0) (V 11 0)) wWindow) 0) (V 12 0)) wSize) 1) (V 11 1)) wWindow) 1) (V 12 1)) wSize) 2) (V 11 2))).length + 7 := Nat.le_trans (wrdT_len _ _) (by rw [Nat.add_assoc]; exact Nat.add_le_add_left (by decide) _)
  refine x_aload_n G 1 rfl rfl dX5_tellShards_34 ?_
  refine x_iload_n G 0 rfl rfl dX5_tellShards_35 ?_
  refine x_callVV G [] [xI 2] rfl (by decide) (ly_n hY 168 (by decide)) (ly_k hY 168 (by decide)) hy_X5_tellNumber hi_X5_tellNumber hs_X5_tellNumber ml_X5_57 rfl rfl (kX5_tellNumber _ _ k (wrdT (numT (numT (wrdT (numT (numT (wrdT (numT (numT (wrdT (numT (numT (wrdT (numT (numT (wrdT L wSize) 0) (V 11 0)) wWindow) 0) (V 12 0)) wSize) 1) (V 11 1)) wWindow) 1) (V 12 1)) wSize) 2) (V 11 2)) wWindow) 2 hY h31__.1 (by omega) (by omega) (by omega)) (by decide) (by decide) (Nat.le_of_ble_eq_true rfl) dX5_tellShards_36 (fun M36__ h36__ => ?_)
  have hn36__ : ((numT (wrdT (numT (numT (wrdT (numT (numT (wrdT (numT (numT (wrdT (numT (numT (wrdT (numT (numT (wrdT L wSize) 0) (V 11 0)) wWindow) 0) (V 12 0)) wSize) 1) (V 11 1)) wWindow) 1) (V 12 1)) wSize) 2) (V 11 2)) wWindow) 2)).length ≤ ((wrdT (numT (numT (wrdT (numT (numT (wrdT (numT (numT (wrdT (numT (numT (wrdT (numT (numT (wrdT L wSize) 0) (V 11 0)) wWindow) 0) (V 12 0)) wSize) 1) (V 11 1)) wWindow) 1) (V 12 1)) wSize) 2) (V 11 2)) wWindow)).length + 6 := numT_len _ _
  refine x_aload_n G 1 rfl rfl dX5_tellShards_39 ?_
  refine x_aload_n G 2 rfl rfl dX5_tellShards_40 ?_
  refine x_get G (xR (1 + 12)) xf3_9 lk_X5_67 (st_n (ly_st1 hY) 0 (by decide)) (st_k (ly_st1 hY) 0 (by decide)) (Or.inr ⟨rfl, _, (st_r (ly_st1 hY) 0 9 (by decide) (by decide)), rfl⟩) dX5_tellShards_41 ?_
  refine x_iload_n G 0 rfl rfl dX5_tellShards_44 ?_
  refine x_iald G (st_n (ly_st1 hY) 12 (by decide)) (st_k (ly_st1 hY) 12 (by decide)) (show _ = 4 from st_l (ly_st1 hY) 12 (by decide)) (by omega) (by omega) dX5_tellShards_45 ?_
  show xX Γ 0 0 n T 46 [(2, xI 2), (0, xR 168), (1, xR 1)] [xI (M36__ (1 + 12) 2), xR 168] M36__
  rw [show M36__ (1 + 12) 2 = (V 12 2) from ((congrFun (h36__.2 (1 + 12) (by omega)) 2).trans ((congrFun (h31__.2 (1 + 12) (by omega)) 2).trans ((congrFun (h25__.2 (1 + 12) (by omega)) 2).trans ((congrFun (h15__.2 (1 + 12) (by omega)) 2).trans ((congrFun (h10__.2 (1 + 12) (by omega)) 2).trans ((congrFun (h46_.2 (1 + 12) (by omega)) 2).trans ((congrFun (h36_.2 (1 + 12) (by omega)) 2).trans ((congrFun (h31_.2 (1 + 12) (by omega)) 2).trans ((congrFun (h25_.2 (1 + 12) (by omega)) 2).trans ((congrFun (h15_.2 (1 + 12) (by omega)) 2).trans ((congrFun (h10_.2 (1 + 12) (by omega)) 2).trans ((congrFun (h46.2 (1 + 12) (by omega)) 2).trans ((congrFun (h36.2 (1 + 12) (by omega)) 2).trans ((congrFun (h31.2 (1 + 12) (by omega)) 2).trans ((congrFun (h25.2 (1 + 12) (by omega)) 2).trans ((congrFun (h15.2 (1 + 12) (by omega)) 2).trans ((congrFun (h10.2 (1 + 12) (by omega)) 2).trans (congrFun (hV 12 (by decide) (by decide) (by decide)) 2))))))))))))))))))]
  refine x_callVV G [] [xI (V 12 2)] rfl (by decide) (ly_n hY 168 (by decide)) (ly_k hY 168 (by decide)) hy_X5_tellNumber hi_X5_tellNumber hs_X5_tellNumber ml_X5_57 rfl rfl (kX5_tellNumber _ _ k (numT (wrdT (numT (numT (wrdT (numT (numT (wrdT (numT (numT (wrdT (numT (numT (wrdT (numT (numT (wrdT L wSize) 0) (V 11 0)) wWindow) 0) (V 12 0)) wSize) 1) (V 11 1)) wWindow) 1) (V 12 1)) wSize) 2) (V 11 2)) wWindow) 2) (V 12 2) hY h36__.1 (by omega) (by omega) (by omega)) (by decide) (by decide) (Nat.le_of_ble_eq_true rfl) dX5_tellShards_46 (fun M46__ h46__ => ?_)
  have hn46__ : ((numT (numT (wrdT (numT (numT (wrdT (numT (numT (wrdT (numT (numT (wrdT (numT (numT (wrdT (numT (numT (wrdT L wSize) 0) (V 11 0)) wWindow) 0) (V 12 0)) wSize) 1) (V 11 1)) wWindow) 1) (V 12 1)) wSize) 2) (V 11 2)) wWindow) 2) (V 12 2))).length ≤ ((numT (wrdT (numT (numT (wrdT (numT (numT (wrdT (numT (numT (wrdT (numT (numT (wrdT (numT (numT (wrdT L wSize) 0) (V 11 0)) wWindow) 0) (V 12 0)) wSize) 1) (V 11 1)) wWindow) 1) (V 12 1)) wSize) 2) (V 11 2)) wWindow) 2)).length + 6 := numT_len _ _
  refine x_iinc G [(2, xI 3), (0, xR 168), (1, xR 1)] 0 rfl (by decide) (by omega) rfl dX5_tellShards_49 ?_
  refine x_goto G 2 (by decide) dX5_tellShards_52 ?_
  refine x_iload_n G 0 rfl rfl dX5_tellShards_2 ?_
  refine x_iconst G (by decide) dX5_tellShards_3 ?_
  refine x_icmp_ge G 55 (by decide) dX5_tellShards_4 (fun c4 => absurd c4 (by decide)) (fun _ => ?_)
  refine x_aload_n G 1 rfl rfl dX5_tellShards_7 ?_
  refine x_ldcS G (i := 7) rfl dX5_tellShards_8 ?_
  refine x_callVV G [] [xR (1000000 + 7)] rfl (by decide) (ly_n hY 168 (by decide)) (ly_k hY 168 (by decide)) hy_X5_tellWord hi_X5_tellWord hs_X5_tellWord ml_X5_51 rfl rfl (kX5_tellWord _ _ k (numT (numT (wrdT (numT (numT (wrdT (numT (numT (wrdT (numT (numT (wrdT (numT (numT (wrdT (numT (numT (wrdT L wSize) 0) (V 11 0)) wWindow) 0) (V 12 0)) wSize) 1) (V 11 1)) wWindow) 1) (V 12 1)) wSize) 2) (V 11 2)) wWindow) 2) (V 12 2)) 7 wSize hY h46__.1 (by omega) (by omega) ⟨_, _, _, rfl⟩) (by decide) (by decide) (Nat.le_of_ble_eq_true rfl) dX5_tellShards_10 (fun M10___ h10___ => ?_)
  have hn10___ : ((wrdT (numT (numT (wrdT (numT (numT (wrdT (numT (numT (wrdT (numT (numT (wrdT (numT (numT (wrdT (numT (numT (wrdT L wSize) 0) (V 11 0)) wWindow) 0) (V 12 0)) wSize) 1) (V 11 1)) wWindow) 1) (V 12 1)) wSize) 2) (V 11 2)) wWindow) 2) (V 12 2)) wSize)).length ≤ ((numT (numT (wrdT (numT (numT (wrdT (numT (numT (wrdT (numT (numT (wrdT (numT (numT (wrdT (numT (numT (wrdT L wSize) 0) (V 11 0)) wWindow) 0) (V 12 0)) wSize) 1) (V 11 1)) wWindow) 1) (V 12 1)) wSize) 2) (V 11 2)) wWindow) 2) (V 12 2))).length + 7 := Nat.le_trans (wrdT_len _ _) (by rw [Nat.add_assoc]; exact Nat.add_le_add_left (by decide) _)
  refine x_aload_n G 1 rfl rfl dX5_tellShards_13 ?_
  refine x_iload_n G 0 rfl rfl dX5_tellShards_14 ?_
  refine x_callVV G [] [xI 3] rfl (by decide) (ly_n hY 168 (by decide)) (ly_k hY 168 (by decide)) hy_X5_tellNumber hi_X5_tellNumber hs_X5_tellNumber ml_X5_57 rfl rfl (kX5_tellNumber _ _ k (wrdT (numT (numT (wrdT (numT (numT (wrdT (numT (numT (wrdT (numT (numT (wrdT (numT (numT (wrdT (numT (numT (wrdT L wSize) 0) (V 11 0)) wWindow) 0) (V 12 0)) wSize) 1) (V 11 1)) wWindow) 1) (V 12 1)) wSize) 2) (V 11 2)) wWindow) 2) (V 12 2)) wSize) 3 hY h10___.1 (by omega) (by omega) (by omega)) (by decide) (by decide) (Nat.le_of_ble_eq_true rfl) dX5_tellShards_15 (fun M15___ h15___ => ?_)
  have hn15___ : ((numT (wrdT (numT (numT (wrdT (numT (numT (wrdT (numT (numT (wrdT (numT (numT (wrdT (numT (numT (wrdT (numT (numT (wrdT L wSize) 0) (V 11 0)) wWindow) 0) (V 12 0)) wSize) 1) (V 11 1)) wWindow) 1) (V 12 1)) wSize) 2) (V 11 2)) wWindow) 2) (V 12 2)) wSize) 3)).length ≤ ((wrdT (numT (numT (wrdT (numT (numT (wrdT (numT (numT (wrdT (numT (numT (wrdT (numT (numT (wrdT (numT (numT (wrdT L wSize) 0) (V 11 0)) wWindow) 0) (V 12 0)) wSize) 1) (V 11 1)) wWindow) 1) (V 12 1)) wSize) 2) (V 11 2)) wWindow) 2) (V 12 2)) wSize)).length + 6 := numT_len _ _
  refine x_aload_n G 1 rfl rfl dX5_tellShards_18 ?_
  refine x_aload_n G 2 rfl rfl dX5_tellShards_19 ?_
  refine x_get G (xR (1 + 11)) xf3_8 lk_X5_62 (st_n (ly_st1 hY) 0 (by decide)) (st_k (ly_st1 hY) 0 (by decide)) (Or.inr ⟨rfl, _, (st_r (ly_st1 hY) 0 8 (by decide) (by decide)), rfl⟩) dX5_tellShards_20 ?_
  refine x_iload_n G 0 rfl rfl dX5_tellShards_23 ?_
  refine x_iald G (st_n (ly_st1 hY) 11 (by decide)) (st_k (ly_st1 hY) 11 (by decide)) (show _ = 4 from st_l (ly_st1 hY) 11 (by decide)) (by omega) (by omega) dX5_tellShards_24 ?_
  show xX Γ 0 0 n T 25 [(2, xI 3), (0, xR 168), (1, xR 1)] [xI (M15___ (1 + 11) 3), xR 168] M15___
  rw [show M15___ (1 + 11) 3 = (V 11 3) from ((congrFun (h15___.2 (1 + 11) (by omega)) 3).trans ((congrFun (h10___.2 (1 + 11) (by omega)) 3).trans ((congrFun (h46__.2 (1 + 11) (by omega)) 3).trans ((congrFun (h36__.2 (1 + 11) (by omega)) 3).trans ((congrFun (h31__.2 (1 + 11) (by omega)) 3).trans ((congrFun (h25__.2 (1 + 11) (by omega)) 3).trans ((congrFun (h15__.2 (1 + 11) (by omega)) 3).trans ((congrFun (h10__.2 (1 + 11) (by omega)) 3).trans ((congrFun (h46_.2 (1 + 11) (by omega)) 3).trans ((congrFun (h36_.2 (1 + 11) (by omega)) 3).trans ((congrFun (h31_.2 (1 + 11) (by omega)) 3).trans ((congrFun (h25_.2 (1 + 11) (by omega)) 3).trans ((congrFun (h15_.2 (1 + 11) (by omega)) 3).trans ((congrFun (h10_.2 (1 + 11) (by omega)) 3).trans ((congrFun (h46.2 (1 + 11) (by omega)) 3).trans ((congrFun (h36.2 (1 + 11) (by omega)) 3).trans ((congrFun (h31.2 (1 + 11) (by omega)) 3).trans ((congrFun (h25.2 (1 + 11) (by omega)) 3).trans ((congrFun (h15.2 (1 + 11) (by omega)) 3).trans ((congrFun (h10.2 (1 + 11) (by omega)) 3).trans (congrFun (hV 11 (by decide) (by decide) (by decide)) 3)))))))))))))))))))))]
  refine x_callVV G [] [xI (V 11 3)] rfl (by decide) (ly_n hY 168 (by decide)) (ly_k hY 168 (by decide)) hy_X5_tellNumber hi_X5_tellNumber hs_X5_tellNumber ml_X5_57 rfl rfl (kX5_tellNumber _ _ k (numT (wrdT (numT (numT (wrdT (numT (numT (wrdT (numT (numT (wrdT (numT (numT (wrdT (numT (numT (wrdT (numT (numT (wrdT L wSize) 0) (V 11 0)) wWindow) 0) (V 12 0)) wSize) 1) (V 11 1)) wWindow) 1) (V 12 1)) wSize) 2) (V 11 2)) wWindow) 2) (V 12 2)) wSize) 3) (V 11 3) hY h15___.1 (by omega) (by omega) (by omega)) (by decide) (by decide) (Nat.le_of_ble_eq_true rfl) dX5_tellShards_25 (fun M25___ h25___ => ?_)
  have hn25___ : ((numT (numT (wrdT (numT (numT (wrdT (numT (numT (wrdT (numT (numT (wrdT (numT (numT (wrdT (numT (numT (wrdT (numT (numT (wrdT L wSize) 0) (V 11 0)) wWindow) 0) (V 12 0)) wSize) 1) (V 11 1)) wWindow) 1) (V 12 1)) wSize) 2) (V 11 2)) wWindow) 2) (V 12 2)) wSize) 3) (V 11 3))).length ≤ ((numT (wrdT (numT (numT (wrdT (numT (numT (wrdT (numT (numT (wrdT (numT (numT (wrdT (numT (numT (wrdT (numT (numT (wrdT L wSize) 0) (V 11 0)) wWindow) 0) (V 12 0)) wSize) 1) (V 11 1)) wWindow) 1) (V 12 1)) wSize) 2) (V 11 2)) wWindow) 2) (V 12 2)) wSize) 3)).length + 6 := numT_len _ _
  refine x_aload_n G 1 rfl rfl dX5_tellShards_28 ?_
  refine x_ldcS G (i := 8) rfl dX5_tellShards_29 ?_
  refine x_callVV G [] [xR (1000000 + 8)] rfl (by decide) (ly_n hY 168 (by decide)) (ly_k hY 168 (by decide)) hy_X5_tellWord hi_X5_tellWord hs_X5_tellWord ml_X5_51 rfl rfl (kX5_tellWord _ _ k (numT (numT (wrdT (numT (numT (wrdT (numT (numT (wrdT (numT (numT (wrdT (numT (numT (wrdT (numT (numT (wrdT (numT (numT (wrdT L wSize) 0) (V 11 0)) wWindow) 0) (V 12 0)) wSize) 1) (V 11 1)) wWindow) 1) (V 12 1)) wSize) 2) (V 11 2)) wWindow) 2) (V 12 2)) wSize) 3) (V 11 3)) 8 wWindow hY h25___.1 (by omega) (by omega) ⟨_, _, _, rfl⟩) (by decide) (by decide) (Nat.le_of_ble_eq_true rfl) dX5_tellShards_31 (fun M31___ h31___ => ?_)
  have hn31___ : ((wrdT (numT (numT (wrdT (numT (numT (wrdT (numT (numT (wrdT (numT (numT (wrdT (numT (numT (wrdT (numT (numT (wrdT (numT (numT (wrdT L wSize) 0) (V 11 0)) wWindow) 0) (V 12 0)) wSize) 1) (V 11 1)) wWindow) 1) (V 12 1)) wSize) 2) (V 11 2)) wWindow) 2) (V 12 2)) wSize) 3) (V 11 3)) wWindow)).length ≤ ((numT (numT (wrdT (numT (numT (wrdT (numT (numT (wrdT (numT (numT (wrdT (numT (numT (wrdT (numT (numT (wrdT (numT (numT (wrdT L wSize) 0) (V 11 0)) wWindow) 0) (V 12 0)) wSize) 1) (V 11 1)) wWindow) 1) (V 12 1)) wSize) 2) (V 11 2)) wWindow) 2) (V 12 2)) wSize) 3) (V 11 3))).length + 7 := Nat.le_trans (wrdT_len _ _) (by rw [Nat.add_assoc]; exact Nat.add_le_add_left (by decide) _)
  refine x_aload_n G 1 rfl rfl dX5_tellShards_34 ?_
  refine x_iload_n G 0 rfl rfl dX5_tellShards_35 ?_
  refine x_callVV G [] [xI 3] rfl (by decide) (ly_n hY 168 (by decide)) (ly_k hY 168 (by decide)) hy_X5_tellNumber hi_X5_tellNumber hs_X5_tellNumber ml_X5_57 rfl rfl (kX5_tellNumber _ _ k (wrdT (numT (numT (wrdT (numT (numT (wrdT (numT (numT (wrdT (numT (numT (wrdT (numT (numT (wrdT (numT (numT (wrdT (numT (numT (wrdT L wSize) 0) (V 11 0)) wWindow) 0) (V 12 0)) wSize) 1) (V 11 1)) wWindow) 1) (V 12 1)) wSize) 2) (V 11 2)) wWindow) 2) (V 12 2)) wSize) 3) (V 11 3)) wWindow) 3 hY h31___.1 (by omega) (by omega) (by omega)) (by decide) (by decide) (Nat.le_of_ble_eq_true rfl) dX5_tellShards_36 (fun M36___ h36___ => ?_)
  have hn36___ : ((numT (wrdT (numT (numT (wrdT (numT (numT (wrdT (numT (numT (wrdT (numT (numT (wrdT (numT (numT (wrdT (numT (numT (wrdT (numT (numT (wrdT L wSize) 0) (V 11 0)) wWindow) 0) (V 12 0)) wSize) 1) (V 11 1)) wWindow) 1) (V 12 1)) wSize) 2) (V 11 2)) wWindow) 2) (V 12 2)) wSize) 3) (V 11 3)) wWindow) 3)).length ≤ ((wrdT (numT (numT (wrdT (numT (numT (wrdT (numT (numT (wrdT (numT (numT (wrdT (numT (numT (wrdT (numT (numT (wrdT (numT (numT (wrdT L wSize) 0) (V 11 0)) wWindow) 0) (V 12 0)) wSize) 1) (V 11 1)) wWindow) 1) (V 12 1)) wSize) 2) (V 11 2)) wWindow) 2) (V 12 2)) wSize) 3) (V 11 3)) wWindow)).length + 6 := numT_len _ _
  refine x_aload_n G 1 rfl rfl dX5_tellShards_39 ?_
  refine x_aload_n G 2 rfl rfl dX5_tellShards_40 ?_
  refine x_get G (xR (1 + 12)) xf3_9 lk_X5_67 (st_n (ly_st1 hY) 0 (by decide)) (st_k (ly_st1 hY) 0 (by decide)) (Or.inr ⟨rfl, _, (st_r (ly_st1 hY) 0 9 (by decide) (by decide)), rfl⟩) dX5_tellShards_41 ?_
  refine x_iload_n G 0 rfl rfl dX5_tellShards_44 ?_
  refine x_iald G (st_n (ly_st1 hY) 12 (by decide)) (st_k (ly_st1 hY) 12 (by decide)) (show _ = 4 from st_l (ly_st1 hY) 12 (by decide)) (by omega) (by omega) dX5_tellShards_45 ?_
  show xX Γ 0 0 n T 46 [(2, xI 3), (0, xR 168), (1, xR 1)] [xI (M36___ (1 + 12) 3), xR 168] M36___
  rw [show M36___ (1 + 12) 3 = (V 12 3) from ((congrFun (h36___.2 (1 + 12) (by omega)) 3).trans ((congrFun (h31___.2 (1 + 12) (by omega)) 3).trans ((congrFun (h25___.2 (1 + 12) (by omega)) 3).trans ((congrFun (h15___.2 (1 + 12) (by omega)) 3).trans ((congrFun (h10___.2 (1 + 12) (by omega)) 3).trans ((congrFun (h46__.2 (1 + 12) (by omega)) 3).trans ((congrFun (h36__.2 (1 + 12) (by omega)) 3).trans ((congrFun (h31__.2 (1 + 12) (by omega)) 3).trans ((congrFun (h25__.2 (1 + 12) (by omega)) 3).trans ((congrFun (h15__.2 (1 + 12) (by omega)) 3).trans ((congrFun (h10__.2 (1 + 12) (by omega)) 3).trans ((congrFun (h46_.2 (1 + 12) (by omega)) 3).trans ((congrFun (h36_.2 (1 + 12) (by omega)) 3).trans ((congrFun (h31_.2 (1 + 12) (by omega)) 3).trans ((congrFun (h25_.2 (1 + 12) (by omega)) 3).trans ((congrFun (h15_.2 (1 + 12) (by omega)) 3).trans ((congrFun (h10_.2 (1 + 12) (by omega)) 3).trans ((congrFun (h46.2 (1 + 12) (by omega)) 3).trans ((congrFun (h36.2 (1 + 12) (by omega)) 3).trans ((congrFun (h31.2 (1 + 12) (by omega)) 3).trans ((congrFun (h25.2 (1 + 12) (by omega)) 3).trans ((congrFun (h15.2 (1 + 12) (by omega)) 3).trans ((congrFun (h10.2 (1 + 12) (by omega)) 3).trans (congrFun (hV 12 (by decide) (by decide) (by decide)) 3))))))))))))))))))))))))]
  refine x_callVV G [] [xI (V 12 3)] rfl (by decide) (ly_n hY 168 (by decide)) (ly_k hY 168 (by decide)) hy_X5_tellNumber hi_X5_tellNumber hs_X5_tellNumber ml_X5_57 rfl rfl (kX5_tellNumber _ _ k (numT (wrdT (numT (numT (wrdT (numT (numT (wrdT (numT (numT (wrdT (numT (numT (wrdT (numT (numT (wrdT (numT (numT (wrdT (numT (numT (wrdT L wSize) 0) (V 11 0)) wWindow) 0) (V 12 0)) wSize) 1) (V 11 1)) wWindow) 1) (V 12 1)) wSize) 2) (V 11 2)) wWindow) 2) (V 12 2)) wSize) 3) (V 11 3)) wWindow) 3) (V 12 3) hY h36___.1 (by omega) (by omega) (by omega)) (by decide) (by decide) (Nat.le_of_ble_eq_true rfl) dX5_tellShards_46 (fun M46___ h46___ => ?_)
  have hn46___ : ((numT (numT (wrdT (numT (numT (wrdT (numT (numT (wrdT (numT (numT (wrdT (numT (numT (wrdT (numT (numT (wrdT (numT (numT (wrdT (numT (numT (wrdT L wSize) 0) (V 11 0)) wWindow) 0) (V 12 0)) wSize) 1) (V 11 1)) wWindow) 1) (V 12 1)) wSize) 2) (V 11 2)) wWindow) 2) (V 12 2)) wSize) 3) (V 11 3)) wWindow) 3) (V 12 3))).length ≤ ((numT (wrdT (numT (numT (wrdT (numT (numT (wrdT (numT (numT (wrdT (numT (numT (wrdT (numT (numT (wrdT (numT (numT (wrdT (numT (numT (wrdT L wSize) 0) (V 11 0)) wWindow) 0) (V 12 0)) wSize) 1) (V 11 1)) wWindow) 1) (V 12 1)) wSize) 2) (V 11 2)) wWindow) 2) (V 12 2)) wSize) 3) (V 11 3)) wWindow) 3)).length + 6 := numT_len _ _
  refine x_iinc G [(2, xI 4), (0, xR 168), (1, xR 1)] 0 rfl (by decide) (by omega) rfl dX5_tellShards_49 ?_
  refine x_goto G 2 (by decide) dX5_tellShards_52 ?_
  refine x_iload_n G 0 rfl rfl dX5_tellShards_2 ?_
  refine x_iconst G (by decide) dX5_tellShards_3 ?_
  refine x_icmp_ge G 55 (by decide) dX5_tellShards_4 (fun _ => ?_) (fun c4 => absurd c4 (by decide))
  exact x_vret G Rt dX5_tellShards_55 ⟨rfl, rfl, rfl, ⟨h46___.1, (tlf_tr (tlf_tr (tlf_tr (tlf_tr (tlf_tr (tlf_tr (tlf_tr (tlf_tr (tlf_tr (tlf_tr (tlf_tr (tlf_tr (tlf_tr (tlf_tr (tlf_tr (tlf_tr (tlf_tr (tlf_tr (tlf_tr (tlf_tr (tlf_tr (tlf_tr (tlf_tr (tlf_tr (tlf_refl _) (fun q9 g9 => h10.2 q9 (by omega))) (fun q9 g9 => h15.2 q9 (by omega))) (fun q9 g9 => h25.2 q9 (by omega))) (fun q9 g9 => h31.2 q9 (by omega))) (fun q9 g9 => h36.2 q9 (by omega))) (fun q9 g9 => h46.2 q9 (by omega))) (fun q9 g9 => h10_.2 q9 (by omega))) (fun q9 g9 => h15_.2 q9 (by omega))) (fun q9 g9 => h25_.2 q9 (by omega))) (fun q9 g9 => h31_.2 q9 (by omega))) (fun q9 g9 => h36_.2 q9 (by omega))) (fun q9 g9 => h46_.2 q9 (by omega))) (fun q9 g9 => h10__.2 q9 (by omega))) (fun q9 g9 => h15__.2 q9 (by omega))) (fun q9 g9 => h25__.2 q9 (by omega))) (fun q9 g9 => h31__.2 q9 (by omega))) (fun q9 g9 => h36__.2 q9 (by omega))) (fun q9 g9 => h46__.2 q9 (by omega))) (fun q9 g9 => h10___.2 q9 (by omega))) (fun q9 g9 => h15___.2 q9 (by omega))) (fun q9 g9 => h25___.2 q9 (by omega))) (fun q9 g9 => h31___.2 q9 (by omega))) (fun q9 g9 => h36___.2 q9 (by omega))) (fun q9 g9 => h46___.2 q9 (by omega)))⟩⟩
set_option maxRecDepth 100000 in
set_option maxHeartbeats 4000000 in
theorem kX5_tellItem (D : xD) (l : Launch) {n : Nat} {T : xT} {M : xM} (k : Int) (L : List Int) (V : xM) (i : Int) (hY : LayOK n T) (hL : TL M k L) (hl : L.length ≤ 900000) (hV : shw M 1 V) (hv : VOK V) (hi : 0 ≤ i ∧ i < V 0 10) (hl2 : L.length ≤ 700000) : xC D l uX5_tellItem 5 107 0 0 [xR 168, xR 1, xI i] n T M (xPV n T (fun M2 => TL M2 k (itT V i.toNat L) ∧ tlf M M2)) := by
  refine x_met uX5_tellItem (by decide) (Nat.le_of_ble_eq_true rfl) ?_
  intro Γ G Rt _
  have G : xG Γ RX5 cX5_tellItem 3 5 107 0 0 := G
  have Rt : xRt Γ (xPV n T (fun M2 => TL M2 k (itT V i.toNat L) ∧ tlf M M2)) none 0 0 := Rt
  show xX Γ 0 0 n T 0 [(0, xR 168), (1, xR 1), (2, xI i)] [] M
  have hc := ok_c hv
  have hit := ok_i hv hi.1 hi.2
  refine x_aload_n G 0 rfl rfl dX5_tellItem_0 ?_
  refine x_ldcS G (i := 10) rfl dX5_tellItem_1 ?_
  refine x_callVV G [] [xR (1000000 + 10)] rfl (by decide) (ly_n hY 168 (by decide)) (ly_k hY 168 (by decide)) hy_X5_tellWord hi_X5_tellWord hs_X5_tellWord ml_X5_51 rfl rfl (kX5_tellWord _ _ k L 10 wKey hY hL hl (by omega) ⟨_, _, _, rfl⟩) (by decide) (by decide) (Nat.le_of_ble_eq_true rfl) dX5_tellItem_3 (fun M3 h3 => ?_)
  have hn3 : ((wrdT L wKey)).length ≤ (L).length + 7 := Nat.le_trans (wrdT_len _ _) (by rw [Nat.add_assoc]; exact Nat.add_le_add_left (by decide) _)
  refine x_aload_n G 0 rfl rfl dX5_tellItem_6 ?_
  refine x_aload_n G 1 rfl rfl dX5_tellItem_7 ?_
  refine x_get G (xR (1 + 4)) xf3_1 lk_X5_72 (st_n (ly_st1 hY) 0 (by decide)) (st_k (ly_st1 hY) 0 (by decide)) (Or.inr ⟨rfl, _, (st_r (ly_st1 hY) 0 1 (by decide) (by decide)), rfl⟩) dX5_tellItem_8 ?_
  refine x_iload_n G 2 rfl rfl dX5_tellItem_11 ?_
  refine x_iald G (st_n (ly_st1 hY) 4 (by decide)) (st_k (ly_st1 hY) 4 (by decide)) (show _ = 100 from st_l (ly_st1 hY) 4 (by decide)) (by omega) (by omega) dX5_tellItem_12 ?_
  rw [show M3 (1 + 4) i.toNat = (V 4 i.toNat) from ((congrFun (h3.2 (1 + 4) (by omega)) i.toNat).trans (congrFun (hV 4 (by decide) (by decide) (by decide)) i.toNat))]
  refine x_callVV G [] [xI (V 4 i.toNat)] rfl (by decide) (ly_n hY 168 (by decide)) (ly_k hY 168 (by decide)) hy_X5_tellNumber hi_X5_tellNumber hs_X5_tellNumber ml_X5_57 rfl rfl (kX5_tellNumber _ _ k (wrdT L wKey) (V 4 i.toNat) hY h3.1 (by omega) (by omega) (by omega)) (by decide) (by decide) (Nat.le_of_ble_eq_true rfl) dX5_tellItem_13 (fun M13 h13 => ?_)
  have hn13 : ((numT (wrdT L wKey) (V 4 i.toNat))).length ≤ ((wrdT L wKey)).length + 6 := numT_len _ _
  refine x_aload_n G 0 rfl rfl dX5_tellItem_16 ?_
  refine x_bipush G (by decide) dX5_tellItem_17 ?_
  refine x_callVV G [] [xI 32] rfl (by decide) (ly_n hY 168 (by decide)) (ly_k hY 168 (by decide)) hy_X5_tellByte hi_X5_tellByte hs_X5_tellByte ml_X5_75 rfl rfl (kX5_tellByte _ _ k (numT (wrdT L wKey) (V 4 i.toNat)) 32 hY h13.1 (by omega)) (by decide) (by decide) (Nat.le_of_ble_eq_true rfl) dX5_tellItem_19 (fun M19 h19 => ?_)
  have hn19 : (((numT (wrdT L wKey) (V 4 i.toNat)) ++ [32])).length ≤ ((numT (wrdT L wKey) (V 4 i.toNat))).length + 1 := (by rw [List.length_append]; exact Nat.le_refl _)
  refine x_aload_n G 0 rfl rfl dX5_tellItem_22 ?_
  refine x_bipush G (by decide) dX5_tellItem_23 ?_
  refine x_aload_n G 1 rfl rfl dX5_tellItem_25 ?_
  refine x_get G (xR (1 + 5)) xf3_2 lk_X5_78 (st_n (ly_st1 hY) 0 (by decide)) (st_k (ly_st1 hY) 0 (by decide)) (Or.inr ⟨rfl, _, (st_r (ly_st1 hY) 0 2 (by decide) (by decide)), rfl⟩) dX5_tellItem_26 ?_
  refine x_iload_n G 2 rfl rfl dX5_tellItem_29 ?_
  refine x_iald G (st_n (ly_st1 hY) 5 (by decide)) (st_k (ly_st1 hY) 5 (by decide)) (show _ = 100 from st_l (ly_st1 hY) 5 (by decide)) (by omega) (by omega) dX5_tellItem_30 ?_
  rw [show M19 (1 + 5) i.toNat = (V 5 i.toNat) from ((congrFun (h19.2 (1 + 5) (by omega)) i.toNat).trans ((congrFun (h13.2 (1 + 5) (by omega)) i.toNat).trans ((congrFun (h3.2 (1 + 5) (by omega)) i.toNat).trans (congrFun (hV 5 (by decide) (by decide) (by decide)) i.toNat))))]
  refine x_iadd G (by omega) dX5_tellItem_31 ?_
  refine x_callVV G [] [xI (97 + (V 5 i.toNat))] rfl (by decide) (ly_n hY 168 (by decide)) (ly_k hY 168 (by decide)) hy_X5_tellByte hi_X5_tellByte hs_X5_tellByte ml_X5_75 rfl rfl (kX5_tellByte _ _ k ((numT (wrdT L wKey) (V 4 i.toNat)) ++ [32]) (97 + (V 5 i.toNat)) hY h19.1 (by omega)) (by decide) (by decide) (Nat.le_of_ble_eq_true rfl) dX5_tellItem_32 (fun M32 h32 => ?_)
  have hn32 : ((((numT (wrdT L wKey) (V 4 i.toNat)) ++ [32]) ++ [(97 + (V 5 i.toNat))])).length ≤ (((numT (wrdT L wKey) (V 4 i.toNat)) ++ [32])).length + 1 := (by rw [List.length_append]; exact Nat.le_refl _)
  refine x_aload_n G 0 rfl rfl dX5_tellItem_35 ?_
  refine x_aload_n G 1 rfl rfl dX5_tellItem_36 ?_
  refine x_get G (xR (1 + 6)) xf3_3 lk_X5_81 (st_n (ly_st1 hY) 0 (by decide)) (st_k (ly_st1 hY) 0 (by decide)) (Or.inr ⟨rfl, _, (st_r (ly_st1 hY) 0 3 (by decide) (by decide)), rfl⟩) dX5_tellItem_37 ?_
  refine x_iload_n G 2 rfl rfl dX5_tellItem_40 ?_
  refine x_iald G (st_n (ly_st1 hY) 6 (by decide)) (st_k (ly_st1 hY) 6 (by decide)) (show _ = 100 from st_l (ly_st1 hY) 6 (by decide)) (by omega) (by omega) dX5_tellItem_41 ?_
  rw [show M32 (1 + 6) i.toNat = (V 6 i.toNat) from ((congrFun (h32.2 (1 + 6) (by omega)) i.toNat).trans ((congrFun (h19.2 (1 + 6) (by omega)) i.toNat).trans ((congrFun (h13.2 (1 + 6) (by omega)) i.toNat).trans ((congrFun (h3.2 (1 + 6) (by omega)) i.toNat).trans (congrFun (hV 6 (by decide) (by decide) (by decide)) i.toNat)))))]
  refine x_callVV G [] [xI (V 6 i.toNat)] rfl (by decide) (ly_n hY 168 (by decide)) (ly_k hY 168 (by decide)) hy_X5_tellNumber hi_X5_tellNumber hs_X5_tellNumber ml_X5_57 rfl rfl (kX5_tellNumber _ _ k (((numT (wrdT L wKey) (V 4 i.toNat)) ++ [32]) ++ [(97 + (V 5 i.toNat))]) (V 6 i.toNat) hY h32.1 (by omega) (by omega) (by omega)) (by decide) (by decide) (Nat.le_of_ble_eq_true rfl) dX5_tellItem_42 (fun M42 h42 => ?_)
  have hn42 : ((numT (((numT (wrdT L wKey) (V 4 i.toNat)) ++ [32]) ++ [(97 + (V 5 i.toNat))]) (V 6 i.toNat))).length ≤ ((((numT (wrdT L wKey) (V 4 i.toNat)) ++ [32]) ++ [(97 + (V 5 i.toNat))])).length + 6 := numT_len _ _
  refine x_aload_n G 0 rfl rfl dX5_tellItem_45 ?_
  refine x_aload_n G 1 rfl rfl dX5_tellItem_46 ?_
  refine x_get G (xR (1 + 7)) xf3_4 lk_X5_84 (st_n (ly_st1 hY) 0 (by decide)) (st_k (ly_st1 hY) 0 (by decide)) (Or.inr ⟨rfl, _, (st_r (ly_st1 hY) 0 4 (by decide) (by decide)), rfl⟩) dX5_tellItem_47 ?_
  refine x_iload_n G 2 rfl rfl dX5_tellItem_50 ?_
  refine x_iald G (st_n (ly_st1 hY) 7 (by decide)) (st_k (ly_st1 hY) 7 (by decide)) (show _ = 100 from st_l (ly_st1 hY) 7 (by decide)) (by omega) (by omega) dX5_tellItem_51 ?_
  rw [show M42 (1 + 7) i.toNat = (V 7 i.toNat) from ((congrFun (h42.2 (1 + 7) (by omega)) i.toNat).trans ((congrFun (h32.2 (1 + 7) (by omega)) i.toNat).trans ((congrFun (h19.2 (1 + 7) (by omega)) i.toNat).trans ((congrFun (h13.2 (1 + 7) (by omega)) i.toNat).trans ((congrFun (h3.2 (1 + 7) (by omega)) i.toNat).trans (congrFun (hV 7 (by decide) (by decide) (by decide)) i.toNat))))))]
  refine x_callVV G [] [xI (V 7 i.toNat)] rfl (by decide) (ly_n hY 168 (by decide)) (ly_k hY 168 (by decide)) hy_X5_tellNumber hi_X5_tellNumber hs_X5_tellNumber ml_X5_57 rfl rfl (kX5_tellNumber _ _ k (numT (((numT (wrdT L wKey) (V 4 i.toNat)) ++ [32]) ++ [(97 + (V 5 i.toNat))]) (V 6 i.toNat)) (V 7 i.toNat) hY h42.1 (by omega) (by omega) (by omega)) (by decide) (by decide) (Nat.le_of_ble_eq_true rfl) dX5_tellItem_52 (fun M52 h52 => ?_)
  have hn52 : ((numT (numT (((numT (wrdT L wKey) (V 4 i.toNat)) ++ [32]) ++ [(97 + (V 5 i.toNat))]) (V 6 i.toNat)) (V 7 i.toNat))).length ≤ ((numT (((numT (wrdT L wKey) (V 4 i.toNat)) ++ [32]) ++ [(97 + (V 5 i.toNat))]) (V 6 i.toNat))).length + 6 := numT_len _ _
  exact x_vret G Rt dX5_tellItem_55 ⟨rfl, rfl, rfl, ⟨h52.1, (tlf_tr (tlf_tr (tlf_tr (tlf_tr (tlf_tr (tlf_tr (tlf_refl _) (fun q9 g9 => h3.2 q9 (by omega))) (fun q9 g9 => h13.2 q9 (by omega))) (fun q9 g9 => h19.2 q9 (by omega))) (fun q9 g9 => h32.2 q9 (by omega))) (fun q9 g9 => h42.2 q9 (by omega))) (fun q9 g9 => h52.2 q9 (by omega)))⟩⟩
set_option maxRecDepth 100000 in
set_option maxHeartbeats 4000000 in
theorem kX5_kth (D : xD) (l : Launch) {n : Nat} {T : xT} {M : xM} (k : Int) (V : xM) (hY : LayOK n T) (hV : shw M 1 V) (hv : VOK V) (hk : -1 ≤ k) : xC D l uX5_kth 6 129 0 0 [xR 168, xR 1, xI k] n T M (xPI n T (fun z M2 => z = kthI (txt V) k ∧ xof [168] M M2)) := by
  refine x_met uX5_kth (by decide) (Nat.le_of_ble_eq_true rfl) ?_
  intro Γ G Rt _
  have G : xG Γ RX5 cX5_kth 5 6 129 0 0 := G
  have Rt : xRt Γ (xPI n T (fun z M2 => z = kthI (txt V) k ∧ xof [168] M M2)) (some .int) 0 0 := Rt
  show xX Γ 0 0 n T 0 [(0, xR 168), (1, xR 1), (2, xI k)] [] M
  have hc := ok_c hv
  have hsc := hv.1
  have hnil : ([] : List Int).length = 0 := rfl
  refine x_aload_n G 0 rfl rfl dX5_kth_0 ?_
  refine x_iload_n G 2 rfl rfl dX5_kth_1 ?_
  refine x_put G  xf5_0 lk_X5_9 (ly_n hY 168 (by decide)) (ly_k hY 168 (by decide)) rfl dX5_kth_2 ?_
  refine x_aload_n G 0 rfl rfl dX5_kth_5 ?_
  refine x_bipush G (by decide) dX5_kth_6 ?_
  refine x_put G  xf5_1 lk_X5_15 (ly_n hY 168 (by decide)) (ly_k hY 168 (by decide)) rfl dX5_kth_8 ?_
  refine x_aload_n G 0 rfl rfl dX5_kth_11 ?_
  refine x_iconst G (by decide) dX5_kth_12 ?_
  refine x_put G  xf5_2 lk_X5_18 (ly_n hY 168 (by decide)) (ly_k hY 168 (by decide)) rfl dX5_kth_13 ?_
  refine x_aload_n G 0 rfl rfl dX5_kth_16 ?_
  refine x_aload_n G 1 rfl rfl dX5_kth_17 ?_
  skip
  refine x_callVV G [] [xR 1] rfl (by decide) (ly_n hY 168 (by decide)) (ly_k hY 168 (by decide)) hy_X5_tellShards hi_X5_tellShards hs_X5_tellShards ml_X5_21 rfl rfl (kX5_tellShards _ _ k ([] : List Int) V hY ⟨by simp [xst_eq], by simp [xst_eq], by simp [xst_eq, hrd] <;> omega⟩ (by decide) (shw_st (shw_st (shw_st hV (by omega)) (by omega)) (by omega)) hv (by omega)) (by decide) (by decide) (Nat.le_of_ble_eq_true rfl) dX5_kth_18 (fun M18 h18 => ?_)
  have hn18 : ((shT V 3 (shT V 2 (shT V 1 (shT V 0 ([] : List Int)))))).length ≤ (([] : List Int)).length + 160 := by (have h1 := shT_len V 0 ([] : List Int); have h2 := shT_len V 1 (shT V 0 ([] : List Int)); have h3 := shT_len V 2 (shT V 1 (shT V 0 ([] : List Int))); have h4 := shT_len V 3 (shT V 2 (shT V 1 (shT V 0 ([] : List Int)))); omega)
  refine x_iconst G (by decide) dX5_kth_21 ?_
  refine x_istore_n G [(3, xI 0), (0, xR 168), (1, xR 1), (2, xI k)] rfl (by decide) rfl dX5_kth_22 ?_
  refine x_iconst G (by decide) dX5_kth_23 ?_
  refine x_istore G [(4, xI 0), (3, xI 0), (0, xR 168), (1, xR 1), (2, xI k)] (by decide) rfl dX5_kth_24 ?_
  have loop26 : ∀ (d : Nat) (j : Int) (t : Int) (M1 : xM), (V 0 10 - j).toNat = d → (0 ≤ j ∧ j ≤ V 0 10) → (t = (alT V j.toNat).2) → (shw M1 1 V) → (TL M1 k (alT V j.toNat).1) → (tlf M M1) → xX Γ 0 0 n T 26 [(0, xR 168), (1, xR 1), (2, xI k), (3, xI t), (4, xI j)] [] M1 := by
    intro d
    induction d using Nat.strongRecOn with
    | ind d ih26 =>
    intro j t M1 hd26 hj htk hV1 hT1 hf1
    have hal := alT_len V j.toNat
    have hat := alT_t hv j.toNat (by omega)
    refine x_iload G 4 rfl dX5_kth_26 ?_
    refine x_aload_n G 1 rfl rfl dX5_kth_28 ?_
    refine x_get G (xI (M1 1 10)) xf3_10 lk_X5_25 (st_n (ly_st1 hY) 0 (by decide)) (st_k (ly_st1 hY) 0 (by decide)) (Or.inl ⟨rfl, rfl⟩) dX5_kth_29 ?_
    rw [show M1 1 10 = (V 0 10) from (congrFun (hV1 0 (by decide) (by decide) (by decide)) 10)]
    refine x_icmp_ge G 79 (by decide) dX5_kth_32 (fun c32 => ?_) (fun c32 => ?_)
    · skip
      refine x_aload_n G 0 rfl rfl dX5_kth_79 ?_
      refine x_aload_n G 1 rfl rfl dX5_kth_80 ?_
      refine x_get G (xI (M1 1 11)) xf3_11 lk_X5_46 (st_n (ly_st1 hY) 0 (by decide)) (st_k (ly_st1 hY) 0 (by decide)) (Or.inl ⟨rfl, rfl⟩) dX5_kth_81 ?_
      rw [show M1 1 11 = (V 0 11) from (congrFun (hV1 0 (by decide) (by decide) (by decide)) 11)]
      refine x_iload_n G 3 rfl rfl dX5_kth_84 ?_
      refine x_isub G (by omega) dX5_kth_85 ?_
      refine x_callVV G [] [xI ((V 0 11) - t)] rfl (by decide) (ly_n hY 168 (by decide)) (ly_k hY 168 (by decide)) hy_X5_tellWaits hi_X5_tellWaits hs_X5_tellWaits ml_X5_38 rfl rfl (kX5_tellWaits _ _ k ((alT V j.toNat).1) ((V 0 11) - t) hY hT1 (by omega) (by omega) (by omega)) (by decide) (by decide) (Nat.le_of_ble_eq_true rfl) dX5_kth_86 (fun M86 h86 => ?_)
      have hn86 : ((twn 12 (alT V j.toNat).1 ((V 0 11) - t))).length ≤ ((alT V j.toNat).1).length + 132 := twn_len _ _ _
      refine x_aload_n G 0 rfl rfl dX5_kth_89 ?_
      refine x_ldcS G (i := 11) rfl dX5_kth_90 ?_
      refine x_callVV G [] [xR (1000000 + 11)] rfl (by decide) (ly_n hY 168 (by decide)) (ly_k hY 168 (by decide)) hy_X5_tellWord hi_X5_tellWord hs_X5_tellWord ml_X5_51 rfl rfl (kX5_tellWord _ _ k (twn 12 (alT V j.toNat).1 ((V 0 11) - t)) 11 wSeed hY h86.1 (by omega) (by omega) ⟨_, _, _, rfl⟩) (by decide) (by decide) (Nat.le_of_ble_eq_true rfl) dX5_kth_92 (fun M92 h92 => ?_)
      have hn92 : ((wrdT (twn 12 (alT V j.toNat).1 ((V 0 11) - t)) wSeed)).length ≤ ((twn 12 (alT V j.toNat).1 ((V 0 11) - t))).length + 7 := Nat.le_trans (wrdT_len _ _) (by rw [Nat.add_assoc]; exact Nat.add_le_add_left (by decide) _)
      refine x_aload_n G 0 rfl rfl dX5_kth_95 ?_
      refine x_aload_n G 1 rfl rfl dX5_kth_96 ?_
      refine x_get G (xI (M92 1 12)) xf3_12 lk_X5_55 (st_n (ly_st1 hY) 0 (by decide)) (st_k (ly_st1 hY) 0 (by decide)) (Or.inl ⟨rfl, rfl⟩) dX5_kth_97 ?_
      rw [show M92 1 12 = (V 0 12) from ((congrFun (h92.2 1 (by omega)) 12).trans ((congrFun (h86.2 1 (by omega)) 12).trans (congrFun (hV1 0 (by decide) (by decide) (by decide)) 12)))]
      refine x_callVV G [] [xI (V 0 12)] rfl (by decide) (ly_n hY 168 (by decide)) (ly_k hY 168 (by decide)) hy_X5_tellNumber hi_X5_tellNumber hs_X5_tellNumber ml_X5_57 rfl rfl (kX5_tellNumber _ _ k (wrdT (twn 12 (alT V j.toNat).1 ((V 0 11) - t)) wSeed) (V 0 12) hY h92.1 (by omega) (by omega) (by omega)) (by decide) (by decide) (Nat.le_of_ble_eq_true rfl) dX5_kth_100 (fun M100 h100 => ?_)
      have hn100 : ((numT (wrdT (twn 12 (alT V j.toNat).1 ((V 0 11) - t)) wSeed) (V 0 12))).length ≤ ((wrdT (twn 12 (alT V j.toNat).1 ((V 0 11) - t)) wSeed)).length + 6 := numT_len _ _
      refine x_iload_n G 2 rfl rfl dX5_kth_103 ?_
      refine x_iconst G (by decide) dX5_kth_104 ?_
      refine x_icmp_ne G 115 (by decide) dX5_kth_105 (fun c105 => ?_) (fun c105 => ?_)
      · skip
        refine x_aload_n G 0 rfl rfl dX5_kth_115 ?_
        refine x_get G (xI (M100 168 1)) xf5_1 lk_X5_15 (ly_n hY 168 (by decide)) (ly_k hY 168 (by decide)) (Or.inl ⟨rfl, rfl⟩) dX5_kth_116 ?_
        exact x_iret G Rt dX5_kth_119 ⟨rfl, rfl, _, rfl, (by
        have e9 : j = V 0 10 := by omega
        have h9 : TL M100 k (txt V) := by
          have h8 := h100.1
          rw [htk, e9] at h8
          exact h8
        exact ⟨by unfold kthI; rw [if_neg (by omega)]; exact h9.2.2, fun q hq => (tlf_tr (tlf_tr (tlf_tr hf1 (fun q9 g9 => h86.2 q9 (by omega))) (fun q9 g9 => h92.2 q9 (by omega))) (fun q9 g9 => h100.2 q9 (by omega))) q (by simp at hq; omega)⟩)⟩
      · skip
        refine x_aload_n G 0 rfl rfl dX5_kth_108 ?_
        refine x_get G (xI (M100 168 2)) xf5_2 lk_X5_18 (ly_n hY 168 (by decide)) (ly_k hY 168 (by decide)) (Or.inl ⟨rfl, rfl⟩) dX5_kth_109 ?_
        refine x_goto G 119 (by decide) dX5_kth_112 ?_
        exact x_iret G Rt dX5_kth_119 ⟨rfl, rfl, _, rfl, (by
        have e9 : j = V 0 10 := by omega
        have h9 : TL M100 k (txt V) := by
          have h8 := h100.1
          rw [htk, e9] at h8
          exact h8
        exact ⟨by unfold kthI; rw [if_pos (by omega)]; exact h9.2.1, fun q hq => (tlf_tr (tlf_tr (tlf_tr hf1 (fun q9 g9 => h86.2 q9 (by omega))) (fun q9 g9 => h92.2 q9 (by omega))) (fun q9 g9 => h100.2 q9 (by omega))) q (by simp at hq; omega)⟩)⟩
    · skip
      have hit := ok_i hv hj.1 (by omega)
      have hat3 := hat.2.2 j.toNat (by omega) (by omega)
      refine x_aload_n G 1 rfl rfl dX5_kth_35 ?_
      refine x_get G (xR (1 + 9)) xf3_6 lk_X5_30 (st_n (ly_st1 hY) 0 (by decide)) (st_k (ly_st1 hY) 0 (by decide)) (Or.inr ⟨rfl, _, (st_r (ly_st1 hY) 0 6 (by decide) (by decide)), rfl⟩) dX5_kth_36 ?_
      refine x_iload G 4 rfl dX5_kth_39 ?_
      refine x_zald G (st_n (ly_st1 hY) 9 (by decide)) (st_k (ly_st1 hY) 9 (by decide)) (show _ = 100 from st_l (ly_st1 hY) 9 (by decide)) (by omega) (by omega) dX5_kth_41 ?_
      rw [show M1 (1 + 9) j.toNat = (V 9 j.toNat) from (congrFun (hV1 9 (by decide) (by decide) (by decide)) j.toNat)]
      refine x_if_ne G 73 (by decide) dX5_kth_42 (fun c42 => ?_) (fun c42 => ?_)
      · skip
        refine x_iinc G [(4, xI (j + 1)), (0, xR 168), (1, xR 1), (2, xI k), (3, xI t)] 4 rfl (by decide) (by omega) rfl dX5_kth_73 ?_
        refine x_goto G 26 (by decide) dX5_kth_76 ?_
        refine x_sub [(0, xR 168), (1, xR 1), (2, xI k), (3, xI t), (4, xI (j + 1))] [1, 2, 3, 4, 0] rfl ?_
        exact ih26 _ (by omega) (j + 1) t M1 rfl (by omega) ((by rw [show (j + 1).toNat = j.toNat + 1 by omega]; unfold alT; rw [if_neg (by omega)]; exact htk)) (hV1) ((by rw [show (j + 1).toNat = j.toNat + 1 by omega]; unfold alT; rw [if_neg (by omega)]; exact hT1)) (hf1)
      · skip
        refine x_aload_n G 0 rfl rfl dX5_kth_45 ?_
        refine x_aload_n G 1 rfl rfl dX5_kth_46 ?_
        refine x_get G (xR (1 + 8)) xf3_5 lk_X5_34 (st_n (ly_st1 hY) 0 (by decide)) (st_k (ly_st1 hY) 0 (by decide)) (Or.inr ⟨rfl, _, (st_r (ly_st1 hY) 0 5 (by decide) (by decide)), rfl⟩) dX5_kth_47 ?_
        refine x_iload G 4 rfl dX5_kth_50 ?_
        refine x_iald G (st_n (ly_st1 hY) 8 (by decide)) (st_k (ly_st1 hY) 8 (by decide)) (show _ = 100 from st_l (ly_st1 hY) 8 (by decide)) (by omega) (by omega) dX5_kth_52 ?_
        rw [show M1 (1 + 8) j.toNat = (V 8 j.toNat) from (congrFun (hV1 8 (by decide) (by decide) (by decide)) j.toNat)]
        refine x_iload_n G 3 rfl rfl dX5_kth_53 ?_
        refine x_isub G (by omega) dX5_kth_54 ?_
        refine x_callVV G [] [xI ((V 8 j.toNat) - t)] rfl (by decide) (ly_n hY 168 (by decide)) (ly_k hY 168 (by decide)) hy_X5_tellWaits hi_X5_tellWaits hs_X5_tellWaits ml_X5_38 rfl rfl (kX5_tellWaits _ _ k ((alT V j.toNat).1) ((V 8 j.toNat) - t) hY hT1 (by omega) (by omega) (by omega)) (by decide) (by decide) (Nat.le_of_ble_eq_true rfl) dX5_kth_55 (fun M55 h55 => ?_)
        have hn55 : ((twn 12 (alT V j.toNat).1 ((V 8 j.toNat) - t))).length ≤ ((alT V j.toNat).1).length + 132 := twn_len _ _ _
        refine x_aload_n G 1 rfl rfl dX5_kth_58 ?_
        refine x_get G (xR (1 + 8)) xf3_5 lk_X5_34 (st_n (ly_st1 hY) 0 (by decide)) (st_k (ly_st1 hY) 0 (by decide)) (Or.inr ⟨rfl, _, (st_r (ly_st1 hY) 0 5 (by decide) (by decide)), rfl⟩) dX5_kth_59 ?_
        refine x_iload G 4 rfl dX5_kth_62 ?_
        refine x_iald G (st_n (ly_st1 hY) 8 (by decide)) (st_k (ly_st1 hY) 8 (by decide)) (show _ = 100 from st_l (ly_st1 hY) 8 (by decide)) (by omega) (by omega) dX5_kth_64 ?_
        rw [show M55 (1 + 8) j.toNat = (V 8 j.toNat) from ((congrFun (h55.2 (1 + 8) (by omega)) j.toNat).trans (congrFun (hV1 8 (by decide) (by decide) (by decide)) j.toNat))]
        refine x_istore_n G [(3, xI (V 8 j.toNat)), (0, xR 168), (1, xR 1), (2, xI k), (4, xI j)] rfl (by decide) rfl dX5_kth_65 ?_
        refine x_aload_n G 1 rfl rfl dX5_kth_66 ?_
        refine x_aload_n G 2 rfl rfl dX5_kth_67 ?_
        refine x_iload G 4 rfl dX5_kth_68 ?_
        refine x_callVV G [] [xR 1, xI j] rfl (by decide) (ly_n hY 168 (by decide)) (ly_k hY 168 (by decide)) hy_X5_tellItem hi_X5_tellItem hs_X5_tellItem ml_X5_42 rfl rfl (kX5_tellItem _ _ k (twn 12 (alT V j.toNat).1 ((V 8 j.toNat) - t)) V j hY h55.1 (by omega) (shw_fr hV1 (fun k9 h1 h2 h3 => h55.2 (1 + k9) (by omega))) hv (by omega) (by omega)) (by decide) (by decide) (Nat.le_of_ble_eq_true rfl) dX5_kth_70 (fun M70 h70 => ?_)
        have hn70 : ((itT V j.toNat (twn 12 (alT V j.toNat).1 ((V 8 j.toNat) - t)))).length ≤ ((twn 12 (alT V j.toNat).1 ((V 8 j.toNat) - t))).length + 30 := itT_len _ _ _
        refine x_iinc G [(4, xI (j + 1)), (3, xI (V 8 j.toNat)), (0, xR 168), (1, xR 1), (2, xI k)] 4 rfl (by decide) (by omega) rfl dX5_kth_73 ?_
        refine x_goto G 26 (by decide) dX5_kth_76 ?_
        refine x_sub [(0, xR 168), (1, xR 1), (2, xI k), (3, xI (V 8 j.toNat)), (4, xI (j + 1))] [2, 3, 4, 1, 0] rfl ?_
        exact ih26 _ (by omega) (j + 1) (V 8 j.toNat) M70 rfl (by omega) ((by rw [show (j + 1).toNat = j.toNat + 1 by omega]; unfold alT; rw [if_pos (by omega)])) ((shw_fr (shw_fr hV1 (fun k9 h1 h2 h3 => h55.2 (1 + k9) (by omega))) (fun k9 h1 h2 h3 => h70.2 (1 + k9) (by omega)))) ((by rw [show (j + 1).toNat = j.toNat + 1 by omega]; unfold alT; rw [if_pos (by omega), ← htk]; exact h70.1)) ((tlf_tr (tlf_tr hf1 (fun q9 g9 => h55.2 q9 (by omega))) (fun q9 g9 => h70.2 q9 (by omega))))
  refine x_sub [(0, xR 168), (1, xR 1), (2, xI k), (3, xI 0), (4, xI 0)] [2, 3, 4, 1, 0] rfl ?_
  exact loop26 _ 0 0 M18 rfl (by omega) (rfl) ((shw_fr (shw_st (shw_st (shw_st hV (by omega)) (by omega)) (by omega)) (fun k9 h1 h2 h3 => h18.2 (1 + k9) (by omega)))) (h18.1) ((tlf_tr (tlf_tr (tlf_tr (tlf_tr (tlf_refl _) (fun q9 g9 => xst_row g9)) (fun q9 g9 => xst_row g9)) (fun q9 g9 => xst_row g9)) (fun q9 g9 => h18.2 q9 (by omega))))
set_option maxRecDepth 100000 in
set_option maxHeartbeats 4000000 in
theorem kX6_told (D : xD) (l : Launch) {n : Nat} {T : xT} {M : xM} (V : xM) (k : Int) (hY : LayOK n T) (hV : shw M 1 V) (hv : VOK V) : xC D l uX6_told 7 153 0 0 [xR 0, xI k] n T M (xPI n T (fun z M2 => z = qTold V k ∧ xof [168] M M2)) := by
  refine x_met uX6_told (by decide) (Nat.le_of_ble_eq_true rfl) ?_
  intro Γ G Rt _
  have G : xG Γ RX6 cX6_told 2 7 153 0 0 := G
  have Rt : xRt Γ (xPI n T (fun z M2 => z = qTold V k ∧ xof [168] M M2)) (some .int) 0 0 := Rt
  show xX Γ 0 0 n T 0 [(0, xR 0), (1, xI k)] [] M
  refine x_iload_n G 1 rfl rfl dX6_told_0 ?_
  refine x_iconst G (by decide) dX6_told_1 ?_
  refine x_icmp_ge G 7 (by decide) dX6_told_2 (fun c2 => ?_) (fun c2 => ?_)
  · skip
    refine x_aload_n G 0 rfl rfl dX6_told_7 ?_
    refine x_get G (xR 168) xf6_6 lk_X6_47 (ly_n hY 0 (by decide)) (ly_k hY 0 (by decide)) (Or.inr ⟨rfl, _, (ly_r hY 0 6 (by decide) (by decide)), rfl⟩) dX6_told_8 ?_
    refine x_aload_n G 0 rfl rfl dX6_told_11 ?_
    refine x_get G (xR 1) xf6_0 lk_X6_10 (ly_n hY 0 (by decide)) (ly_k hY 0 (by decide)) (Or.inr ⟨rfl, _, (ly_r hY 0 0 (by decide) (by decide)), rfl⟩) dX6_told_12 ?_
    refine x_iload_n G 1 rfl rfl dX6_told_15 ?_
    refine x_callVI G [] [xR 1, xI k] rfl (by decide) (ly_n hY 168 (by decide)) (ly_k hY 168 (by decide)) hy_X5_kth hi_X5_kth hs_X5_kth ml_X6_305 rfl rfl (kX5_kth _ _ k V hY hV hv (by omega)) (by decide) (by decide) (Nat.le_of_ble_eq_true rfl) dX6_told_16 (fun z16 M16 h16 => ?_)
    rw [h16.1]
    exact x_iret G Rt dX6_told_19 ⟨rfl, rfl, _, rfl, ⟨(by unfold qTold; rw [if_neg (by omega)]), h16.2⟩⟩
  · skip
    refine x_iconst G (by decide) dX6_told_5 ?_
    exact x_iret G Rt dX6_told_6 ⟨rfl, rfl, _, rfl, ⟨(by unfold qTold; rw [if_pos (by omega)]), xof_refl _ _⟩⟩
