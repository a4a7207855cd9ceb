abbrev SL (M : xM) (k : Int) (L : List Int) : Prop := M 195 15 = k ∧ M 195 14 = (L.length : Int) ∧ M 195 16 = hrd L k
abbrev slf (M M2 : xM) : Prop := (∀ q, q ≠ 195 → M2 q = M q) ∧ ∀ j, j ≠ 14 → j ≠ 16 → M2 195 j = M 195 j
theorem slf_refl (M : xM) : slf M M := ⟨fun _ _ => rfl, fun _ _ _ => rfl⟩
theorem slf_tr {M M1 M2 : xM} (h : slf M M1) (h2 : slf M1 M2) : slf M M2 := ⟨fun q hq => (h2.1 q hq).trans (h.1 q hq), fun j h1 h3 => (h2.2 j h1 h3).trans (h.2 j h1 h3)⟩
set_option maxRecDepth 100000 in
set_option maxHeartbeats 4000000 in
theorem kX7_spell (D : xD) (l : Launch) {n : Nat} {T : xT} {M : xM} (k : Int) (L : List Int) (c : Int) (hY : LayOK n T) (hL : SL M k L) (hl : L.length ≤ 900000) : xC D l uX7_spell 0 0 0 0 [xR 195, xI c] n T M (xPV n T (fun M2 => SL M2 k (L ++ [c]) ∧ slf M M2)) := by
  refine x_met uX7_spell (by decide) (Nat.le_of_ble_eq_true rfl) ?_
  intro Γ G Rt _
  have G : xG Γ RX7 cX7_spell 2 0 0 0 0 := G
  have Rt : xRt Γ (xPV n T (fun M2 => SL M2 k (L ++ [c]) ∧ slf M M2)) none 0 0 := Rt
  show xX Γ 0 0 n T 0 [(0, xR 195), (1, xI c)] [] M
  obtain ⟨hL0, hL2, hL1⟩ := hL
  refine x_aload_n G 0 rfl rfl dX7_spell_0 ?_
  refine x_get G (xI (M 195 14)) xf7_14 lk_X7_231 (ly_n hY 195 (by decide)) (ly_k hY 195 (by decide)) (Or.inl ⟨rfl, rfl⟩) dX7_spell_1 ?_
  refine x_aload_n G 0 rfl rfl dX7_spell_4 ?_
  refine x_get G (xI (M 195 15)) xf7_15 lk_X7_234 (ly_n hY 195 (by decide)) (ly_k hY 195 (by decide)) (Or.inl ⟨rfl, rfl⟩) dX7_spell_5 ?_
  refine x_icmp_ne G 16 (by decide) dX7_spell_8 (fun c8 => ?_) (fun c8 => ?_)
  · skip
    refine x_aload_n G 0 rfl rfl dX7_spell_16 ?_
    refine x_dup G rfl dX7_spell_17 ?_
    refine x_get G (xI (M 195 14)) xf7_14 lk_X7_231 (ly_n hY 195 (by decide)) (ly_k hY 195 (by decide)) (Or.inl ⟨rfl, rfl⟩) dX7_spell_18 ?_
    refine x_iconst G (by decide) dX7_spell_21 ?_
    refine x_iadd G (by omega) dX7_spell_22 ?_
    refine x_put G  xf7_14 lk_X7_231 (ly_n hY 195 (by decide)) (ly_k hY 195 (by decide)) rfl dX7_spell_23 ?_
    exact x_vret G Rt dX7_spell_26 ⟨rfl, rfl, rfl, ⟨⟨by simp [xst_eq]; exact hL0, by simp [xst_eq]; omega, by rw [hrd_add]; rw [if_neg (by omega)]; simp [xst_eq]; exact hL1⟩, fun q hq => by simp (disch := omega) only [xst_row], fun j h1 h2 => by simp (disch := omega) only [xst_nq]⟩⟩
  · skip
    refine x_aload_n G 0 rfl rfl dX7_spell_11 ?_
    refine x_iload_n G 1 rfl rfl dX7_spell_12 ?_
    refine x_put G  xf7_16 lk_X7_237 (ly_n hY 195 (by decide)) (ly_k hY 195 (by decide)) rfl dX7_spell_13 ?_
    refine x_aload_n G 0 rfl rfl dX7_spell_16 ?_
    refine x_dup G rfl dX7_spell_17 ?_
    refine x_get G (xI ((xst M 195 16 c) 195 14)) xf7_14 lk_X7_231 (ly_n hY 195 (by decide)) (ly_k hY 195 (by decide)) (Or.inl ⟨rfl, rfl⟩) dX7_spell_18 ?_
    rw [show (xst M 195 16 c) 195 14 = (M 195 14) from (xst_nq (by omega))]
    refine x_iconst G (by decide) dX7_spell_21 ?_
    refine x_iadd G (by omega) dX7_spell_22 ?_
    refine x_put G  xf7_14 lk_X7_231 (ly_n hY 195 (by decide)) (ly_k hY 195 (by decide)) rfl dX7_spell_23 ?_
    exact x_vret G Rt dX7_spell_26 ⟨rfl, rfl, rfl, ⟨⟨by simp [xst_eq]; exact hL0, by simp [xst_eq]; omega, by rw [hrd_add]; rw [if_pos (by omega)]; simp [xst_eq]⟩, fun q hq => by simp (disch := omega) only [xst_row], fun j h1 h2 => by simp (disch := omega) only [xst_nq]⟩⟩
theorem dgr_len : ∀ (f : Nat) (v : Int), (dgr f v).length ≤ f := fun f => by
  induction f with
  | zero => intro v; exact Nat.le_refl _
  | succ f ih =>
    intro v
    unfold dgr
    split
    · simp
    · have := ih (v / 10)
      rw [List.length_append]
      have : [48 + v % 10].length = 1 := rfl
      omega
set_option maxRecDepth 100000 in
set_option maxHeartbeats 4000000 in
theorem kX7_spellN : ∀ (f : Nat) (D : xD) (l : Launch) {n : Nat} {T : xT} {M : xM} (k : Int) (L : List Int) (v : Int), LayOK n T → SL M k L → L.length + f ≤ 899999 → (0 ≤ v ∧ v < 10 ^ f ∧ v < 1000000) → 1 ≤ f → xC D l uX7_spellNumber f (21 * f) 0 0 [xR 195, xI v] n T M (xPV n T (fun M2 => SL M2 k (L ++ dgr f v) ∧ slf M M2)) := by
  intro f
  induction f with
  | zero => intro D l n T M k L v hY hL hl hv hf; omega
  | succ f ih =>
    intro D l n T M k L v hY hL hl9 hv hf
    have hl : L.length ≤ 900000 := by omega
    have hpw : v < 10 * 10 ^ f := by have h9 := hv.2.1; rw [Int.pow_succ] at h9; omega
    have hf1 : ¬ v ≤ 9 → 1 ≤ f := by (intro h; rcases Nat.eq_zero_or_pos f with g | g; (subst g; have h9 : (10 : Int) ^ 0 = 1 := rfl; omega); exact g)
    refine x_met uX7_spellNumber (by decide) (Nat.le_of_ble_eq_true rfl) ?_
    intro Γ G Rt _
    have G : xG Γ RX7 cX7_spellNumber 2 (f + 1) (21 * (f + 1)) 0 0 := G
    have Rt : xRt Γ (xPV n T (fun M2 => SL M2 k (L ++ dgr (f + 1) v) ∧ slf M M2)) none 0 0 := Rt
    show xX Γ 0 0 n T 0 [(0, xR 195), (1, xI v)] [] M
    refine x_iload_n G 1 rfl rfl dX7_spellNumber_0 ?_
    refine x_bipush G (by decide) dX7_spellNumber_1 ?_
    refine x_icmp_le G 14 (by decide) dX7_spellNumber_3 (fun c3 => ?_) (fun c3 => ?_)
    · skip
      refine x_aload_n G 0 rfl rfl dX7_spellNumber_14 ?_
      refine x_bipush G (by decide) dX7_spellNumber_15 ?_
      refine x_iload_n G 1 rfl rfl dX7_spellNumber_17 ?_
      refine x_bipush G (by decide) dX7_spellNumber_18 ?_
      refine x_irem G (v % 10) (x_nz (by decide) (by decide)) (x_rem' hv.1 ⟨by omega, by omega⟩ (by decide) (by decide)) (by omega) dX7_spellNumber_20 ?_
      refine x_iadd G (by omega) dX7_spellNumber_21 ?_
      refine x_callVV G [] [xI (48 + (v % 10))] rfl (by decide) (ly_n hY 195 (by decide)) (ly_k hY 195 (by decide)) hy_X7_spell hi_X7_spell hs_X7_spell ml_X7_243 rfl rfl (kX7_spell _ _ k L (48 + (v % 10)) hY hL hl) ⟨by omega, show 8 + (2 + 11) + 0 ≤ 21 * (f + 1) by omega⟩ (by decide) (Nat.le_of_ble_eq_true rfl) dX7_spellNumber_22 (fun M22 h22 => ?_)
      have hn22 : ((L ++ [(48 + (v % 10))])).length ≤ (L).length + 1 := by rw [List.length_append]; exact Nat.le_refl _
      exact x_vret G Rt dX7_spellNumber_25 ⟨rfl, rfl, rfl, ⟨by unfold dgr; rw [if_pos (by omega)]; exact h22.1, (slf_tr (slf_refl _) h22.2)⟩⟩
    · skip
      refine x_aload_n G 0 rfl rfl dX7_spellNumber_6 ?_
      refine x_iload_n G 1 rfl rfl dX7_spellNumber_7 ?_
      refine x_bipush G (by decide) dX7_spellNumber_8 ?_
      refine x_idiv G (v / 10) (x_nz (by decide) (by decide)) (x_div' hv.1 ⟨by omega, by omega⟩ (by decide) (by decide)) (by omega) dX7_spellNumber_10 ?_
      refine x_callVV G [] [xI (v / 10)] rfl (by decide) (ly_n hY 195 (by decide)) (ly_k hY 195 (by decide)) hy_X7_spellNumber hi_X7_spellNumber hs_X7_spellNumber ml_X7_240 rfl rfl (ih _ _ (n := n) (T := T) k L (v / 10) hY hL (by omega) ⟨by omega, by omega, by omega⟩ (hf1 (by omega))) ⟨by omega, show 8 + (2 + 11) + 21 * f ≤ 21 * (f + 1) by omega⟩ (by decide) (Nat.le_of_ble_eq_true rfl) dX7_spellNumber_11 (fun M11 h11 => ?_)
      have hn11 : (L ++ dgr f (v / 10)).length ≤ L.length + f := by rw [List.length_append]; have := dgr_len f (v / 10); omega
      refine x_aload_n G 0 rfl rfl dX7_spellNumber_14 ?_
      refine x_bipush G (by decide) dX7_spellNumber_15 ?_
      refine x_iload_n G 1 rfl rfl dX7_spellNumber_17 ?_
      refine x_bipush G (by decide) dX7_spellNumber_18 ?_
      refine x_irem G (v % 10) (x_nz (by decide) (by decide)) (x_rem' hv.1 ⟨by omega, by omega⟩ (by decide) (by decide)) (by omega) dX7_spellNumber_20 ?_
      refine x_iadd G (by omega) dX7_spellNumber_21 ?_
      refine x_callVV G [] [xI (48 + (v % 10))] rfl (by decide) (ly_n hY 195 (by decide)) (ly_k hY 195 (by decide)) hy_X7_spell hi_X7_spell hs_X7_spell ml_X7_243 rfl rfl (kX7_spell _ _ k (L ++ dgr f (v / 10)) (48 + (v % 10)) hY h11.1 (by omega)) ⟨by omega, show 8 + (2 + 11) + 0 ≤ 21 * (f + 1) by omega⟩ (by decide) (Nat.le_of_ble_eq_true rfl) dX7_spellNumber_22 (fun M22 h22 => ?_)
      have hn22 : (((L ++ dgr f (v / 10)) ++ [(48 + (v % 10))])).length ≤ ((L ++ dgr f (v / 10))).length + 1 := by rw [List.length_append]; exact Nat.le_refl _
      exact x_vret G Rt dX7_spellNumber_25 ⟨rfl, rfl, rfl, ⟨by unfold dgr; rw [if_neg (by omega), ← List.append_assoc]; exact h22.1, (slf_tr (slf_tr (slf_refl _) h11.2) h22.2)⟩⟩
theorem kX7_spellNumber (D : xD) (l : Launch) {n : Nat} {T : xT} {M : xM} (k : Int) (L : List Int) (c : Int) (hY : LayOK n T) (hL : SL M k L) (hl : L.length ≤ 900000) (hl9 : L.length ≤ 890000) (hc : 0 ≤ c ∧ c < 100000) : xC D l uX7_spellNumber 6 126 0 0 [xR 195, xI c] n T M (xPV n T (fun M2 => SL M2 k (L ++ dgp c 0) ∧ slf M M2)) := by
  have h := kX7_spellN 6 D l (n := n) (T := T) (M := M) k L c hY hL (by omega) ⟨hc.1, by (have h9 : (10 : Int) ^ 6 = 1000000 := by decide); omega, by omega⟩ (by decide)
  rw [dgr_dgp hc] at h
  exact h
set_option maxRecDepth 100000 in
set_option maxHeartbeats 4000000 in
theorem kX7_spellsOn (D : xD) (l : Launch) {n : Nat} {T : xT} {M : xM} (k : Int) (L : List Int) (c : Int) (hY : LayOK n T) (hL : SL M k L) (hl : L.length ≤ 900000) (hl9 : L.length ≤ 880000) (hc : 0 ≤ c ∧ c < 100000) : xC D l uX7_spellsOn 7 147 0 0 [xR 195, xI c] n T M (xPV n T (fun M2 => SL M2 k (numT L c) ∧ slf M M2)) := by
  refine x_met uX7_spellsOn (by decide) (Nat.le_of_ble_eq_true rfl) ?_
  intro Γ G Rt _
  have G : xG Γ RX7 cX7_spellsOn 2 7 147 0 0 := G
  have Rt : xRt Γ (xPV n T (fun M2 => SL M2 k (numT L c) ∧ slf M M2)) none 0 0 := Rt
  show xX Γ 0 0 n T 0 [(0, xR 195), (1, xI c)] [] M
  refine x_aload_n G 0 rfl rfl dX7_spellsOn_0 ?_
  refine x_bipush G (by decide) dX7_spellsOn_1 ?_
  refine x_callVV G [] [xI 32] rfl (by decide) (ly_n hY 195 (by decide)) (ly_k hY 195 (by decide)) hy_X7_spell hi_X7_spell hs_X7_spell ml_X7_243 rfl rfl (kX7_spell _ _ k L 32 hY hL hl) (by decide) (by decide) (Nat.le_of_ble_eq_true rfl) dX7_spellsOn_3 (fun M3 h3 => ?_)
  have hn3 : ((L ++ [32])).length ≤ (L).length + 1 := by rw [List.length_append]; exact Nat.le_refl _
  refine x_aload_n G 0 rfl rfl dX7_spellsOn_6 ?_
  refine x_iload_n G 1 rfl rfl dX7_spellsOn_7 ?_
  refine x_callVV G [] [xI c] rfl (by decide) (ly_n hY 195 (by decide)) (ly_k hY 195 (by decide)) hy_X7_spellNumber hi_X7_spellNumber hs_X7_spellNumber ml_X7_240 rfl rfl (kX7_spellNumber _ _ k (L ++ [32]) c hY h3.1 (by omega) (by omega) (by omega)) (by decide) (by decide) (Nat.le_of_ble_eq_true rfl) dX7_spellsOn_8 (fun M8 h8 => ?_)
  have hn8 : (((L ++ [32]) ++ dgp c 0)).length ≤ ((L ++ [32])).length + 5 := by rw [List.length_append]; exact Nat.add_le_add_left (dgp_len _ _) _
  exact x_vret G Rt dX7_spellsOn_11 ⟨rfl, rfl, rfl, ⟨h8.1, (slf_tr (slf_tr (slf_refl _) h3.2) h8.2)⟩⟩
set_option maxRecDepth 100000 in
set_option maxHeartbeats 4000000 in
theorem kX7_spells (D : xD) (l : Launch) {n : Nat} {T : xT} {M : xM} (k : Int) (L : List Int) (si : Nat) (bs : List Int) (hY : LayOK n T) (hL : SL M k L) (hl : L.length ≤ 900000) (hl9 : L.length ≤ 880000) (hi : strI si bs) : xC D l uX7_spells 4 85 0 0 [xR 195, xR (1000000 + si)] n T M (xPV n T (fun M2 => SL M2 k (wrdT L bs) ∧ slf M M2)) := by
  refine x_met uX7_spells (by decide) (Nat.le_of_ble_eq_true rfl) ?_
  intro Γ G Rt _
  have G : xG Γ RX7 cX7_spells 3 4 85 0 0 := G
  have Rt : xRt Γ (xPV n T (fun M2 => SL M2 k (wrdT L bs) ∧ slf M M2)) none 0 0 := Rt
  show xX Γ 0 0 n T 0 [(0, xR 195), (1, xR (1000000 + si))] [] M
  have hsb := str_b hi
  have hL2 := hL.2.1
  refine x_aload_n G 0 rfl rfl dX7_spells_0 ?_
  refine x_get G (xI (M 195 14)) xf7_14 lk_X7_231 (ly_n hY 195 (by decide)) (ly_k hY 195 (by decide)) (Or.inl ⟨rfl, rfl⟩) dX7_spells_1 ?_
  refine x_if_le G 13 (by decide) dX7_spells_4 (fun c4 => ?_) (fun c4 => ?_)
  · skip
    refine x_iconst G (by decide) dX7_spells_13 ?_
    refine x_istore_n G [(2, xI 0), (0, xR 195), (1, xR (1000000 + si))] rfl (by decide) rfl dX7_spells_14 ?_
    have loop15 : ∀ (d : Nat) (j : Int) (M1 : xM), (bs.length - j).toNat = d → (0 ≤ j ∧ j ≤ bs.length) → (SL M1 k ((if 0 < L.length then L ++ [59] else L) ++ bs.take j.toNat)) → (slf M M1) → xX Γ 0 0 n T 15 [(0, xR 195), (1, xR (1000000 + si)), (2, xI j)] [] M1 := by
      intro d
      induction d using Nat.strongRecOn with
      | ind d ih15 =>
      intro j M1 hd15 hj hT1 hf1
      have hbj : 0 ≤ j := hj.1
      refine x_iload_n G 2 rfl rfl dX7_spells_15 ?_
      refine x_aload_n G 1 rfl rfl dX7_spells_16 ?_
      refine x_callStr G [xI j] [] hi rfl hy_J0_length_8abf5 hi_J0_length_8abf5 hs_J0_length_8abf5 ml_X7_246 rfl rfl (kJ0_length_8abf5 _ _ si bs hi) (by decide) (by decide) (Nat.le_of_ble_eq_true rfl) dX7_spells_17 ?_
      refine x_icmp_ge G 38 (by decide) dX7_spells_20 (fun c20 => ?_) (fun c20 => ?_)
      · skip
        exact x_vret G Rt dX7_spells_38 ⟨rfl, rfl, rfl, ⟨by have h9 := hT1; rw [List.take_of_length_le (by omega)] at h9; exact h9, hf1⟩⟩
      · skip
        refine x_aload_n G 0 rfl rfl dX7_spells_23 ?_
        refine x_aload_n G 1 rfl rfl dX7_spells_24 ?_
        refine x_iload_n G 2 rfl rfl dX7_spells_25 ?_
        refine x_callStr G [xR 195] [xI j] hi rfl hy_J0_charAt_5068e hi_J0_charAt_5068e hs_J0_charAt_5068e ml_X7_251 rfl rfl (kJ0_charAt_5068e _ _ si bs j hi (by omega) (by omega)) (by decide) (by decide) (Nat.le_of_ble_eq_true rfl) dX7_spells_26 ?_
        refine x_callVV G [] [xI (bs.getD j.toNat 0)] rfl (by decide) (ly_n hY 195 (by decide)) (ly_k hY 195 (by decide)) hy_X7_spell hi_X7_spell hs_X7_spell ml_X7_243 rfl rfl (kX7_spell _ _ k ((if 0 < L.length then L ++ [59] else L) ++ bs.take j.toNat) (bs.getD j.toNat 0) hY hT1 (by have := q0_len L; have := List.length_take_le j.toNat bs; rw [List.length_append]; omega)) (by decide) (by decide) (Nat.le_of_ble_eq_true rfl) dX7_spells_29 (fun M29 h29 => ?_)
        have hn29 : ((((if 0 < L.length then L ++ [59] else L) ++ bs.take j.toNat) ++ [(bs.getD j.toNat 0)])).length ≤ (((if 0 < L.length then L ++ [59] else L) ++ bs.take j.toNat)).length + 1 := by rw [List.length_append]; exact Nat.le_refl _
        refine x_iinc G [(2, xI (j + 1)), (0, xR 195), (1, xR (1000000 + si))] 2 rfl (by decide) (by omega) rfl dX7_spells_32 ?_
        refine x_goto G 15 (by decide) dX7_spells_35 ?_
        refine x_sub [(0, xR 195), (1, xR (1000000 + si)), (2, xI (j + 1))] [1, 2, 0] rfl ?_
        exact ih15 _ (by omega) (j + 1) M29 rfl (by omega) ((by rw [take_one hj.1 (by omega), ← List.append_assoc]; exact h29.1)) ((slf_tr hf1 h29.2))
    refine x_sub [(0, xR 195), (1, xR (1000000 + si)), (2, xI 0)] [1, 2, 0] rfl ?_
    exact loop15 _ 0 M rfl (by omega) ((by rw [show bs.take (0 : Int).toNat = [] from rfl, List.append_nil]; rw [if_neg (by omega)]; exact hL)) ((slf_refl _))
  · skip
    refine x_aload_n G 0 rfl rfl dX7_spells_7 ?_
    refine x_bipush G (by decide) dX7_spells_8 ?_
    refine x_callVV G [] [xI 59] rfl (by decide) (ly_n hY 195 (by decide)) (ly_k hY 195 (by decide)) hy_X7_spell hi_X7_spell hs_X7_spell ml_X7_243 rfl rfl (kX7_spell _ _ k L 59 hY hL hl) (by decide) (by decide) (Nat.le_of_ble_eq_true rfl) dX7_spells_10 (fun M10 h10 => ?_)
    have hn10 : ((L ++ [59])).length ≤ (L).length + 1 := by rw [List.length_append]; exact Nat.le_refl _
    refine x_iconst G (by decide) dX7_spells_13 ?_
    refine x_istore_n G [(2, xI 0), (0, xR 195), (1, xR (1000000 + si))] rfl (by decide) rfl dX7_spells_14 ?_
    have loop15 : ∀ (d : Nat) (j : Int) (M1 : xM), (bs.length - j).toNat = d → (0 ≤ j ∧ j ≤ bs.length) → (SL M1 k ((if 0 < L.length then L ++ [59] else L) ++ bs.take j.toNat)) → (slf M M1) → xX Γ 0 0 n T 15 [(0, xR 195), (1, xR (1000000 + si)), (2, xI j)] [] M1 := by
      intro d
      induction d using Nat.strongRecOn with
      | ind d ih15 =>
      intro j M1 hd15 hj hT1 hf1
      have hbj : 0 ≤ j := hj.1
      refine x_iload_n G 2 rfl rfl dX7_spells_15 ?_
      refine x_aload_n G 1 rfl rfl dX7_spells_16 ?_
      refine x_callStr G [xI j] [] hi rfl hy_J0_length_8abf5 hi_J0_length_8abf5 hs_J0_length_8abf5 ml_X7_246 rfl rfl (kJ0_length_8abf5 _ _ si bs hi) (by decide) (by decide) (Nat.le_of_ble_eq_true rfl) dX7_spells_17 ?_
      refine x_icmp_ge G 38 (by decide) dX7_spells_20 (fun c20 => ?_) (fun c20 => ?_)
      · skip
        exact x_vret G Rt dX7_spells_38 ⟨rfl, rfl, rfl, ⟨by have h9 := hT1; rw [List.take_of_length_le (by omega)] at h9; exact h9, hf1⟩⟩
      · skip
        refine x_aload_n G 0 rfl rfl dX7_spells_23 ?_
        refine x_aload_n G 1 rfl rfl dX7_spells_24 ?_
        refine x_iload_n G 2 rfl rfl dX7_spells_25 ?_
        refine x_callStr G [xR 195] [xI j] hi rfl hy_J0_charAt_5068e hi_J0_charAt_5068e hs_J0_charAt_5068e ml_X7_251 rfl rfl (kJ0_charAt_5068e _ _ si bs j hi (by omega) (by omega)) (by decide) (by decide) (Nat.le_of_ble_eq_true rfl) dX7_spells_26 ?_
        refine x_callVV G [] [xI (bs.getD j.toNat 0)] rfl (by decide) (ly_n hY 195 (by decide)) (ly_k hY 195 (by decide)) hy_X7_spell hi_X7_spell hs_X7_spell ml_X7_243 rfl rfl (kX7_spell _ _ k ((if 0 < L.length then L ++ [59] else L) ++ bs.take j.toNat) (bs.getD j.toNat 0) hY hT1 (by have := q0_len L; have := List.length_take_le j.toNat bs; rw [List.length_append]; omega)) (by decide) (by decide) (Nat.le_of_ble_eq_true rfl) dX7_spells_29 (fun M29 h29 => ?_)
        have hn29 : ((((if 0 < L.length then L ++ [59] else L) ++ bs.take j.toNat) ++ [(bs.getD j.toNat 0)])).length ≤ (((if 0 < L.length then L ++ [59] else L) ++ bs.take j.toNat)).length + 1 := by rw [List.length_append]; exact Nat.le_refl _
        refine x_iinc G [(2, xI (j + 1)), (0, xR 195), (1, xR (1000000 + si))] 2 rfl (by decide) (by omega) rfl dX7_spells_32 ?_
        refine x_goto G 15 (by decide) dX7_spells_35 ?_
        refine x_sub [(0, xR 195), (1, xR (1000000 + si)), (2, xI (j + 1))] [1, 2, 0] rfl ?_
        exact ih15 _ (by omega) (j + 1) M29 rfl (by omega) ((by rw [take_one hj.1 (by omega), ← List.append_assoc]; exact h29.1)) ((slf_tr hf1 h29.2))
    refine x_sub [(0, xR 195), (1, xR (1000000 + si)), (2, xI 0)] [1, 2, 0] rfl ?_
    exact loop15 _ 0 M10 rfl (by omega) ((by rw [show bs.take (0 : Int).toNat = [] from rfl, List.append_nil]; rw [if_pos (by omega)]; exact h10.1)) ((slf_tr (slf_refl _) h10.2))
set_option maxRecDepth 100000 in
set_option maxHeartbeats 4000000 in
theorem kX7_spellWait (D : xD) (l : Launch) {n : Nat} {T : xT} {M : xM} (k : Int) (L : List Int) (t : Int) (hY : LayOK n T) (hL : SL M k L) (hl : L.length ≤ 900000) (ht : 0 ≤ t ∧ t ≤ 99999) (hl2 : L.length ≤ 800000) : xC D l uX7_spellWait 8 168 0 0 [xR 195, xI t] n T M (xPV n T (fun M2 => SL M2 k (twn 12 L t) ∧ slf M M2)) := by
  refine x_met uX7_spellWait (by decide) (Nat.le_of_ble_eq_true rfl) ?_
  intro Γ G Rt _
  have G : xG Γ RX7 cX7_spellWait 3 8 168 0 0 := G
  have Rt : xRt Γ (xPV n T (fun M2 => SL M2 k (twn 12 L t) ∧ slf M M2)) none 0 0 := Rt
  show xX Γ 0 0 n T 0 [(0, xR 195), (1, xI t)] [] M
  refine x_iload_n G 1 rfl rfl dX7_spellWait_0 ?_
  refine x_istore_n G [(2, xI t), (0, xR 195), (1, xI t)] rfl (by decide) rfl dX7_spellWait_1 ?_
  have loop2 : ∀ (d : Nat) (r : Int) (f : Nat) (L1 : List Int) (M1 : xM), (r + 9999).toNat = d → (-9999 ≤ r ∧ r ≤ 9999 * ((f : Int) - 1) ∧ f ≤ 12) → (twn 12 L t = twn f L1 r) → (L1.length ≤ 800000 + 20 * (12 - f)) → (SL M1 k L1) → (slf M M1) → xX Γ 0 0 n T 2 [(0, xR 195), (1, xI t), (2, xI r)] [] M1 := by
    intro d
    induction d using Nat.strongRecOn with
    | ind d ih2 =>
    intro r f L1 M1 hd2 hr htw hl1 hT1 hf1
    skip
    refine x_iload_n G 2 rfl rfl dX7_spellWait_2 ?_
    refine x_if_le G 39 (by decide) dX7_spellWait_3 (fun c3 => ?_) (fun c3 => ?_)
    · skip
      exact x_vret G Rt dX7_spellWait_39 ⟨rfl, rfl, rfl, ⟨by rw [htw]; (have e9 : twn f L1 r = L1 := by (cases f with | zero => rfl | succ g => (show (if 0 < r then _ else _) = _; rw [if_neg (by omega)]))); rw [e9]; exact hT1, hf1⟩⟩
    · skip
      refine x_aload_n G 0 rfl rfl dX7_spellWait_6 ?_
      refine x_ldcS G (i := 14) rfl dX7_spellWait_7 ?_
      refine x_callVV G [] [xR (1000000 + 14)] rfl (by decide) (ly_n hY 195 (by decide)) (ly_k hY 195 (by decide)) hy_X7_spells hi_X7_spells hs_X7_spells ml_X7_257 rfl rfl (kX7_spells _ _ k L1 14 [119, 97, 105, 116] hY hT1 (by omega) (by omega) ⟨_, _, _, rfl⟩) (by decide) (by decide) (Nat.le_of_ble_eq_true rfl) dX7_spellWait_9 (fun M9 h9 => ?_)
      have hn9 : ((wrdT L1 [119, 97, 105, 116])).length ≤ (L1).length + 7 := Nat.le_trans (wrdT_len _ _) (by rw [Nat.add_assoc]; exact Nat.add_le_add_left (by decide) _)
      refine x_aload_n G 0 rfl rfl dX7_spellWait_12 ?_
      refine x_iload_n G 2 rfl rfl dX7_spellWait_13 ?_
      refine x_sipush G (by decide) dX7_spellWait_14 ?_
      refine x_icmp_ge G 24 (by decide) dX7_spellWait_17 (fun c17 => ?_) (fun c17 => ?_)
      · skip
        refine x_sipush G (by decide) dX7_spellWait_24 ?_
        refine x_callVV G [] [xI 9999] rfl (by decide) (ly_n hY 195 (by decide)) (ly_k hY 195 (by decide)) hy_X7_spellsOn hi_X7_spellsOn hs_X7_spellsOn ml_X7_261 rfl rfl (kX7_spellsOn _ _ k (wrdT L1 [119, 97, 105, 116]) 9999 hY h9.1 (by omega) (by omega) (by omega)) (by decide) (by decide) (Nat.le_of_ble_eq_true rfl) dX7_spellWait_27 (fun M27 h27 => ?_)
        have hn27 : ((numT (wrdT L1 [119, 97, 105, 116]) 9999)).length ≤ ((wrdT L1 [119, 97, 105, 116])).length + 6 := numT_len _ _
        refine x_iincW G [(2, xI (r + (-9999))), (0, xR 195), (1, xI t)] 2 rfl (by decide) (by omega) rfl dX7_spellWait_30 ?_
        refine x_goto G 2 (by decide) dX7_spellWait_36 ?_
        refine x_sub [(0, xR 195), (1, xI t), (2, xI (r + (-9999)))] [1, 2, 0] rfl ?_
        exact ih2 _ (by omega) (r + (-9999)) (f - 1) (numT (wrdT L1 [119, 97, 105, 116]) 9999) M27 rfl (by omega) (by (obtain ⟨g, rfl⟩ : ∃ g, f = g + 1 := ⟨f - 1, by omega⟩; rw [htw]; show (if 0 < r then _ else _) = _; rw [if_pos (by omega), show (if 9999 < r then (9999 : Int) else r) = 9999 by split <;> omega]; rfl)) (by omega) (h27.1) ((slf_tr (slf_tr hf1 h9.2) h27.2))
      · skip
        refine x_iload_n G 2 rfl rfl dX7_spellWait_20 ?_
        refine x_goto G 27 (by decide) dX7_spellWait_21 ?_
        refine x_callVV G [] [xI r] rfl (by decide) (ly_n hY 195 (by decide)) (ly_k hY 195 (by decide)) hy_X7_spellsOn hi_X7_spellsOn hs_X7_spellsOn ml_X7_261 rfl rfl (kX7_spellsOn _ _ k (wrdT L1 [119, 97, 105, 116]) r hY h9.1 (by omega) (by omega) (by omega)) (by decide) (by decide) (Nat.le_of_ble_eq_true rfl) dX7_spellWait_27 (fun M27 h27 => ?_)
        have hn27 : ((numT (wrdT L1 [119, 97, 105, 116]) r)).length ≤ ((wrdT L1 [119, 97, 105, 116])).length + 6 := numT_len _ _
        refine x_iincW G [(2, xI (r + (-9999))), (0, xR 195), (1, xI t)] 2 rfl (by decide) (by omega) rfl dX7_spellWait_30 ?_
        refine x_goto G 2 (by decide) dX7_spellWait_36 ?_
        refine x_sub [(0, xR 195), (1, xI t), (2, xI (r + (-9999)))] [1, 2, 0] rfl ?_
        exact ih2 _ (by omega) (r + (-9999)) (f - 1) (numT (wrdT L1 [119, 97, 105, 116]) r) M27 rfl (by omega) (by (obtain ⟨g, rfl⟩ : ∃ g, f = g + 1 := ⟨f - 1, by omega⟩; rw [htw]; show (if 0 < r then _ else _) = _; rw [if_pos (by omega), if_neg (by omega)]; rfl)) (by omega) (h27.1) ((slf_tr (slf_tr hf1 h9.2) h27.2))
  refine x_sub [(0, xR 195), (1, xI t), (2, xI t)] [1, 2, 0] rfl ?_
  exact loop2 _ t 12 L M rfl (by omega) (rfl) (by omega) (hL) ((slf_refl _))
set_option maxRecDepth 100000 in
set_option maxHeartbeats 4000000 in
theorem kX7_spellAll (D : xD) (l : Launch) {n : Nat} {T : xT} {M : xM} (k : Int) (L : List Int) (V : xM) (hY : LayOK n T) (hL : SL M k L) (hl0 : L.length = 0) (hLn : L = []) (hN : mrel (M 196) V) (hv : VOK V) : xC D l uX7_spellAll 9 190 0 0 [xR 195] n T M (xPV n T (fun M2 => SL M2 k (txt V) ∧ slf M M2)) := by
  refine x_met uX7_spellAll (by decide) (Nat.le_of_ble_eq_true rfl) ?_
  intro Γ G Rt _
  have G : xG Γ RX7 cX7_spellAll 3 9 190 0 0 := G
  have Rt : xRt Γ (xPV n T (fun M2 => SL M2 k (txt V) ∧ slf M M2)) none 0 0 := Rt
  show xX Γ 0 0 n T 0 [(0, xR 195)] [] M
  have hl : L.length ≤ 900000 := by omega
  have hc := ok_c hv
  have hsc := hv.1
  have hs4 : ∀ s, s < 4 → swd V s := hv.2.1
  have hw0 := hv.2.1 0 (by decide)
  have hw1 := hv.2.1 1 (by decide)
  have hw2 := hv.2.1 2 (by decide)
  have hw3 := hv.2.1 3 (by decide)
  refine x_iconst G (by decide) dX7_spellAll_0 ?_
  refine x_istore_n G [(1, xI 0), (0, xR 195)] rfl (by decide) rfl dX7_spellAll_1 ?_
  refine x_iload_n G 0 rfl rfl dX7_spellAll_2 ?_
  refine x_iconst G (by decide) dX7_spellAll_3 ?_
  refine x_icmp_ge G 62 (by decide) dX7_spellAll_4 (fun c4 => absurd c4 (by decide)) (fun _ => ?_)
  refine x_aload_n G 1 rfl rfl dX7_spellAll_7 ?_
  refine x_ldcSw G (i := 12) rfl dX7_spellAll_8 ?_
  refine x_callVV G [] [xR (1000000 + 12)] rfl (by decide) (ly_n hY 195 (by decide)) (ly_k hY 195 (by decide)) hy_X7_spells hi_X7_spells hs_X7_spells ml_X7_257 rfl rfl (kX7_spells _ _ k L 12 [115, 105, 122, 101] hY hL hl (by omega) ⟨_, _, _, rfl⟩) (by decide) (by decide) (Nat.le_of_ble_eq_true rfl) dX7_spellAll_11 (fun M11 h11 => ?_)
  have hn11 : ((wrdT L [115, 105, 122, 101])).length ≤ (L).length + 7 := Nat.le_trans (wrdT_len _ _) (by rw [Nat.add_assoc]; exact Nat.add_le_add_left (by decide) _)
  refine x_aload_n G 1 rfl rfl dX7_spellAll_14 ?_
  refine x_iload_n G 0 rfl rfl dX7_spellAll_15 ?_
  refine x_callVV G [] [xI 0] rfl (by decide) (ly_n hY 195 (by decide)) (ly_k hY 195 (by decide)) hy_X7_spellsOn hi_X7_spellsOn hs_X7_spellsOn ml_X7_261 rfl rfl (kX7_spellsOn _ _ k (wrdT L [115, 105, 122, 101]) 0 hY h11.1 (by omega) (by omega) (by omega)) (by decide) (by decide) (Nat.le_of_ble_eq_true rfl) dX7_spellAll_16 (fun M16 h16 => ?_)
  have hn16 : ((numT (wrdT L [115, 105, 122, 101]) 0)).length ≤ ((wrdT L [115, 105, 122, 101])).length + 6 := numT_len _ _
  refine x_aload_n G 1 rfl rfl dX7_spellAll_19 ?_
  refine x_aload_n G 1 rfl rfl dX7_spellAll_20 ?_
  refine x_get G (xR 196) xf7_0 lk_X7_7 (ly_n hY 195 (by decide)) (ly_k hY 195 (by decide)) (Or.inr ⟨rfl, _, (ly_r hY 195 0 (by decide) (by decide)), rfl⟩) dX7_spellAll_21 ?_
  refine x_iconst G (by decide) dX7_spellAll_24 ?_
  refine x_iload_n G 0 rfl rfl dX7_spellAll_25 ?_
  refine x_iadd G (by decide) dX7_spellAll_26 ?_
  show xX Γ 0 0 n T 27 [(1, xI 0), (0, xR 195)] [xI 3, xR 196, xR 195] M16
  refine x_iald G (ly_n hY 196 (by decide)) (ly_k hY 196 (by decide)) (show _ = 511 from ly_l hY 196 (by decide)) (by omega) (by omega) dX7_spellAll_27 ?_
  show xX Γ 0 0 n T 28 [(1, xI 0), (0, xR 195)] [xI (M16 196 3), xR 195] M16
  rw [show M16 196 3 = (V 11 0) from ((mr_cg (mr_cg hN (h11.2.1 196 (by omega))) (h16.2.1 196 (by omega))).2.1 0 (by decide)).1]
  refine x_callVV G [] [xI (V 11 0)] rfl (by decide) (ly_n hY 195 (by decide)) (ly_k hY 195 (by decide)) hy_X7_spellsOn hi_X7_spellsOn hs_X7_spellsOn ml_X7_261 rfl rfl (kX7_spellsOn _ _ k (numT (wrdT L [115, 105, 122, 101]) 0) (V 11 0) hY h16.1 (by omega) (by omega) (by omega)) (by decide) (by decide) (Nat.le_of_ble_eq_true rfl) dX7_spellAll_28 (fun M28 h28 => ?_)
  have hn28 : ((numT (numT (wrdT L [115, 105, 122, 101]) 0) (V 11 0))).length ≤ ((numT (wrdT L [115, 105, 122, 101]) 0)).length + 6 := numT_len _ _
  refine x_aload_n G 1 rfl rfl dX7_spellAll_31 ?_
  refine x_ldcSw G (i := 13) rfl dX7_spellAll_32 ?_
  refine x_callVV G [] [xR (1000000 + 13)] rfl (by decide) (ly_n hY 195 (by decide)) (ly_k hY 195 (by decide)) hy_X7_spells hi_X7_spells hs_X7_spells ml_X7_257 rfl rfl (kX7_spells _ _ k (numT (numT (wrdT L [115, 105, 122, 101]) 0) (V 11 0)) 13 [119, 105, 110, 100, 111, 119] hY h28.1 (by omega) (by omega) ⟨_, _, _, rfl⟩) (by decide) (by decide) (Nat.le_of_ble_eq_true rfl) dX7_spellAll_35 (fun M35 h35 => ?_)
  have hn35 : ((wrdT (numT (numT (wrdT L [115, 105, 122, 101]) 0) (V 11 0)) [119, 105, 110, 100, 111, 119])).length ≤ ((numT (numT (wrdT L [115, 105, 122, 101]) 0) (V 11 0))).length + 7 := Nat.le_trans (wrdT_len _ _) (by rw [Nat.add_assoc]; exact Nat.add_le_add_left (by decide) _)
  refine x_aload_n G 1 rfl rfl dX7_spellAll_38 ?_
  refine x_iload_n G 0 rfl rfl dX7_spellAll_39 ?_
  refine x_callVV G [] [xI 0] rfl (by decide) (ly_n hY 195 (by decide)) (ly_k hY 195 (by decide)) hy_X7_spellsOn hi_X7_spellsOn hs_X7_spellsOn ml_X7_261 rfl rfl (kX7_spellsOn _ _ k (wrdT (numT (numT (wrdT L [115, 105, 122, 101]) 0) (V 11 0)) [119, 105, 110, 100, 111, 119]) 0 hY h35.1 (by omega) (by omega) (by omega)) (by decide) (by decide) (Nat.le_of_ble_eq_true rfl) dX7_spellAll_40 (fun M40 h40 => ?_)
  have hn40 : ((numT (wrdT (numT (numT (wrdT L [115, 105, 122, 101]) 0) (V 11 0)) [119, 105, 110, 100, 111, 119]) 0)).length ≤ ((wrdT (numT (numT (wrdT L [115, 105, 122, 101]) 0) (V 11 0)) [119, 105, 110, 100, 111, 119])).length + 6 := numT_len _ _
  refine x_aload_n G 1 rfl rfl dX7_spellAll_43 ?_
  refine x_aload_n G 1 rfl rfl dX7_spellAll_44 ?_
  refine x_get G (xR 196) xf7_0 lk_X7_7 (ly_n hY 195 (by decide)) (ly_k hY 195 (by decide)) (Or.inr ⟨rfl, _, (ly_r hY 195 0 (by decide) (by decide)), rfl⟩) dX7_spellAll_45 ?_
  refine x_bipush G (by decide) dX7_spellAll_48 ?_
  refine x_iload_n G 0 rfl rfl dX7_spellAll_50 ?_
  refine x_iadd G (by decide) dX7_spellAll_51 ?_
  show xX Γ 0 0 n T 52 [(1, xI 0), (0, xR 195)] [xI 7, xR 196, xR 195] M40
  refine x_iald G (ly_n hY 196 (by decide)) (ly_k hY 196 (by decide)) (show _ = 511 from ly_l hY 196 (by decide)) (by omega) (by omega) dX7_spellAll_52 ?_
  show xX Γ 0 0 n T 53 [(1, xI 0), (0, xR 195)] [xI (M40 196 7), xR 195] M40
  rw [show M40 196 7 = (V 12 0) from ((mr_cg (mr_cg (mr_cg (mr_cg (mr_cg hN (h11.2.1 196 (by omega))) (h16.2.1 196 (by omega))) (h28.2.1 196 (by omega))) (h35.2.1 196 (by omega))) (h40.2.1 196 (by omega))).2.1 0 (by decide)).2]
  refine x_callVV G [] [xI (V 12 0)] rfl (by decide) (ly_n hY 195 (by decide)) (ly_k hY 195 (by decide)) hy_X7_spellsOn hi_X7_spellsOn hs_X7_spellsOn ml_X7_261 rfl rfl (kX7_spellsOn _ _ k (numT (wrdT (numT (numT (wrdT L [115, 105, 122, 101]) 0) (V 11 0)) [119, 105, 110, 100, 111, 119]) 0) (V 12 0) hY h40.1 (by omega) (by omega) (by omega)) (by decide) (by decide) (Nat.le_of_ble_eq_true rfl) dX7_spellAll_53 (fun M53 h53 => ?_)
  have hn53 : ((numT (numT (wrdT (numT (numT (wrdT L [115, 105, 122, 101]) 0) (V 11 0)) [119, 105, 110, 100, 111, 119]) 0) (V 12 0))).length ≤ ((numT (wrdT (numT (numT (wrdT L [115, 105, 122, 101]) 0) (V 11 0)) [119, 105, 110, 100, 111, 119]) 0)).length + 6 := numT_len _ _
  refine x_iinc G [(1, xI 1), (0, xR 195)] 0 rfl (by decide) (by omega) rfl dX7_spellAll_56 ?_
  refine x_goto G 2 (by decide) dX7_spellAll_59 ?_
  refine x_iload_n G 0 rfl rfl dX7_spellAll_2 ?_
  refine x_iconst G (by decide) dX7_spellAll_3 ?_
  refine x_icmp_ge G 62 (by decide) dX7_spellAll_4 (fun c4 => absurd c4 (by decide)) (fun _ => ?_)
  refine x_aload_n G 1 rfl rfl dX7_spellAll_7 ?_
  refine x_ldcSw G (i := 12) rfl dX7_spellAll_8 ?_
  refine x_callVV G [] [xR (1000000 + 12)] rfl (by decide) (ly_n hY 195 (by decide)) (ly_k hY 195 (by decide)) hy_X7_spells hi_X7_spells hs_X7_spells ml_X7_257 rfl rfl (kX7_spells _ _ k (numT (numT (wrdT (numT (numT (wrdT L [115, 105, 122, 101]) 0) (V 11 0)) [119, 105, 110, 100, 111, 119]) 0) (V 12 0)) 12 [115, 105, 122, 101] hY h53.1 (by omega) (by omega) ⟨_, _, _, rfl⟩) (by decide) (by decide) (Nat.le_of_ble_eq_true rfl) dX7_spellAll_11 (fun M11_ h11_ => ?_)
  have hn11_ : ((wrdT (numT (numT (wrdT (numT (numT (wrdT L [115, 105, 122, 101]) 0) (V 11 0)) [119, 105, 110, 100, 111, 119]) 0) (V 12 0)) [115, 105, 122, 101])).length ≤ ((numT (numT (wrdT (numT (numT (wrdT L [115, 105, 122, 101]) 0) (V 11 0)) [119, 105, 110, 100, 111, 119]) 0) (V 12 0))).length + 7 := Nat.le_trans (wrdT_len _ _) (by rw [Nat.add_assoc]; exact Nat.add_le_add_left (by decide) _)
  refine x_aload_n G 1 rfl rfl dX7_spellAll_14 ?_
  refine x_iload_n G 0 rfl rfl dX7_spellAll_15 ?_
  refine x_callVV G [] [xI 1] rfl (by decide) (ly_n hY 195 (by decide)) (ly_k hY 195 (by decide)) hy_X7_spellsOn hi_X7_spellsOn hs_X7_spellsOn ml_X7_261 rfl rfl (kX7_spellsOn _ _ k (wrdT (numT (numT (wrdT (numT (numT (wrdT L [115, 105, 122, 101]) 0) (V 11 0)) [119, 105, 110, 100, 111, 119]) 0) (V 12 0)) [115, 105, 122, 101]) 1 hY h11_.1 (by omega) (by omega) (by omega)) (by decide) (by decide) (Nat.le_of_ble_eq_true rfl) dX7_spellAll_16 (fun M16_ h16_ => ?_)
  have hn16_ : ((numT (wrdT (numT (numT (wrdT (numT (numT (wrdT L [115, 105, 122, 101]) 0) (V 11 0)) [119, 105, 110, 100, 111, 119]) 0) (V 12 0)) [115, 105, 122, 101]) 1)).length ≤ ((wrdT (numT (numT (wrdT (numT (numT (wrdT L [115, 105, 122, 101]) 0) (V 11 0)) [119, 105, 110, 100, 111, 119]) 0) (V 12 0)) [115, 105, 122, 101])).length + 6 := numT_len _ _
  refine x_aload_n G 1 rfl rfl dX7_spellAll_19 ?_
  refine x_aload_n G 1 rfl rfl dX7_spellAll_20 ?_
  refine x_get G (xR 196) xf7_0 lk_X7_7 (ly_n hY 195 (by decide)) (ly_k hY 195 (by decide)) (Or.inr ⟨rfl, _, (ly_r hY 195 0 (by decide) (by decide)), rfl⟩) dX7_spellAll_21 ?_
  refine x_iconst G (by decide) dX7_spellAll_24 ?_
  refine x_iload_n G 0 rfl rfl dX7_spellAll_25 ?_
  refine x_iadd G (by decide) dX7_spellAll_26 ?_
  show xX Γ 0 0 n T 27 [(1, xI 1), (0, xR 195)] [xI 4, xR 196, xR 195] M16_
  refine x_iald G (ly_n hY 196 (by decide)) (ly_k hY 196 (by decide)) (show _ = 511 from ly_l hY 196 (by decide)) (by omega) (by omega) dX7_spellAll_27 ?_
  show xX Γ 0 0 n T 28 [(1, xI 1), (0, xR 195)] [xI (M16_ 196 4), xR 195] M16_
  rw [show M16_ 196 4 = (V 11 1) from ((mr_cg (mr_cg (mr_cg (mr_cg (mr_cg (mr_cg (mr_cg (mr_cg hN (h11.2.1 196 (by omega))) (h16.2.1 196 (by omega))) (h28.2.1 196 (by omega))) (h35.2.1 196 (by omega))) (h40.2.1 196 (by omega))) (h53.2.1 196 (by omega))) (h11_.2.1 196 (by omega))) (h16_.2.1 196 (by omega))).2.1 1 (by decide)).1]
  refine x_callVV G [] [xI (V 11 1)] rfl (by decide) (ly_n hY 195 (by decide)) (ly_k hY 195 (by decide)) hy_X7_spellsOn hi_X7_spellsOn hs_X7_spellsOn ml_X7_261 rfl rfl (kX7_spellsOn _ _ k (numT (wrdT (numT (numT (wrdT (numT (numT (wrdT L [115, 105, 122, 101]) 0) (V 11 0)) [119, 105, 110, 100, 111, 119]) 0) (V 12 0)) [115, 105, 122, 101]) 1) (V 11 1) hY h16_.1 (by omega) (by omega) (by omega)) (by decide) (by decide) (Nat.le_of_ble_eq_true rfl) dX7_spellAll_28 (fun M28_ h28_ => ?_)
  have hn28_ : ((numT (numT (wrdT (numT (numT (wrdT (numT (numT (wrdT L [115, 105, 122, 101]) 0) (V 11 0)) [119, 105, 110, 100, 111, 119]) 0) (V 12 0)) [115, 105, 122, 101]) 1) (V 11 1))).length ≤ ((numT (wrdT (numT (numT (wrdT (numT (numT (wrdT L [115, 105, 122, 101]) 0) (V 11 0)) [119, 105, 110, 100, 111, 119]) 0) (V 12 0)) [115, 105, 122, 101]) 1)).length + 6 := numT_len _ _
  refine x_aload_n G 1 rfl rfl dX7_spellAll_31 ?_
  refine x_ldcSw G (i := 13) rfl dX7_spellAll_32 ?_
  refine x_callVV G [] [xR (1000000 + 13)] rfl (by decide) (ly_n hY 195 (by decide)) (ly_k hY 195 (by decide)) hy_X7_spells hi_X7_spells hs_X7_spells ml_X7_257 rfl rfl (kX7_spells _ _ k (numT (numT (wrdT (numT (numT (wrdT (numT (numT (wrdT L [115, 105, 122, 101]) 0) (V 11 0)) [119, 105, 110, 100, 111, 119]) 0) (V 12 0)) [115, 105, 122, 101]) 1) (V 11 1)) 13 [119, 105, 110, 100, 111, 119] hY h28_.1 (by omega) (by omega) ⟨_, _, _, rfl⟩) (by decide) (by decide) (Nat.le_of_ble_eq_true rfl) dX7_spellAll_35 (fun M35_ h35_ => ?_)
  have hn35_ : ((wrdT (numT (numT (wrdT (numT (numT (wrdT (numT (numT (wrdT L [115, 105, 122, 101]) 0) (V 11 0)) [119, 105, 110, 100, 111, 119]) 0) (V 12 0)) [115, 105, 122, 101]) 1) (V 11 1)) [119, 105, 110, 100, 111, 119])).length ≤ ((numT (numT (wrdT (numT (numT (wrdT (numT (numT (wrdT L [115, 105, 122, 101]) 0) (V 11 0)) [119, 105, 110, 100, 111, 119]) 0) (V 12 0)) [115, 105, 122, 101]) 1) (V 11 1))).length + 7 := Nat.le_trans (wrdT_len _ _) (by rw [Nat.add_assoc]; exact Nat.add_le_add_left (by decide) _)
  refine x_aload_n G 1 rfl rfl dX7_spellAll_38 ?_
  refine x_iload_n G 0 rfl rfl dX7_spellAll_39 ?_
  refine x_callVV G [] [xI 1] rfl (by decide) (ly_n hY 195 (by decide)) (ly_k hY 195 (by decide)) hy_X7_spellsOn hi_X7_spellsOn hs_X7_spellsOn ml_X7_261 rfl rfl (kX7_spellsOn _ _ k (wrdT (numT (numT (wrdT (numT (numT (wrdT (numT (numT (wrdT L [115, 105, 122, 101]) 0) (V 11 0)) [119, 105, 110, 100, 111, 119]) 0) (V 12 0)) [115, 105, 122, 101]) 1) (V 11 1)) [119, 105, 110, 100, 111, 119]) 1 hY h35_.1 (by omega) (by omega) (by omega)) (by decide) (by decide) (Nat.le_of_ble_eq_true rfl) dX7_spellAll_40 (fun M40_ h40_ => ?_)
  have hn40_ : ((numT (wrdT (numT (numT (wrdT (numT (numT (wrdT (numT (numT (wrdT L [115, 105, 122, 101]) 0) (V 11 0)) [119, 105, 110, 100, 111, 119]) 0) (V 12 0)) [115, 105, 122, 101]) 1) (V 11 1)) [119, 105, 110, 100, 111, 119]) 1)).length ≤ ((wrdT (numT (numT (wrdT (numT (numT (wrdT (numT (numT (wrdT L [115, 105, 122, 101]) 0) (V 11 0)) [119, 105, 110, 100, 111, 119]) 0) (V 12 0)) [115, 105, 122, 101]) 1) (V 11 1)) [119, 105, 110, 100, 111, 119])).length + 6 := numT_len _ _
  refine x_aload_n G 1 rfl rfl dX7_spellAll_43 ?_
  refine x_aload_n G 1 rfl rfl dX7_spellAll_44 ?_
  refine x_get G (xR 196) xf7_0 lk_X7_7 (ly_n hY 195 (by decide)) (ly_k hY 195 (by decide)) (Or.inr ⟨rfl, _, (ly_r hY 195 0 (by decide) (by decide)), rfl⟩) dX7_spellAll_45 ?_
  refine x_bipush G (by decide) dX7_spellAll_48 ?_
  refine x_iload_n G 0 rfl rfl dX7_spellAll_50 ?_
  refine x_iadd G (by decide) dX7_spellAll_51 ?_
  show xX Γ 0 0 n T 52 [(1, xI 1), (0, xR 195)] [xI 8, xR 196, xR 195] M40_
  refine x_iald G (ly_n hY 196 (by decide)) (ly_k hY 196 (by decide)) (show _ = 511 from ly_l hY 196 (by decide)) (by omega) (by omega) dX7_spellAll_52 ?_
  show xX Γ 0 0 n T 53 [(1, xI 1), (0, xR 195)] [xI (M40_ 196 8), xR 195] M40_
  rw [show M40_ 196 8 = (V 12 1) from ((mr_cg (mr_cg (mr_cg (mr_cg (mr_cg (mr_cg (mr_cg (mr_cg (mr_cg (mr_cg (mr_cg hN (h11.2.1 196 (by omega))) (h16.2.1 196 (by omega))) (h28.2.1 196 (by omega))) (h35.2.1 196 (by omega))) (h40.2.1 196 (by omega))) (h53.2.1 196 (by omega))) (h11_.2.1 196 (by omega))) (h16_.2.1 196 (by omega))) (h28_.2.1 196 (by omega))) (h35_.2.1 196 (by omega))) (h40_.2.1 196 (by omega))).2.1 1 (by decide)).2]
  refine x_callVV G [] [xI (V 12 1)] rfl (by decide) (ly_n hY 195 (by decide)) (ly_k hY 195 (by decide)) hy_X7_spellsOn hi_X7_spellsOn hs_X7_spellsOn ml_X7_261 rfl rfl (kX7_spellsOn _ _ k (numT (wrdT (numT (numT (wrdT (numT (numT (wrdT (numT (numT (wrdT L [115, 105, 122, 101]) 0) (V 11 0)) [119, 105, 110, 100, 111, 119]) 0) (V 12 0)) [115, 105, 122, 101]) 1) (V 11 1)) [119, 105, 110, 100, 111, 119]) 1) (V 12 1) hY h40_.1 (by omega) (by omega) (by omega)) (by decide) (by decide) (Nat.le_of_ble_eq_true rfl) dX7_spellAll_53 (fun M53_ h53_ => ?_)
  have hn53_ : ((numT (numT (wrdT (numT (numT (wrdT (numT (numT (wrdT (numT (numT (wrdT L [115, 105, 122, 101]) 0) (V 11 0)) [119, 105, 110, 100, 111, 119]) 0) (V 12 0)) [115, 105, 122, 101]) 1) (V 11 1)) [119, 105, 110, 100, 111, 119]) 1) (V 12 1))).length ≤ ((numT (wrdT (numT (numT (wrdT (numT (numT (wrdT (numT (numT (wrdT L [115, 105, 122, 101]) 0) (V 11 0)) [119, 105, 110, 100, 111, 119]) 0) (V 12 0)) [115, 105, 122, 101]) 1) (V 11 1)) [119, 105, 110, 100, 111, 119]) 1)).length + 6 := numT_len _ _
  refine x_iinc G [(1, xI 2), (0, xR 195)] 0 rfl (by decide) (by omega) rfl dX7_spellAll_56 ?_
  refine x_goto G 2 (by decide) dX7_spellAll_59 ?_
  refine x_iload_n G 0 rfl rfl dX7_spellAll_2 ?_
  refine x_iconst G (by decide) dX7_spellAll_3 ?_
  refine x_icmp_ge G 62 (by decide) dX7_spellAll_4 (fun c4 => absurd c4 (by decide)) (fun _ => ?_)
  refine x_aload_n G 1 rfl rfl dX7_spellAll_7 ?_
  refine x_ldcSw G (i := 12) rfl dX7_spellAll_8 ?_
  refine x_callVV G [] [xR (1000000 + 12)] rfl (by decide) (ly_n hY 195 (by decide)) (ly_k hY 195 (by decide)) hy_X7_spells hi_X7_spells hs_X7_spells ml_X7_257 rfl rfl (kX7_spells _ _ k (numT (numT (wrdT (numT (numT (wrdT (numT (numT (wrdT (numT (numT (wrdT L [115, 105, 122, 101]) 0) (V 11 0)) [119, 105, 110, 100, 111, 119]) 0) (V 12 0)) [115, 105, 122, 101]) 1) (V 11 1)) [119, 105, 110, 100, 111, 119]) 1) (V 12 1)) 12 [115, 105, 122, 101] hY h53_.1 (by omega) (by omega) ⟨_, _, _, rfl⟩) (by decide) (by decide) (Nat.le_of_ble_eq_true rfl) dX7_spellAll_11 (fun M11__ h11__ => ?_)
  have hn11__ : ((wrdT (numT (numT (wrdT (numT (numT (wrdT (numT (numT (wrdT (numT (numT (wrdT L [115, 105, 122, 101]) 0) (V 11 0)) [119, 105, 110, 100, 111, 119]) 0) (V 12 0)) [115, 105, 122, 101]) 1) (V 11 1)) [119, 105, 110, 100, 111, 119]) 1) (V 12 1)) [115, 105, 122, 101])).length ≤ ((numT (numT (wrdT (numT (numT (wrdT (numT (numT (wrdT (numT (numT (wrdT L [115, 105, 122, 101]) 0) (V 11 0)) [119, 105, 110, 100, 111, 119]) 0) (V 12 0)) [115, 105, 122, 101]) 1) (V 11 1)) [119, 105, 110, 100, 111, 119]) 1) (V 12 1))).length + 7 := Nat.le_trans (wrdT_len _ _) (by rw [Nat.add_assoc]; exact Nat.add_le_add_left (by decide) _)
  refine x_aload_n G 1 rfl rfl dX7_spellAll_14 ?_
  refine x_iload_n G 0 rfl rfl dX7_spellAll_15 ?_
  refine x_callVV G [] [xI 2] rfl (by decide) (ly_n hY 195 (by decide)) (ly_k hY 195 (by decide)) hy_X7_spellsOn hi_X7_spellsOn hs_X7_spellsOn ml_X7_261 rfl rfl (kX7_spellsOn _ _ k (wrdT (numT (numT (wrdT (numT (numT (wrdT (numT (numT (wrdT (numT (numT (wrdT L [115, 105, 122, 101]) 0) (V 11 0)) [119, 105, 110, 100, 111, 119]) 0) (V 12 0)) [115, 105, 122, 101]) 1) (V 11 1)) [119, 105, 110, 100, 111, 119]) 1) (V 12 1)) [115, 105, 122, 101]) 2 hY h11__.1 (by omega) (by omega) (by omega)) (by decide) (by decide) (Nat.le_of_ble_eq_true rfl) dX7_spellAll_16 (fun M16__ h16__ => ?_)
  have hn16__ : ((numT (wrdT (numT (numT (wrdT (numT (numT (wrdT (numT (numT (wrdT (numT (numT (wrdT L [115, 105, 122, 101]) 0) (V 11 0)) [119, 105, 110, 100, 111, 119]) 0) (V 12 0)) [115, 105, 122, 101]) 1) (V 11 1)) [119, 105, 110, 100, 111, 119]) 1) (V 12 1)) [115, 105, 122, 101]) 2)).length ≤ ((wrdT (numT (numT (wrdT (numT (numT (wrdT (numT (numT (wrdT (numT (numT (wrdT L [115, 105, 122, 101]) 0) (V 11 0)) [119, 105, 110, 100, 111, 119]) 0) (V 12 0)) [115, 105, 122, 101]) 1) (V 11 1)) [119, 105, 110, 100, 111, 119]) 1) (V 12 1)) [115, 105, 122, 101])).length + 6 := numT_len _ _
  refine x_aload_n G 1 rfl rfl dX7_spellAll_19 ?_
  refine x_aload_n G 1 rfl rfl dX7_spellAll_20 ?_
  refine x_get G (xR 196) xf7_0 lk_X7_7 (ly_n hY 195 (by decide)) (ly_k hY 195 (by decide)) (Or.inr ⟨rfl, _, (ly_r hY 195 0 (by decide) (by decide)), rfl⟩) dX7_spellAll_21 ?_
  refine x_iconst G (by decide) dX7_spellAll_24 ?_
  refine x_iload_n G 0 rfl rfl dX7_spellAll_25 ?_
  refine x_iadd G (by decide) dX7_spellAll_26 ?_
  show xX Γ 0 0 n T 27 [(1, xI 2), (0, xR 195)] [xI 5, xR 196, xR 195] M16__
  refine x_iald G (ly_n hY 196 (by decide)) (ly_k hY 196 (by decide)) (show _ = 511 from ly_l hY 196 (by decide)) (by omega) (by omega) dX7_spellAll_27 ?_
  show xX Γ 0 0 n T 28 [(1, xI 2), (0, xR 195)] [xI (M16__ 196 5), xR 195] M16__
  rw [show M16__ 196 5 = (V 11 2) from ((mr_cg (mr_cg (mr_cg (mr_cg (mr_cg (mr_cg (mr_cg (mr_cg (mr_cg (mr_cg (mr_cg (mr_cg (mr_cg (mr_cg hN (h11.2.1 196 (by omega))) (h16.2.1 196 (by omega))) (h28.2.1 196 (by omega))) (h35.2.1 196 (by omega))) (h40.2.1 196 (by omega))) (h53.2.1 196 (by omega))) (h11_.2.1 196 (by omega))) (h16_.2.1 196 (by omega))) (h28_.2.1 196 (by omega))) (h35_.2.1 196 (by omega))) (h40_.2.1 196 (by omega))) (h53_.2.1 196 (by omega))) (h11__.2.1 196 (by omega))) (h16__.2.1 196 (by omega))).2.1 2 (by decide)).1]
  refine x_callVV G [] [xI (V 11 2)] rfl (by decide) (ly_n hY 195 (by decide)) (ly_k hY 195 (by decide)) hy_X7_spellsOn hi_X7_spellsOn hs_X7_spellsOn ml_X7_261 rfl rfl (kX7_spellsOn _ _ k (numT (wrdT (numT (numT (wrdT (numT (numT (wrdT (numT (numT (wrdT (numT (numT (wrdT L [115, 105, 122, 101]) 0) (V 11 0)) [119, 105, 110, 100, 111, 119]) 0) (V 12 0)) [115, 105, 122, 101]) 1) (V 11 1)) [119, 105, 110, 100, 111, 119]) 1) (V 12 1)) [115, 105, 122, 101]) 2) (V 11 2) hY h16__.1 (by omega) (by omega) (by omega)) (by decide) (by decide) (Nat.le_of_ble_eq_true rfl) dX7_spellAll_28 (fun M28__ h28__ => ?_)
  have hn28__ : ((numT (numT (wrdT (numT (numT (wrdT (numT (numT (wrdT (numT (numT (wrdT (numT (numT (wrdT L [115, 105, 122, 101]) 0) (V 11 0)) [119, 105, 110, 100, 111, 119]) 0) (V 12 0)) [115, 105, 122, 101]) 1) (V 11 1)) [119, 105, 110, 100, 111, 119]) 1) (V 12 1)) [115, 105, 122, 101]) 2) (V 11 2))).length ≤ ((numT (wrdT (numT (numT (wrdT (numT (numT (wrdT (numT (numT (wrdT (numT (numT (wrdT L [115, 105, 122, 101]) 0) (V 11 0)) [119, 105, 110, 100, 111, 119]) 0) (V 12 0)) [115, 105, 122, 101]) 1) (V 11 1)) [119, 105, 110, 100, 111, 119]) 1) (V 12 1)) [115, 105, 122, 101]) 2)).length + 6 := numT_len _ _
  refine x_aload_n G 1 rfl rfl dX7_spellAll_31 ?_
  refine x_ldcSw G (i := 13) rfl dX7_spellAll_32 ?_
  refine x_callVV G [] [xR (1000000 + 13)] rfl (by decide) (ly_n hY 195 (by decide)) (ly_k hY 195 (by decide)) hy_X7_spells hi_X7_spells hs_X7_spells ml_X7_257 rfl rfl (kX7_spells _ _ k (numT (numT (wrdT (numT (numT (wrdT (numT (numT (wrdT (numT (numT (wrdT (numT (numT (wrdT L [115, 105, 122, 101]) 0) (V 11 0)) [119, 105, 110, 100, 111, 119]) 0) (V 12 0)) [115, 105, 122, 101]) 1) (V 11 1)) [119, 105, 110, 100, 111, 119]) 1) (V 12 1)) [115, 105, 122, 101]) 2) (V 11 2)) 13 [119, 105, 110, 100, 111, 119] hY h28__.1 (by omega) (by omega) ⟨_, _, _, rfl⟩) (by decide) (by decide) (Nat.le_of_ble_eq_true rfl) dX7_spellAll_35 (fun M35__ h35__ => ?_)
  have hn35__ : ((wrdT (numT (numT (wrdT (numT (numT (wrdT (numT (numT (wrdT (numT (numT (wrdT (numT (numT (wrdT L [115, 105, 122, 101]) 0) (V 11 0)) [119, 105, 110, 100, 111, 119]) 0) (V 12 0)) [115, 105, 122, 101]) 1) (V 11 1)) [119, 105, 110, 100, 111, 119]) 1) (V 12 1)) [115, 105, 122, 101]) 2) (V 11 2)) [119, 105, 110, 100, 111, 119])).length ≤ ((numT (numT (wrdT (numT (numT (wrdT (numT (numT (wrdT (numT (numT (wrdT (numT (numT (wrdT L [115, 105, 122, 101]) 0) (V 11 0)) [119, 105, 110, 100, 111, 119]) 0) (V 12 0)) [115, 105, 122, 101]) 1) (V 11 1)) [119, 105, 110, 100, 111, 119]) 1) (V 12 1)) [115, 105, 122, 101]) 2) (V 11 2))).length + 7 := Nat.le_trans (wrdT_len _ _) (by rw [Nat.add_assoc]; exact Nat.add_le_add_left (by decide) _)
  refine x_aload_n G 1 rfl rfl dX7_spellAll_38 ?_
  refine x_iload_n G 0 rfl rfl dX7_spellAll_39 ?_
  refine x_callVV G [] [xI 2] rfl (by decide) (ly_n hY 195 (by decide)) (ly_k hY 195 (by decide)) hy_X7_spellsOn hi_X7_spellsOn hs_X7_spellsOn ml_X7_261 rfl rfl (kX7_spellsOn _ _ k (wrdT (numT (numT (wrdT (numT (numT (wrdT (numT (numT (wrdT (numT (numT (wrdT (numT (numT (wrdT L [115, 105, 122, 101]) 0) (V 11 0)) [119, 105, 110, 100, 111, 119]) 0) (V 12 0)) [115, 105, 122, 101]) 1) (V 11 1)) [119, 105, 110, 100, 111, 119]) 1) (V 12 1)) [115, 105, 122, 101]) 2) (V 11 2)) [119, 105, 110, 100, 111, 119]) 2 hY h35__.1 (by omega) (by omega) (by omega)) (by decide) (by decide) (Nat.le_of_ble_eq_true rfl) dX7_spellAll_40 (fun M40__ h40__ => ?_)
  have hn40__ : ((numT (wrdT (numT (numT (wrdT (numT (numT (wrdT (numT (numT (wrdT (numT (numT (wrdT (numT (numT (wrdT L [115, 105, 122, 101]) 0) (V 11 0)) [119, 105, 110, 100, 111, 119]) 0) (V 12 0)) [115, 105, 122, 101]) 1) (V 11 1)) [119, 105, 110, 100, 111, 119]) 1) (V 12 1)) [115, 105, 122, 101]) 2) (V 11 2)) [119, 105, 110, 100, 111, 119]) 2)).length ≤ ((wrdT (numT (numT (wrdT (numT (numT (wrdT (numT (numT (wrdT (numT (numT (wrdT (numT (numT (wrdT L [115, 105, 122, 101]) 0) (V 11 0)) [119, 105, 110, 100, 111, 119]) 0) (V 12 0)) [115, 105, 122, 101]) 1) (V 11 1)) [119, 105, 110, 100, 111, 119]) 1) (V 12 1)) [115, 105, 122, 101]) 2) (V 11 2)) [119, 105, 110, 100, 111, 119])).length + 6 := numT_len _ _
  refine x_aload_n G 1 rfl rfl dX7_spellAll_43 ?_
  refine x_aload_n G 1 rfl rfl dX7_spellAll_44 ?_
  refine x_get G (xR 196) xf7_0 lk_X7_7 (ly_n hY 195 (by decide)) (ly_k hY 195 (by decide)) (Or.inr ⟨rfl, _, (ly_r hY 195 0 (by decide) (by decide)), rfl⟩) dX7_spellAll_45 ?_
  refine x_bipush G (by decide) dX7_spellAll_48 ?_
  refine x_iload_n G 0 rfl rfl dX7_spellAll_50 ?_
  refine x_iadd G (by decide) dX7_spellAll_51 ?_
  show xX Γ 0 0 n T 52 [(1, xI 2), (0, xR 195)] [xI 9, xR 196, xR 195] M40__
  refine x_iald G (ly_n hY 196 (by decide)) (ly_k hY 196 (by decide)) (show _ = 511 from ly_l hY 196 (by decide)) (by omega) (by omega) dX7_spellAll_52 ?_
  show xX Γ 0 0 n T 53 [(1, xI 2), (0, xR 195)] [xI (M40__ 196 9), xR 195] M40__
  rw [show M40__ 196 9 = (V 12 2) from ((mr_cg (mr_cg (mr_cg (mr_cg (mr_cg (mr_cg (mr_cg (mr_cg (mr_cg (mr_cg (mr_cg (mr_cg (mr_cg (mr_cg (mr_cg (mr_cg (mr_cg hN (h11.2.1 196 (by omega))) (h16.2.1 196 (by omega))) (h28.2.1 196 (by omega))) (h35.2.1 196 (by omega))) (h40.2.1 196 (by omega))) (h53.2.1 196 (by omega))) (h11_.2.1 196 (by omega))) (h16_.2.1 196 (by omega))) (h28_.2.1 196 (by omega))) (h35_.2.1 196 (by omega))) (h40_.2.1 196 (by omega))) (h53_.2.1 196 (by omega))) (h11__.2.1 196 (by omega))) (h16__.2.1 196 (by omega))) (h28__.2.1 196 (by omega))) (h35__.2.1 196 (by omega))) (h40__.2.1 196 (by omega))).2.1 2 (by decide)).2]
  refine x_callVV G [] [xI (V 12 2)] rfl (by decide) (ly_n hY 195 (by decide)) (ly_k hY 195 (by decide)) hy_X7_spellsOn hi_X7_spellsOn hs_X7_spellsOn ml_X7_261 rfl rfl (kX7_spellsOn _ _ k (numT (wrdT (numT (numT (wrdT (numT (numT (wrdT (numT (numT (wrdT (numT (numT (wrdT (numT (numT (wrdT L [115, 105, 122, 101]) 0) (V 11 0)) [119, 105, 110, 100, 111, 119]) 0) (V 12 0)) [115, 105, 122, 101]) 1) (V 11 1)) [119, 105, 110, 100, 111, 119]) 1) (V 12 1)) [115, 105, 122, 101]) 2) (V 11 2)) [119, 105, 110, 100, 111, 119]) 2) (V 12 2) hY h40__.1 (by omega) (by omega) (by omega)) (by decide) (by decide) (Nat.le_of_ble_eq_true rfl) dX7_spellAll_53 (fun M53__ h53__ => ?_)
  have hn53__ : ((numT (numT (wrdT (numT (numT (wrdT (numT (numT (wrdT (numT (numT (wrdT (numT (numT (wrdT (numT (numT (wrdT L [115, 105, 122, 101]) 0) (V 11 0)) [119, 105, 110, 100, 111, 119]) 0) (V 12 0)) [115, 105, 122, 101]) 1) (V 11 1)) [119, 105, 110, 100, 111, 119]) 1) (V 12 1)) [115, 105, 122, 101]) 2) (V 11 2)) [119, 105, 110, 100, 111, 119]) 2) (V 12 2))).length ≤ ((numT (wrdT (numT (numT (wrdT (numT (numT (wrdT (numT (numT (wrdT (numT (numT (wrdT (numT (numT (wrdT L [115, 105, 122, 101]) 0) (V 11 0)) [119, 105, 110, 100, 111, 119]) 0) (V 12 0)) [115, 105, 122, 101]) 1) (V 11 1)) [119, 105, 110, 100, 111, 119]) 1) (V 12 1)) [115, 105, 122, 101]) 2) (V 11 2)) [119, 105, 110, 100, 111, 119]) 2)).length + 6 := numT_len _ _
  refine x_iinc G [(1, xI 3), (0, xR 195)] 0 rfl (by decide) (by omega) rfl dX7_spellAll_56 ?_
  refine x_goto G 2 (by decide) dX7_spellAll_59 ?_
  refine x_iload_n G 0 rfl rfl dX7_spellAll_2 ?_
  refine x_iconst G (by decide) dX7_spellAll_3 ?_
  refine x_icmp_ge G 62 (by decide) dX7_spellAll_4 (fun c4 => absurd c4 (by decide)) (fun _ => ?_)
  refine x_aload_n G 1 rfl rfl dX7_spellAll_7 ?_
  refine x_ldcSw G (i := 12) rfl dX7_spellAll_8 ?_
  refine x_callVV G [] [xR (1000000 + 12)] rfl (by decide) (ly_n hY 195 (by decide)) (ly_k hY 195 (by decide)) hy_X7_spells hi_X7_spells hs_X7_spells ml_X7_257 rfl rfl (kX7_spells _ _ k (numT (numT (wrdT (numT (numT (wrdT (numT (numT (wrdT (numT (numT (wrdT (numT (numT (wrdT (numT (numT (wrdT L [115, 105, 122, 101]) 0) (V 11 0)) [119, 105, 110, 100, 111, 119]) 0) (V 12 0)) [115, 105, 122, 101]) 1) (V 11 1)) [119, 105, 110, 100, 111, 119]) 1) (V 12 1)) [115, 105, 122, 101]) 2) (V 11 2)) [119, 105, 110, 100, 111, 119]) 2) (V 12 2)) 12 [115, 105, 122, 101] hY h53__.1 (by omega) (by omega) ⟨_, _, _, rfl⟩) (by decide) (by decide) (Nat.le_of_ble_eq_true rfl) dX7_spellAll_11 (fun M11___ h11___ => ?_)
  have hn11___ : ((wrdT (numT (numT (wrdT (numT (numT (wrdT (numT (numT (wrdT (numT (numT (wrdT (numT (numT (wrdT (numT (numT (wrdT L [115, 105, 122, 101]) 0) (V 11 0)) [119, 105, 110, 100, 111, 119]) 0) (V 12 0)) [115, 105, 122, 101]) 1) (V 11 1)) [119, 105, 110, 100, 111, 119]) 1) (V 12 1)) [115, 105, 122, 101]) 2) (V 11 2)) [119, 105, 110, 100, 111, 119]) 2) (V 12 2)) [115, 105, 122, 101])).length ≤ ((numT (numT (wrdT (numT (numT (wrdT (numT (numT (wrdT (numT (numT (wrdT (numT (numT (wrdT (numT (numT (wrdT L [115, 105, 122, 101]) 0) (V 11 0)) [119, 105, 110, 100, 111, 119]) 0) (V 12 0)) [115, 105, 122, 101]) 1) (V 11 1)) [119, 105, 110, 100, 111, 119]) 1) (V 12 1)) [115, 105, 122, 101]) 2) (V 11 2)) [119, 105, 110, 100, 111, 119]) 2) (V 12 2))).length + 7 := Nat.le_trans (wrdT_len _ _) (by rw [Nat.add_assoc]; exact Nat.add_le_add_left (by decide) _)
  refine x_aload_n G 1 rfl rfl dX7_spellAll_14 ?_
  refine x_iload_n G 0 rfl rfl dX7_spellAll_15 ?_
  refine x_callVV G [] [xI 3] rfl (by decide) (ly_n hY 195 (by decide)) (ly_k hY 195 (by decide)) hy_X7_spellsOn hi_X7_spellsOn hs_X7_spellsOn ml_X7_261 rfl rfl (kX7_spellsOn _ _ k (wrdT (numT (numT (wrdT (numT (numT (wrdT (numT (numT (wrdT (numT (numT (wrdT (numT (numT (wrdT (numT (numT (wrdT L [115, 105, 122, 101]) 0) (V 11 0)) [119, 105, 110, 100, 111, 119]) 0) (V 12 0)) [115, 105, 122, 101]) 1) (V 11 1)) [119, 105, 110, 100, 111, 119]) 1) (V 12 1)) [115, 105, 122, 101]) 2) (V 11 2)) [119, 105, 110, 100, 111, 119]) 2) (V 12 2)) [115, 105, 122, 101]) 3 hY h11___.1 (by omega) (by omega) (by omega)) (by decide) (by decide) (Nat.le_of_ble_eq_true rfl) dX7_spellAll_16 (fun M16___ h16___ => ?_)
  have hn16___ : ((numT (wrdT (numT (numT (wrdT (numT (numT (wrdT (numT (numT (wrdT (numT (numT (wrdT (numT (numT (wrdT (numT (numT (wrdT L [115, 105, 122, 101]) 0) (V 11 0)) [119, 105, 110, 100, 111, 119]) 0) (V 12 0)) [115, 105, 122, 101]) 1) (V 11 1)) [119, 105, 110, 100, 111, 119]) 1) (V 12 1)) [115, 105, 122, 101]) 2) (V 11 2)) [119, 105, 110, 100, 111, 119]) 2) (V 12 2)) [115, 105, 122, 101]) 3)).length ≤ ((wrdT (numT (numT (wrdT (numT (numT (wrdT (numT (numT (wrdT (numT (numT (wrdT (numT (numT (wrdT (numT (numT (wrdT L [115, 105, 122, 101]) 0) (V 11 0)) [119, 105, 110, 100, 111, 119]) 0) (V 12 0)) [115, 105, 122, 101]) 1) (V 11 1)) [119, 105, 110, 100, 111, 119]) 1) (V 12 1)) [115, 105, 122, 101]) 2) (V 11 2)) [119, 105, 110, 100, 111, 119]) 2) (V 12 2)) [115, 105, 122, 101])).length + 6 := numT_len _ _
  refine x_aload_n G 1 rfl rfl dX7_spellAll_19 ?_
  refine x_aload_n G 1 rfl rfl dX7_spellAll_20 ?_
  refine x_get G (xR 196) xf7_0 lk_X7_7 (ly_n hY 195 (by decide)) (ly_k hY 195 (by decide)) (Or.inr ⟨rfl, _, (ly_r hY 195 0 (by decide) (by decide)), rfl⟩) dX7_spellAll_21 ?_
  refine x_iconst G (by decide) dX7_spellAll_24 ?_
  refine x_iload_n G 0 rfl rfl dX7_spellAll_25 ?_
  refine x_iadd G (by decide) dX7_spellAll_26 ?_
  show xX Γ 0 0 n T 27 [(1, xI 3), (0, xR 195)] [xI 6, xR 196, xR 195] M16___
  refine x_iald G (ly_n hY 196 (by decide)) (ly_k hY 196 (by decide)) (show _ = 511 from ly_l hY 196 (by decide)) (by omega) (by omega) dX7_spellAll_27 ?_
  show xX Γ 0 0 n T 28 [(1, xI 3), (0, xR 195)] [xI (M16___ 196 6), xR 195] M16___
  rw [show M16___ 196 6 = (V 11 3) from ((mr_cg (mr_cg (mr_cg (mr_cg (mr_cg (mr_cg (mr_cg (mr_cg (mr_cg (mr_cg (mr_cg (mr_cg (mr_cg (mr_cg (mr_cg (mr_cg (mr_cg (mr_cg (mr_cg (mr_cg hN (h11.2.1 196 (by omega))) (h16.2.1 196 (by omega))) (h28.2.1 196 (by omega))) (h35.2.1 196 (by omega))) (h40.2.1 196 (by omega))) (h53.2.1 196 (by omega))) (h11_.2.1 196 (by omega))) (h16_.2.1 196 (by omega))) (h28_.2.1 196 (by omega))) (h35_.2.1 196 (by omega))) (h40_.2.1 196 (by omega))) (h53_.2.1 196 (by omega))) (h11__.2.1 196 (by omega))) (h16__.2.1 196 (by omega))) (h28__.2.1 196 (by omega))) (h35__.2.1 196 (by omega))) (h40__.2.1 196 (by omega))) (h53__.2.1 196 (by omega))) (h11___.2.1 196 (by omega))) (h16___.2.1 196 (by omega))).2.1 3 (by decide)).1]
  refine x_callVV G [] [xI (V 11 3)] rfl (by decide) (ly_n hY 195 (by decide)) (ly_k hY 195 (by decide)) hy_X7_spellsOn hi_X7_spellsOn hs_X7_spellsOn ml_X7_261 rfl rfl (kX7_spellsOn _ _ k (numT (wrdT (numT (numT (wrdT (numT (numT (wrdT (numT (numT (wrdT (numT (numT (wrdT (numT (numT (wrdT (numT (numT (wrdT L [115, 105, 122, 101]) 0) (V 11 0)) [119, 105, 110, 100, 111, 119]) 0) (V 12 0)) [115, 105, 122, 101]) 1) (V 11 1)) [119, 105, 110, 100, 111, 119]) 1) (V 12 1)) [115, 105, 122, 101]) 2) (V 11 2)) [119, 105, 110, 100, 111, 119]) 2) (V 12 2)) [115, 105, 122, 101]) 3) (V 11 3) hY h16___.1 (by omega) (by omega) (by omega)) (by decide) (by decide) (Nat.le_of_ble_eq_true rfl) dX7_spellAll_28 (fun M28___ h28___ => ?_)
  have hn28___ : ((numT (numT (wrdT (numT (numT (wrdT (numT (numT (wrdT (numT (numT (wrdT (numT (numT (wrdT (numT (numT (wrdT (numT (numT (wrdT L [115, 105, 122, 101]) 0) (V 11 0)) [119, 105, 110, 100, 111, 119]) 0) (V 12 0)) [115, 105, 122, 101]) 1) (V 11 1)) [119, 105, 110, 100, 111, 119]) 1) (V 12 1)) [115, 105, 122, 101]) 2) (V 11 2)) [119, 105, 110, 100, 111, 119]) 2) (V 12 2)) [115, 105, 122, 101]) 3) (V 11 3))).length ≤ ((numT (wrdT (numT (numT (wrdT (numT (numT (wrdT (numT (numT (wrdT (numT (numT (wrdT (numT (numT (wrdT (numT (numT (wrdT L [115, 105, 122, 101]) 0) (V 11 0)) [119, 105, 110, 100, 111, 119]) 0) (V 12 0)) [115, 105, 122, 101]) 1) (V 11 1)) [119, 105, 110, 100, 111, 119]) 1) (V 12 1)) [115, 105, 122, 101]) 2) (V 11 2)) [119, 105, 110, 100, 111, 119]) 2) (V 12 2)) [115, 105, 122, 101]) 3)).length + 6 := numT_len _ _
  refine x_aload_n G 1 rfl rfl dX7_spellAll_31 ?_
  refine x_ldcSw G (i := 13) rfl dX7_spellAll_32 ?_
  refine x_callVV G [] [xR (1000000 + 13)] rfl (by decide) (ly_n hY 195 (by decide)) (ly_k hY 195 (by decide)) hy_X7_spells hi_X7_spells hs_X7_spells ml_X7_257 rfl rfl (kX7_spells _ _ k (numT (numT (wrdT (numT (numT (wrdT (numT (numT (wrdT (numT (numT (wrdT (numT (numT (wrdT (numT (numT (wrdT (numT (numT (wrdT L [115, 105, 122, 101]) 0) (V 11 0)) [119, 105, 110, 100, 111, 119]) 0) (V 12 0)) [115, 105, 122, 101]) 1) (V 11 1)) [119, 105, 110, 100, 111, 119]) 1) (V 12 1)) [115, 105, 122, 101]) 2) (V 11 2)) [119, 105, 110, 100, 111, 119]) 2) (V 12 2)) [115, 105, 122, 101]) 3) (V 11 3)) 13 [119, 105, 110, 100, 111, 119] hY h28___.1 (by omega) (by omega) ⟨_, _, _, rfl⟩) (by decide) (by decide) (Nat.le_of_ble_eq_true rfl) dX7_spellAll_35 (fun M35___ h35___ => ?_)
  have hn35___ : ((wrdT (numT (numT (wrdT (numT (numT (wrdT (numT (numT (wrdT (numT (numT (wrdT (numT (numT (wrdT (numT (numT (wrdT (numT (numT (wrdT L [115, 105, 122, 101]) 0) (V 11 0)) [119, 105, 110, 100, 111, 119]) 0) (V 12 0)) [115, 105, 122, 101]) 1) (V 11 1)) [119, 105, 110, 100, 111, 119]) 1) (V 12 1)) [115, 105, 122, 101]) 2) (V 11 2)) [119, 105, 110, 100, 111, 119]) 2) (V 12 2)) [115, 105, 122, 101]) 3) (V 11 3)) [119, 105, 110, 100, 111, 119])).length ≤ ((numT (numT (wrdT (numT (numT (wrdT (numT (numT (wrdT (numT (numT (wrdT (numT (numT (wrdT (numT (numT (wrdT (numT (numT (wrdT L [115, 105, 122, 101]) 0) (V 11 0)) [119, 105, 110, 100, 111, 119]) 0) (V 12 0)) [115, 105, 122, 101]) 1) (V 11 1)) [119, 105, 110, 100, 111, 119]) 1) (V 12 1)) [115, 105, 122, 101]) 2) (V 11 2)) [119, 105, 110, 100, 111, 119]) 2) (V 12 2)) [115, 105, 122, 101]) 3) (V 11 3))).length + 7 := Nat.le_trans (wrdT_len _ _) (by rw [Nat.add_assoc]; exact Nat.add_le_add_left (by decide) _)
  refine x_aload_n G 1 rfl rfl dX7_spellAll_38 ?_
  refine x_iload_n G 0 rfl rfl dX7_spellAll_39 ?_
  refine x_callVV G [] [xI 3] rfl (by decide) (ly_n hY 195 (by decide)) (ly_k hY 195 (by decide)) hy_X7_spellsOn hi_X7_spellsOn hs_X7_spellsOn ml_X7_261 rfl rfl (kX7_spellsOn _ _ k (wrdT (numT (numT (wrdT (numT (numT (wrdT (numT (numT (wrdT (numT (numT (wrdT (numT (numT (wrdT (numT (numT (wrdT (numT (numT (wrdT L [115, 105, 122, 101]) 0) (V 11 0)) [119, 105, 110, 100, 111, 119]) 0) (V 12 0)) [115, 105, 122, 101]) 1) (V 11 1)) [119, 105, 110, 100, 111, 119]) 1) (V 12 1)) [115, 105, 122, 101]) 2) (V 11 2)) [119, 105, 110, 100, 111, 119]) 2) (V 12 2)) [115, 105, 122, 101]) 3) (V 11 3)) [119, 105, 110, 100, 111, 119]) 3 hY h35___.1 (by omega) (by omega) (by omega)) (by decide) (by decide) (Nat.le_of_ble_eq_true rfl) dX7_spellAll_40 (fun M40___ h40___ => ?_)
  have hn40___ : ((numT (wrdT (numT (numT (wrdT (numT (numT (wrdT (numT (numT (wrdT (numT (numT (wrdT (numT (numT (wrdT (numT (numT (wrdT (numT (numT (wrdT L [115, 105, 122, 101]) 0) (V 11 0)) [119, 105, 110, 100, 111, 119]) 0) (V 12 0)) [115, 105, 122, 101]) 1) (V 11 1)) [119, 105, 110, 100, 111, 119]) 1) (V 12 1)) [115, 105, 122, 101]) 2) (V 11 2)) [119, 105, 110, 100, 111, 119]) 2) (V 12 2)) [115, 105, 122, 101]) 3) (V 11 3)) [119, 105, 110, 100, 111, 119]) 3)).length ≤ ((wrdT (numT (numT (wrdT (numT (numT (wrdT (numT (numT (wrdT (numT (numT (wrdT (numT (numT (wrdT (numT (numT (wrdT (numT (numT (wrdT L [115, 105, 122, 101]) 0) (V 11 0)) [119, 105, 110, 100, 111, 119]) 0) (V 12 0)) [115, 105, 122, 101]) 1) (V 11 1)) [119, 105, 110, 100, 111, 119]) 1) (V 12 1)) [115, 105, 122, 101]) 2) (V 11 2)) [119, 105, 110, 100, 111, 119]) 2) (V 12 2)) [115, 105, 122, 101]) 3) (V 11 3)) [119, 105, 110, 100, 111, 119])).length + 6 := numT_len _ _
  refine x_aload_n G 1 rfl rfl dX7_spellAll_43 ?_
  refine x_aload_n G 1 rfl rfl dX7_spellAll_44 ?_
  refine x_get G (xR 196) xf7_0 lk_X7_7 (ly_n hY 195 (by decide)) (ly_k hY 195 (by decide)) (Or.inr ⟨rfl, _, (ly_r hY 195 0 (by decide) (by decide)), rfl⟩) dX7_spellAll_45 ?_
  refine x_bipush G (by decide) dX7_spellAll_48 ?_
  refine x_iload_n G 0 rfl rfl dX7_spellAll_50 ?_
  refine x_iadd G (by decide) dX7_spellAll_51 ?_
  show xX Γ 0 0 n T 52 [(1, xI 3), (0, xR 195)] [xI 10, xR 196, xR 195] M40___
  refine x_iald G (ly_n hY 196 (by decide)) (ly_k hY 196 (by decide)) (show _ = 511 from ly_l hY 196 (by decide)) (by omega) (by omega) dX7_spellAll_52 ?_
  show xX Γ 0 0 n T 53 [(1, xI 3), (0, xR 195)] [xI (M40___ 196 10), xR 195] M40___
  rw [show M40___ 196 10 = (V 12 3) from ((mr_cg (mr_cg (mr_cg (mr_cg (mr_cg (mr_cg (mr_cg (mr_cg (mr_cg (mr_cg (mr_cg (mr_cg (mr_cg (mr_cg (mr_cg (mr_cg (mr_cg (mr_cg (mr_cg (mr_cg (mr_cg (mr_cg (mr_cg hN (h11.2.1 196 (by omega))) (h16.2.1 196 (by omega))) (h28.2.1 196 (by omega))) (h35.2.1 196 (by omega))) (h40.2.1 196 (by omega))) (h53.2.1 196 (by omega))) (h11_.2.1 196 (by omega))) (h16_.2.1 196 (by omega))) (h28_.2.1 196 (by omega))) (h35_.2.1 196 (by omega))) (h40_.2.1 196 (by omega))) (h53_.2.1 196 (by omega))) (h11__.2.1 196 (by omega))) (h16__.2.1 196 (by omega))) (h28__.2.1 196 (by omega))) (h35__.2.1 196 (by omega))) (h40__.2.1 196 (by omega))) (h53__.2.1 196 (by omega))) (h11___.2.1 196 (by omega))) (h16___.2.1 196 (by omega))) (h28___.2.1 196 (by omega))) (h35___.2.1 196 (by omega))) (h40___.2.1 196 (by omega))).2.1 3 (by decide)).2]
  refine x_callVV G [] [xI (V 12 3)] rfl (by decide) (ly_n hY 195 (by decide)) (ly_k hY 195 (by decide)) hy_X7_spellsOn hi_X7_spellsOn hs_X7_spellsOn ml_X7_261 rfl rfl (kX7_spellsOn _ _ k (numT (wrdT (numT (numT (wrdT (numT (numT (wrdT (numT (numT (wrdT (numT (numT (wrdT (numT (numT (wrdT (numT (numT (wrdT (numT (numT (wrdT L [115, 105, 122, 101]) 0) (V 11 0)) [119, 105, 110, 100, 111, 119]) 0) (V 12 0)) [115, 105, 122, 101]) 1) (V 11 1)) [119, 105, 110, 100, 111, 119]) 1) (V 12 1)) [115, 105, 122, 101]) 2) (V 11 2)) [119, 105, 110, 100, 111, 119]) 2) (V 12 2)) [115, 105, 122, 101]) 3) (V 11 3)) [119, 105, 110, 100, 111, 119]) 3) (V 12 3) hY h40___.1 (by omega) (by omega) (by omega)) (by decide) (by decide) (Nat.le_of_ble_eq_true rfl) dX7_spellAll_53 (fun M53___ h53___ => ?_)
  have hn53___ : ((numT (numT (wrdT (numT (numT (wrdT (numT (numT (wrdT (numT (numT (wrdT (numT (numT (wrdT (numT (numT (wrdT (numT (numT (wrdT (numT (numT (wrdT L [115, 105, 122, 101]) 0) (V 11 0)) [119, 105, 110, 100, 111, 119]) 0) (V 12 0)) [115, 105, 122, 101]) 1) (V 11 1)) [119, 105, 110, 100, 111, 119]) 1) (V 12 1)) [115, 105, 122, 101]) 2) (V 11 2)) [119, 105, 110, 100, 111, 119]) 2) (V 12 2)) [115, 105, 122, 101]) 3) (V 11 3)) [119, 105, 110, 100, 111, 119]) 3) (V 12 3))).length ≤ ((numT (wrdT (numT (numT (wrdT (numT (numT (wrdT (numT (numT (wrdT (numT (numT (wrdT (numT (numT (wrdT (numT (numT (wrdT (numT (numT (wrdT L [115, 105, 122, 101]) 0) (V 11 0)) [119, 105, 110, 100, 111, 119]) 0) (V 12 0)) [115, 105, 122, 101]) 1) (V 11 1)) [119, 105, 110, 100, 111, 119]) 1) (V 12 1)) [115, 105, 122, 101]) 2) (V 11 2)) [119, 105, 110, 100, 111, 119]) 2) (V 12 2)) [115, 105, 122, 101]) 3) (V 11 3)) [119, 105, 110, 100, 111, 119]) 3)).length + 6 := numT_len _ _
  refine x_iinc G [(1, xI 4), (0, xR 195)] 0 rfl (by decide) (by omega) rfl dX7_spellAll_56 ?_
  refine x_goto G 2 (by decide) dX7_spellAll_59 ?_
  refine x_iload_n G 0 rfl rfl dX7_spellAll_2 ?_
  refine x_iconst G (by decide) dX7_spellAll_3 ?_
  refine x_icmp_ge G 62 (by decide) dX7_spellAll_4 (fun _ => ?_) (fun c4 => absurd c4 (by decide))
  have hsh4 : (shT V 3 (shT V 2 (shT V 1 (shT V 0 L)))).length ≤ 160 := by (have h1 := shT_len V 0 L; have h2 := shT_len V 1 (shT V 0 L); have h3 := shT_len V 2 (shT V 1 (shT V 0 L)); have h4 := shT_len V 3 (shT V 2 (shT V 1 (shT V 0 L))); omega)
  refine x_iconst G (by decide) dX7_spellAll_62 ?_
  refine x_istore_n G [(1, xI 0), (0, xR 195)] rfl (by decide) rfl dX7_spellAll_63 ?_
  refine x_iconst G (by decide) dX7_spellAll_64 ?_
  refine x_istore_n G [(2, xI 0), (1, xI 0), (0, xR 195)] rfl (by decide) rfl dX7_spellAll_65 ?_
  have loop66 : ∀ (d : Nat) (j : Int) (t : Int) (M1 : xM), (V 0 10 - j).toNat = d → (0 ≤ j ∧ j ≤ V 0 10) → (t = (alT V j.toNat).2) → (SL M1 k (alT V j.toNat).1) → (slf M M1) → xX Γ 0 0 n T 66 [(0, xR 195), (1, xI t), (2, xI j)] [] M1 := by
    intro d
    induction d using Nat.strongRecOn with
    | ind d ih66 =>
    intro j t M1 hd66 hj htk hT1 hf1
    have hal := alT_len V j.toNat
    have hat := alT_t hv j.toNat (by omega)
    refine x_iload_n G 2 rfl rfl dX7_spellAll_66 ?_
    refine x_aload_n G 0 rfl rfl dX7_spellAll_67 ?_
    refine x_get G (xR 196) xf7_0 lk_X7_7 (ly_n hY 195 (by decide)) (ly_k hY 195 (by decide)) (Or.inr ⟨rfl, _, (ly_r hY 195 0 (by decide) (by decide)), rfl⟩) dX7_spellAll_68 ?_
    refine x_iconst G (by decide) dX7_spellAll_71 ?_
    refine x_iald G (ly_n hY 196 (by decide)) (ly_k hY 196 (by decide)) (show _ = 511 from ly_l hY 196 (by decide)) (by omega) (by omega) dX7_spellAll_72 ?_
    show xX Γ 0 0 n T 73 [(0, xR 195), (1, xI t), (2, xI j)] [xI (M1 196 2), xI j] M1
    rw [show M1 196 2 = (V 0 10) from (mr_cg hN (hf1.1 196 (by decide))).1.2.2]
    refine x_icmp_ge G 167 (by decide) dX7_spellAll_73 (fun c73 => ?_) (fun c73 => ?_)
    · skip
      refine x_aload_n G 0 rfl rfl dX7_spellAll_167 ?_
      refine x_aload_n G 0 rfl rfl dX7_spellAll_168 ?_
      refine x_get G (xR 196) xf7_0 lk_X7_7 (ly_n hY 195 (by decide)) (ly_k hY 195 (by decide)) (Or.inr ⟨rfl, _, (ly_r hY 195 0 (by decide) (by decide)), rfl⟩) dX7_spellAll_169 ?_
      refine x_iconst G (by decide) dX7_spellAll_172 ?_
      refine x_iald G (ly_n hY 196 (by decide)) (ly_k hY 196 (by decide)) (show _ = 511 from ly_l hY 196 (by decide)) (by omega) (by omega) dX7_spellAll_173 ?_
      show xX Γ 0 0 n T 174 [(0, xR 195), (1, xI t), (2, xI j)] [xI (M1 196 0), xR 195] M1
      rw [show M1 196 0 = (V 0 11) from (mr_cg hN (hf1.1 196 (by decide))).1.1]
      refine x_iload_n G 1 rfl rfl dX7_spellAll_174 ?_
      refine x_isub G (by omega) dX7_spellAll_175 ?_
      refine x_callVV G [] [xI ((V 0 11) - t)] rfl (by decide) (ly_n hY 195 (by decide)) (ly_k hY 195 (by decide)) hy_X7_spellWait hi_X7_spellWait hs_X7_spellWait ml_X7_268 rfl rfl (kX7_spellWait _ _ k ((alT V j.toNat).1) ((V 0 11) - t) hY hT1 (by omega) (by omega) (by omega)) (by decide) (by decide) (Nat.le_of_ble_eq_true rfl) dX7_spellAll_176 (fun M176 h176 => ?_)
      have hn176 : ((twn 12 (alT V j.toNat).1 ((V 0 11) - t))).length ≤ ((alT V j.toNat).1).length + 132 := twn_len _ _ _
      refine x_aload_n G 0 rfl rfl dX7_spellAll_179 ?_
      refine x_ldcSw G (i := 16) rfl dX7_spellAll_180 ?_
      refine x_callVV G [] [xR (1000000 + 16)] rfl (by decide) (ly_n hY 195 (by decide)) (ly_k hY 195 (by decide)) hy_X7_spells hi_X7_spells hs_X7_spells ml_X7_257 rfl rfl (kX7_spells _ _ k (twn 12 (alT V j.toNat).1 ((V 0 11) - t)) 16 [115, 101, 101, 100] hY h176.1 (by omega) (by omega) ⟨_, _, _, rfl⟩) (by decide) (by decide) (Nat.le_of_ble_eq_true rfl) dX7_spellAll_183 (fun M183 h183 => ?_)
      have hn183 : ((wrdT (twn 12 (alT V j.toNat).1 ((V 0 11) - t)) [115, 101, 101, 100])).length ≤ ((twn 12 (alT V j.toNat).1 ((V 0 11) - t))).length + 7 := Nat.le_trans (wrdT_len _ _) (by rw [Nat.add_assoc]; exact Nat.add_le_add_left (by decide) _)
      refine x_aload_n G 0 rfl rfl dX7_spellAll_186 ?_
      refine x_aload_n G 0 rfl rfl dX7_spellAll_187 ?_
      refine x_get G (xR 196) xf7_0 lk_X7_7 (ly_n hY 195 (by decide)) (ly_k hY 195 (by decide)) (Or.inr ⟨rfl, _, (ly_r hY 195 0 (by decide) (by decide)), rfl⟩) dX7_spellAll_188 ?_
      refine x_iconst G (by decide) dX7_spellAll_191 ?_
      refine x_iald G (ly_n hY 196 (by decide)) (ly_k hY 196 (by decide)) (show _ = 511 from ly_l hY 196 (by decide)) (by omega) (by omega) dX7_spellAll_192 ?_
      show xX Γ 0 0 n T 193 [(0, xR 195), (1, xI t), (2, xI j)] [xI (M183 196 1), xR 195] M183
      rw [show M183 196 1 = (V 0 12) from (mr_cg (mr_cg (mr_cg hN (hf1.1 196 (by decide))) (h176.2.1 196 (by omega))) (h183.2.1 196 (by omega))).1.2.1]
      refine x_callVV G [] [xI (V 0 12)] rfl (by decide) (ly_n hY 195 (by decide)) (ly_k hY 195 (by decide)) hy_X7_spellsOn hi_X7_spellsOn hs_X7_spellsOn ml_X7_261 rfl rfl (kX7_spellsOn _ _ k (wrdT (twn 12 (alT V j.toNat).1 ((V 0 11) - t)) [115, 101, 101, 100]) (V 0 12) hY h183.1 (by omega) (by omega) (by omega)) (by decide) (by decide) (Nat.le_of_ble_eq_true rfl) dX7_spellAll_193 (fun M193 h193 => ?_)
      have hn193 : ((numT (wrdT (twn 12 (alT V j.toNat).1 ((V 0 11) - t)) [115, 101, 101, 100]) (V 0 12))).length ≤ ((wrdT (twn 12 (alT V j.toNat).1 ((V 0 11) - t)) [115, 101, 101, 100])).length + 6 := numT_len _ _
      exact x_vret G Rt dX7_spellAll_196 ⟨rfl, rfl, rfl, ⟨by (have e9 : j = V 0 10 := by omega); have h8 := h193.1; rw [htk, e9] at h8; exact h8, (slf_tr (slf_tr (slf_tr hf1 h176.2) h183.2) h193.2)⟩⟩
    · skip
      have hit := ok_i hv hj.1 (by omega)
      have hat3 := hat.2.2 j.toNat (by omega) (by omega)
      refine x_aload_n G 0 rfl rfl dX7_spellAll_76 ?_
      refine x_iload_n G 2 rfl rfl dX7_spellAll_77 ?_
      refine x_callVp G [] [xI j] rfl (by decide) (ly_n hY 195 (by decide)) (ly_k hY 195 (by decide)) hy_X7_isDropped hi_X7_isDropped hs_X7_isDropped ml_X7_70 rfl rfl (kX7_isDropped _ _ V j hY (mr_cg hN (hf1.1 196 (by decide))) hv (by omega)) (by decide) (by decide) (Nat.le_of_ble_eq_true rfl) dX7_spellAll_78 ?_
      refine x_if_eq G 87 (by decide) dX7_spellAll_81 (fun c81 => ?_) (fun c81 => ?_)
      · skip
        have c81 := b2i_eq0.mp c81
        refine x_aload_n G 0 rfl rfl dX7_spellAll_87 ?_
        refine x_aload_n G 0 rfl rfl dX7_spellAll_88 ?_
        refine x_iload_n G 2 rfl rfl dX7_spellAll_89 ?_
        refine x_iconst G (by decide) dX7_spellAll_90 ?_
        refine x_callVp G [xR 195] [xI j, xI 4] rfl (by decide) (ly_n hY 195 (by decide)) (ly_k hY 195 (by decide)) hy_X7_item hi_X7_item hs_X7_item ml_X7_58 rfl rfl (kX7_item_4 _ _ V j hY (mr_cg hN (hf1.1 196 (by decide))) hv (by omega)) (by decide) (by decide) (Nat.le_of_ble_eq_true rfl) dX7_spellAll_91 ?_
        refine x_iload_n G 1 rfl rfl dX7_spellAll_94 ?_
        refine x_isub G (by omega) dX7_spellAll_95 ?_
        refine x_callVV G [] [xI ((V 8 j.toNat) - t)] rfl (by decide) (ly_n hY 195 (by decide)) (ly_k hY 195 (by decide)) hy_X7_spellWait hi_X7_spellWait hs_X7_spellWait ml_X7_268 rfl rfl (kX7_spellWait _ _ k ((alT V j.toNat).1) ((V 8 j.toNat) - t) hY hT1 (by omega) (by omega) (by omega)) (by decide) (by decide) (Nat.le_of_ble_eq_true rfl) dX7_spellAll_96 (fun M96 h96 => ?_)
        have hn96 : ((twn 12 (alT V j.toNat).1 ((V 8 j.toNat) - t))).length ≤ ((alT V j.toNat).1).length + 132 := twn_len _ _ _
        refine x_aload_n G 0 rfl rfl dX7_spellAll_99 ?_
        refine x_iload_n G 2 rfl rfl dX7_spellAll_100 ?_
        refine x_iconst G (by decide) dX7_spellAll_101 ?_
        refine x_callVp G [] [xI j, xI 4] rfl (by decide) (ly_n hY 195 (by decide)) (ly_k hY 195 (by decide)) hy_X7_item hi_X7_item hs_X7_item ml_X7_58 rfl rfl (kX7_item_4 _ _ V j hY (mr_cg (mr_cg hN (hf1.1 196 (by decide))) (h96.2.1 196 (by omega))) hv (by omega)) (by decide) (by decide) (Nat.le_of_ble_eq_true rfl) dX7_spellAll_102 ?_
        refine x_istore_n G [(1, xI (V 8 j.toNat)), (0, xR 195), (2, xI j)] rfl (by decide) rfl dX7_spellAll_105 ?_
        refine x_aload_n G 1 rfl rfl dX7_spellAll_106 ?_
        refine x_ldcSw G (i := 15) rfl dX7_spellAll_107 ?_
        refine x_callVV G [] [xR (1000000 + 15)] rfl (by decide) (ly_n hY 195 (by decide)) (ly_k hY 195 (by decide)) hy_X7_spells hi_X7_spells hs_X7_spells ml_X7_257 rfl rfl (kX7_spells _ _ k (twn 12 (alT V j.toNat).1 ((V 8 j.toNat) - t)) 15 [107, 101, 121] hY h96.1 (by omega) (by omega) ⟨_, _, _, rfl⟩) (by decide) (by decide) (Nat.le_of_ble_eq_true rfl) dX7_spellAll_110 (fun M110 h110 => ?_)
        have hn110 : ((wrdT (twn 12 (alT V j.toNat).1 ((V 8 j.toNat) - t)) [107, 101, 121])).length ≤ ((twn 12 (alT V j.toNat).1 ((V 8 j.toNat) - t))).length + 7 := Nat.le_trans (wrdT_len _ _) (by rw [Nat.add_assoc]; exact Nat.add_le_add_left (by decide) _)
        refine x_aload_n G 1 rfl rfl dX7_spellAll_113 ?_
        refine x_aload_n G 1 rfl rfl dX7_spellAll_114 ?_
        refine x_iload_n G 2 rfl rfl dX7_spellAll_115 ?_
        refine x_callVp G [xR 195] [xI j] rfl (by decide) (ly_n hY 195 (by decide)) (ly_k hY 195 (by decide)) hy_X7_shardOf hi_X7_shardOf hs_X7_shardOf ml_X7_62 rfl rfl (kX7_shardOf_u _ _ V j hY (mr_cg (mr_cg (mr_cg hN (hf1.1 196 (by decide))) (h96.2.1 196 (by omega))) (h110.2.1 196 (by omega))) hv (by omega) (show V 9 j.toNat = 0 by omega)) (by decide) (by decide) (Nat.le_of_ble_eq_true rfl) dX7_spellAll_116 ?_
        refine x_callVV G [] [xI (V 4 j.toNat)] rfl (by decide) (ly_n hY 195 (by decide)) (ly_k hY 195 (by decide)) hy_X7_spellsOn hi_X7_spellsOn hs_X7_spellsOn ml_X7_261 rfl rfl (kX7_spellsOn _ _ k (wrdT (twn 12 (alT V j.toNat).1 ((V 8 j.toNat) - t)) [107, 101, 121]) (V 4 j.toNat) hY h110.1 (by omega) (by omega) (by omega)) (by decide) (by decide) (Nat.le_of_ble_eq_true rfl) dX7_spellAll_119 (fun M119 h119 => ?_)
        have hn119 : ((numT (wrdT (twn 12 (alT V j.toNat).1 ((V 8 j.toNat) - t)) [107, 101, 121]) (V 4 j.toNat))).length ≤ ((wrdT (twn 12 (alT V j.toNat).1 ((V 8 j.toNat) - t)) [107, 101, 121])).length + 6 := numT_len _ _
        refine x_aload_n G 1 rfl rfl dX7_spellAll_122 ?_
        refine x_bipush G (by decide) dX7_spellAll_123 ?_
        refine x_callVV G [] [xI 32] rfl (by decide) (ly_n hY 195 (by decide)) (ly_k hY 195 (by decide)) hy_X7_spell hi_X7_spell hs_X7_spell ml_X7_243 rfl rfl (kX7_spell _ _ k (numT (wrdT (twn 12 (alT V j.toNat).1 ((V 8 j.toNat) - t)) [107, 101, 121]) (V 4 j.toNat)) 32 hY h119.1 (by omega)) (by decide) (by decide) (Nat.le_of_ble_eq_true rfl) dX7_spellAll_125 (fun M125 h125 => ?_)
        have hn125 : (((numT (wrdT (twn 12 (alT V j.toNat).1 ((V 8 j.toNat) - t)) [107, 101, 121]) (V 4 j.toNat)) ++ [32])).length ≤ ((numT (wrdT (twn 12 (alT V j.toNat).1 ((V 8 j.toNat) - t)) [107, 101, 121]) (V 4 j.toNat))).length + 1 := by rw [List.length_append]; exact Nat.le_refl _
        refine x_aload_n G 1 rfl rfl dX7_spellAll_128 ?_
        refine x_bipush G (by decide) dX7_spellAll_129 ?_
        refine x_aload_n G 1 rfl rfl dX7_spellAll_131 ?_
        refine x_iload_n G 2 rfl rfl dX7_spellAll_132 ?_
        refine x_iconst G (by decide) dX7_spellAll_133 ?_
        refine x_callVp G [xI 97, xR 195] [xI j, xI 1] rfl (by decide) (ly_n hY 195 (by decide)) (ly_k hY 195 (by decide)) hy_X7_item hi_X7_item hs_X7_item ml_X7_58 rfl rfl (kX7_item_1 _ _ V j hY (mr_cg (mr_cg (mr_cg (mr_cg (mr_cg hN (hf1.1 196 (by decide))) (h96.2.1 196 (by omega))) (h110.2.1 196 (by omega))) (h119.2.1 196 (by omega))) (h125.2.1 196 (by omega))) hv (by omega)) (by decide) (by decide) (Nat.le_of_ble_eq_true rfl) dX7_spellAll_134 ?_
        refine x_iadd G (by omega) dX7_spellAll_137 ?_
        refine x_callVV G [] [xI (97 + (V 5 j.toNat))] rfl (by decide) (ly_n hY 195 (by decide)) (ly_k hY 195 (by decide)) hy_X7_spell hi_X7_spell hs_X7_spell ml_X7_243 rfl rfl (kX7_spell _ _ k ((numT (wrdT (twn 12 (alT V j.toNat).1 ((V 8 j.toNat) - t)) [107, 101, 121]) (V 4 j.toNat)) ++ [32]) (97 + (V 5 j.toNat)) hY h125.1 (by omega)) (by decide) (by decide) (Nat.le_of_ble_eq_true rfl) dX7_spellAll_138 (fun M138 h138 => ?_)
        have hn138 : ((((numT (wrdT (twn 12 (alT V j.toNat).1 ((V 8 j.toNat) - t)) [107, 101, 121]) (V 4 j.toNat)) ++ [32]) ++ [(97 + (V 5 j.toNat))])).length ≤ (((numT (wrdT (twn 12 (alT V j.toNat).1 ((V 8 j.toNat) - t)) [107, 101, 121]) (V 4 j.toNat)) ++ [32])).length + 1 := by rw [List.length_append]; exact Nat.le_refl _
        refine x_aload_n G 1 rfl rfl dX7_spellAll_141 ?_
        refine x_aload_n G 1 rfl rfl dX7_spellAll_142 ?_
        refine x_iload_n G 2 rfl rfl dX7_spellAll_143 ?_
        refine x_iconst G (by decide) dX7_spellAll_144 ?_
        refine x_callVp G [xR 195] [xI j, xI 2] rfl (by decide) (ly_n hY 195 (by decide)) (ly_k hY 195 (by decide)) hy_X7_item hi_X7_item hs_X7_item ml_X7_58 rfl rfl (kX7_item_2 _ _ V j hY (mr_cg (mr_cg (mr_cg (mr_cg (mr_cg (mr_cg hN (hf1.1 196 (by decide))) (h96.2.1 196 (by omega))) (h110.2.1 196 (by omega))) (h119.2.1 196 (by omega))) (h125.2.1 196 (by omega))) (h138.2.1 196 (by omega))) hv (by omega)) (by decide) (by decide) (Nat.le_of_ble_eq_true rfl) dX7_spellAll_145 ?_
        refine x_callVV G [] [xI (V 6 j.toNat)] rfl (by decide) (ly_n hY 195 (by decide)) (ly_k hY 195 (by decide)) hy_X7_spellsOn hi_X7_spellsOn hs_X7_spellsOn ml_X7_261 rfl rfl (kX7_spellsOn _ _ k (((numT (wrdT (twn 12 (alT V j.toNat).1 ((V 8 j.toNat) - t)) [107, 101, 121]) (V 4 j.toNat)) ++ [32]) ++ [(97 + (V 5 j.toNat))]) (V 6 j.toNat) hY h138.1 (by omega) (by omega) (by omega)) (by decide) (by decide) (Nat.le_of_ble_eq_true rfl) dX7_spellAll_148 (fun M148 h148 => ?_)
        have hn148 : ((numT (((numT (wrdT (twn 12 (alT V j.toNat).1 ((V 8 j.toNat) - t)) [107, 101, 121]) (V 4 j.toNat)) ++ [32]) ++ [(97 + (V 5 j.toNat))]) (V 6 j.toNat))).length ≤ ((((numT (wrdT (twn 12 (alT V j.toNat).1 ((V 8 j.toNat) - t)) [107, 101, 121]) (V 4 j.toNat)) ++ [32]) ++ [(97 + (V 5 j.toNat))])).length + 6 := numT_len _ _
        refine x_aload_n G 1 rfl rfl dX7_spellAll_151 ?_
        refine x_aload_n G 1 rfl rfl dX7_spellAll_152 ?_
        refine x_iload_n G 2 rfl rfl dX7_spellAll_153 ?_
        refine x_iconst G (by decide) dX7_spellAll_154 ?_
        refine x_callVp G [xR 195] [xI j, xI 3] rfl (by decide) (ly_n hY 195 (by decide)) (ly_k hY 195 (by decide)) hy_X7_item hi_X7_item hs_X7_item ml_X7_58 rfl rfl (kX7_item_3 _ _ V j hY (mr_cg (mr_cg (mr_cg (mr_cg (mr_cg (mr_cg (mr_cg hN (hf1.1 196 (by decide))) (h96.2.1 196 (by omega))) (h110.2.1 196 (by omega))) (h119.2.1 196 (by omega))) (h125.2.1 196 (by omega))) (h138.2.1 196 (by omega))) (h148.2.1 196 (by omega))) hv (by omega)) (by decide) (by decide) (Nat.le_of_ble_eq_true rfl) dX7_spellAll_155 ?_
        refine x_callVV G [] [xI (V 7 j.toNat)] rfl (by decide) (ly_n hY 195 (by decide)) (ly_k hY 195 (by decide)) hy_X7_spellsOn hi_X7_spellsOn hs_X7_spellsOn ml_X7_261 rfl rfl (kX7_spellsOn _ _ k (numT (((numT (wrdT (twn 12 (alT V j.toNat).1 ((V 8 j.toNat) - t)) [107, 101, 121]) (V 4 j.toNat)) ++ [32]) ++ [(97 + (V 5 j.toNat))]) (V 6 j.toNat)) (V 7 j.toNat) hY h148.1 (by omega) (by omega) (by omega)) (by decide) (by decide) (Nat.le_of_ble_eq_true rfl) dX7_spellAll_158 (fun M158 h158 => ?_)
        have hn158 : ((numT (numT (((numT (wrdT (twn 12 (alT V j.toNat).1 ((V 8 j.toNat) - t)) [107, 101, 121]) (V 4 j.toNat)) ++ [32]) ++ [(97 + (V 5 j.toNat))]) (V 6 j.toNat)) (V 7 j.toNat))).length ≤ ((numT (((numT (wrdT (twn 12 (alT V j.toNat).1 ((V 8 j.toNat) - t)) [107, 101, 121]) (V 4 j.toNat)) ++ [32]) ++ [(97 + (V 5 j.toNat))]) (V 6 j.toNat))).length + 6 := numT_len _ _
        refine x_iinc G [(2, xI (j + 1)), (1, xI (V 8 j.toNat)), (0, xR 195)] 2 rfl (by decide) (by omega) rfl dX7_spellAll_161 ?_
        refine x_goto G 66 (by decide) dX7_spellAll_164 ?_
        refine x_sub [(0, xR 195), (1, xI (V 8 j.toNat)), (2, xI (j + 1))] [2, 1, 0] rfl ?_
        exact ih66 _ (by omega) (j + 1) (V 8 j.toNat) M158 rfl (by omega) ((by rw [show (j + 1).toNat = j.toNat + 1 by omega]; unfold alT; rw [if_pos (by omega)])) ((by rw [show (j + 1).toNat = j.toNat + 1 by omega]; unfold alT; rw [if_pos (by omega), ← htk]; exact h158.1)) ((slf_tr (slf_tr (slf_tr (slf_tr (slf_tr (slf_tr (slf_tr hf1 h96.2) h110.2) h119.2) h125.2) h138.2) h148.2) h158.2))
      · skip
        have c81 := b2i_ne0.mp c81
        refine x_goto G 161 (by decide) dX7_spellAll_84 ?_
        refine x_iinc G [(2, xI (j + 1)), (0, xR 195), (1, xI t)] 2 rfl (by decide) (by omega) rfl dX7_spellAll_161 ?_
        refine x_goto G 66 (by decide) dX7_spellAll_164 ?_
        refine x_sub [(0, xR 195), (1, xI t), (2, xI (j + 1))] [1, 2, 0] rfl ?_
        exact ih66 _ (by omega) (j + 1) t M1 rfl (by omega) ((by rw [show (j + 1).toNat = j.toNat + 1 by omega]; unfold alT; rw [if_neg (by omega)]; exact htk)) ((by rw [show (j + 1).toNat = j.toNat + 1 by omega]; unfold alT; rw [if_neg (by omega)]; exact hT1)) (hf1)
  refine x_sub [(0, xR 195), (1, xI 0), (2, xI 0)] [2, 1, 0] rfl ?_
  exact loop66 _ 0 0 M53___ rfl (by omega) (rfl) ((by have h9 := (show SL _ k (shT V 3 (shT V 2 (shT V 1 (shT V 0 L)))) from h53___.1); rw [hLn] at h9; exact h9)) ((slf_tr (slf_tr (slf_tr (slf_tr (slf_tr (slf_tr (slf_tr (slf_tr (slf_tr (slf_tr (slf_tr (slf_tr (slf_tr (slf_tr (slf_tr (slf_tr (slf_tr (slf_tr (slf_tr (slf_tr (slf_tr (slf_tr (slf_tr (slf_tr (slf_refl _) h11.2) h16.2) h28.2) h35.2) h40.2) h53.2) h11_.2) h16_.2) h28_.2) h35_.2) h40_.2) h53_.2) h11__.2) h16__.2) h28__.2) h35__.2) h40__.2) h53__.2) h11___.2) h16___.2) h28___.2) h35___.2) h40___.2) h53___.2))
set_option maxRecDepth 100000 in
set_option maxHeartbeats 4000000 in
theorem kX7_told (D : xD) (l : Launch) {n : Nat} {T : xT} {M : xM} (V : xM) (k : Int) (hY : LayOK n T) (hN : mrel (M 196) V) (hv : VOK V) (hs : Srt V (V 10) (V 0 10).toNat) (hR : Rk M V) : xC D l uX7_told 10 212 0 0 [xR 195, xI k] n T M (xPI n T (fun z M2 => z = qTold V k ∧ mfr M M2 ∧ Rk M2 V)) := by
  refine x_met uX7_told (by decide) (Nat.le_of_ble_eq_true rfl) ?_
  intro Γ G Rt _
  have G : xG Γ RX7 cX7_told 2 10 212 0 0 := G
  have Rt : xRt Γ (xPI n T (fun z M2 => z = qTold V k ∧ mfr M M2 ∧ Rk M2 V)) (some .int) 0 0 := Rt
  show xX Γ 0 0 n T 0 [(0, xR 195), (1, xI k)] [] M
  refine x_iload_n G 1 rfl rfl dX7_told_0 ?_
  refine x_iconst G (by decide) dX7_told_1 ?_
  refine x_icmp_ge G 7 (by decide) dX7_told_2 (fun c2 => ?_) (fun c2 => ?_)
  · skip
    refine x_aload_n G 0 rfl rfl dX7_told_7 ?_
    refine x_iconst G (by decide) dX7_told_8 ?_
    refine x_put G  xf7_14 lk_X7_231 (ly_n hY 195 (by decide)) (ly_k hY 195 (by decide)) rfl dX7_told_9 ?_
    refine x_aload_n G 0 rfl rfl dX7_told_12 ?_
    refine x_iload_n G 1 rfl rfl dX7_told_13 ?_
    refine x_put G  xf7_15 lk_X7_234 (ly_n hY 195 (by decide)) (ly_k hY 195 (by decide)) rfl dX7_told_14 ?_
    refine x_aload_n G 0 rfl rfl dX7_told_17 ?_
    refine x_bipush G (by decide) dX7_told_18 ?_
    refine x_put G  xf7_16 lk_X7_237 (ly_n hY 195 (by decide)) (ly_k hY 195 (by decide)) rfl dX7_told_20 ?_
    refine x_aload_n G 0 rfl rfl dX7_told_23 ?_
    refine x_callVV G [] [] rfl (by decide) (ly_n hY 195 (by decide)) (ly_k hY 195 (by decide)) hy_X7_spellAll hi_X7_spellAll hs_X7_spellAll ml_X7_275 rfl rfl (kX7_spellAll _ _ k ([] : List Int) V hY ⟨by simp [xst_eq], by simp [xst_eq], by simp [xst_eq, hrd] <;> omega⟩ rfl rfl (mr_cg (mr_cg (mr_cg hN (xst_row (by omega))) (xst_row (by omega))) (xst_row (by omega))) hv) (by decide) (by decide) (Nat.le_of_ble_eq_true rfl) dX7_told_24 (fun M24 h24 => ?_)
    refine x_iload_n G 1 rfl rfl dX7_told_27 ?_
    refine x_iconst G (by decide) dX7_told_28 ?_
    refine x_icmp_ne G 39 (by decide) dX7_told_29 (fun c29 => ?_) (fun c29 => ?_)
    · skip
      refine x_aload_n G 0 rfl rfl dX7_told_39 ?_
      refine x_get G (xI (M24 195 16)) xf7_16 lk_X7_237 (ly_n hY 195 (by decide)) (ly_k hY 195 (by decide)) (Or.inl ⟨rfl, rfl⟩) dX7_told_40 ?_
      exact x_iret G Rt dX7_told_43 ⟨rfl, rfl, _, rfl, ⟨(by unfold qTold kthI; rw [if_neg (by omega)]; rw [if_neg (by omega)]; exact h24.1.2.2), ⟨fun q hq => by by_cases e : q = 195; (subst e; omega); (rw [h24.2.1 q e, xst_row e, xst_row e, xst_row e]), by rw [h24.2.2 2 (by decide) (by decide), xst_nq (by decide), xst_nq (by decide), xst_nq (by decide)], by rw [h24.2.2 18 (by decide) (by decide), xst_nq (by decide), xst_nq (by decide), xst_nq (by decide)]⟩, (rk_cg hR (by rw [h24.2.2 10 (by decide) (by decide), xst_nq (by decide), xst_nq (by decide), xst_nq (by decide)]) (by rw [h24.2.1 203 (by decide), xst_row (by decide), xst_row (by decide), xst_row (by decide)]))⟩⟩
    · skip
      refine x_aload_n G 0 rfl rfl dX7_told_32 ?_
      refine x_get G (xI (M24 195 14)) xf7_14 lk_X7_231 (ly_n hY 195 (by decide)) (ly_k hY 195 (by decide)) (Or.inl ⟨rfl, rfl⟩) dX7_told_33 ?_
      refine x_goto G 43 (by decide) dX7_told_36 ?_
      exact x_iret G Rt dX7_told_43 ⟨rfl, rfl, _, rfl, ⟨(by unfold qTold kthI; rw [if_neg (by omega)]; rw [if_pos (by omega)]; exact h24.1.2.1), ⟨fun q hq => by by_cases e : q = 195; (subst e; omega); (rw [h24.2.1 q e, xst_row e, xst_row e, xst_row e]), by rw [h24.2.2 2 (by decide) (by decide), xst_nq (by decide), xst_nq (by decide), xst_nq (by decide)], by rw [h24.2.2 18 (by decide) (by decide), xst_nq (by decide), xst_nq (by decide), xst_nq (by decide)]⟩, (rk_cg hR (by rw [h24.2.2 10 (by decide) (by decide), xst_nq (by decide), xst_nq (by decide), xst_nq (by decide)]) (by rw [h24.2.1 203 (by decide), xst_row (by decide), xst_row (by decide), xst_row (by decide)]))⟩⟩
  · skip
    refine x_iconst G (by decide) dX7_told_5 ?_
    exact x_iret G Rt dX7_told_6 ⟨rfl, rfl, _, rfl, ⟨(by unfold qTold; rw [if_pos (by omega)]), mfr_refl _, hR⟩⟩
