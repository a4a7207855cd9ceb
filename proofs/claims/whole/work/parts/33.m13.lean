set_option maxRecDepth 100000 in
set_option maxHeartbeats 4000000 in
theorem kJ0_coder_7d493 (D : xD) (l : Launch) {n : Nat} {T : xT} {M : xM} (si : Nat) (bs : List Int) (hi : strI si bs) : xC D l uJ0_coder_7d493 0 0 0 0 [xR (1000000 + si)] n T M (xPp n T M (0)) := by
  refine x_met uJ0_coder_7d493 (by decide) (Nat.le_of_ble_eq_true rfl) ?_
  intro Γ G Rt _
  have G : xG Γ RJ0 cJ0_coder_7d493 1 0 0 0 0 := G
  have Rt : xRt Γ (xPp n T M (0)) (some .byte) 0 0 := Rt
  show xX Γ 0 0 n T 0 [(0, xR (1000000 + si))] [] M
  refine x_strcs G dJ0_coder_7d493_0 ?_
  refine x_if_eq G 13 (by decide) dJ0_coder_7d493_3 (fun c3 => absurd c3 (by decide)) (fun _ => ?_)
  refine x_aload_n G 0 rfl rfl dJ0_coder_7d493_6 ?_
  refine x_strcod G hi dJ0_coder_7d493_7 ?_
  refine x_goto G 14 (by decide) dJ0_coder_7d493_10 ?_
  exact x_nret G (rfl) Rt dJ0_coder_7d493_14 ⟨rfl, rfl, congrArg (fun z => some (xI z)) (rfl), rfl⟩
set_option maxRecDepth 100000 in
set_option maxHeartbeats 4000000 in
theorem kJ0_isLatin1_aae02 (D : xD) (l : Launch) {n : Nat} {T : xT} {M : xM} (si : Nat) (bs : List Int) (hi : strI si bs) : xC D l uJ0_isLatin1_aae02 0 0 0 0 [xR (1000000 + si)] n T M (xPp n T M (1)) := by
  refine x_met uJ0_isLatin1_aae02 (by decide) (Nat.le_of_ble_eq_true rfl) ?_
  intro Γ G Rt _
  have G : xG Γ RJ0 cJ0_isLatin1_aae02 1 0 0 0 0 := G
  have Rt : xRt Γ (xPp n T M (1)) (some .boolean) 0 0 := Rt
  show xX Γ 0 0 n T 0 [(0, xR (1000000 + si))] [] M
  refine x_strcs G dJ0_isLatin1_aae02_0 ?_
  refine x_if_eq G 17 (by decide) dJ0_isLatin1_aae02_3 (fun c3 => absurd c3 (by decide)) (fun _ => ?_)
  refine x_aload_n G 0 rfl rfl dJ0_isLatin1_aae02_6 ?_
  refine x_strcod G hi dJ0_isLatin1_aae02_7 ?_
  refine x_if_ne G 17 (by decide) dJ0_isLatin1_aae02_10 (fun c10 => absurd c10 (by decide)) (fun _ => ?_)
  refine x_iconst G (by decide) dJ0_isLatin1_aae02_13 ?_
  refine x_goto G 18 (by decide) dJ0_isLatin1_aae02_14 ?_
  exact x_zret G (by omega) Rt dJ0_isLatin1_aae02_18 ⟨rfl, rfl, congrArg (fun z => some (xI z)) (rfl), rfl⟩
set_option maxRecDepth 100000 in
set_option maxHeartbeats 4000000 in
theorem kJ0_length_8abf5 (D : xD) (l : Launch) {n : Nat} {T : xT} {M : xM} (si : Nat) (bs : List Int) (hi : strI si bs) : xC D l uJ0_length_8abf5 1 20 0 0 [xR (1000000 + si)] n T M (xPp n T M ((bs.length : Int))) := by
  refine x_met uJ0_length_8abf5 (by decide) (Nat.le_of_ble_eq_true rfl) ?_
  intro Γ G Rt _
  have G : xG Γ RJ0 cJ0_length_8abf5 1 1 20 0 0 := G
  have Rt : xRt Γ (xPp n T M ((bs.length : Int))) (some .int) 0 0 := Rt
  show xX Γ 0 0 n T 0 [(0, xR (1000000 + si))] [] M
  have hb := str_b hi
  refine x_aload_n G 0 rfl rfl dJ0_length_8abf5_0 ?_
  refine x_strget G hi dJ0_length_8abf5_1 ?_
  refine x_stralen G hi dJ0_length_8abf5_4 ?_
  refine x_aload_n G 0 rfl rfl dJ0_length_8abf5_5 ?_
  refine x_callStr G [xI (bs.length : Int)] [] hi rfl hy_J0_coder_7d493 hi_J0_coder_7d493 hs_J0_coder_7d493 ml_J0_335 rfl rfl (kJ0_coder_7d493 _ _ si bs hi) (by decide) (by decide) (Nat.le_of_ble_eq_true rfl) dJ0_length_8abf5_6 ?_
  refine x_ishr G (bs.length : Int) (by have := x_shr' (x := (bs.length : Int)) (k := 0) (by omega) ⟨by omega, by omega⟩ (by decide) (by decide); rw [show (2 : Int) ^ (0 : Int).toNat = 1 from rfl, Int.ediv_one] at this; exact this) (by omega) dJ0_length_8abf5_9 ?_
  exact x_iret G Rt dJ0_length_8abf5_10 ⟨rfl, rfl, congrArg (fun z => some (xI z)) (rfl), rfl⟩
set_option maxRecDepth 100000 in
set_option maxHeartbeats 4000000 in
theorem kJ0_checkIndex_df160 (D : xD) (l : Launch) {n : Nat} {T : xT} {M : xM} (i len : Int) (h0 : 0 ≤ i) (h1 : i < len) : xC D l uJ0_checkIndex_df160 1 22 0 0 [xI i, xI len] n T M (xPV n T (fun M2 => M2 = M)) := by
  refine x_met uJ0_checkIndex_df160 (by decide) (Nat.le_of_ble_eq_true rfl) ?_
  intro Γ G Rt _
  have G : xG Γ RJ0 cJ0_checkIndex_df160 2 1 22 0 0 := G
  have Rt : xRt Γ (xPV n T (fun M2 => M2 = M)) none 0 0 := Rt
  show xX Γ 0 0 n T 0 [(0, xI i), (1, xI len)] [] M
  refine x_iload_n G 0 rfl rfl dJ0_checkIndex_df160_0 ?_
  refine x_iload_n G 1 rfl rfl dJ0_checkIndex_df160_1 ?_
  refine x_ckix G (by omega) (by omega) (by decide) (by decide) dJ0_checkIndex_df160_2 dJ0_checkIndex_df160_5 dJ0_checkIndex_df160_8 ?_
  exact x_vret G Rt dJ0_checkIndex_df160_9 ⟨rfl, rfl, rfl, rfl⟩
theorem x_chr_n : ∀ n, n < 256 → narrow .char (.int (nI n)) = .int (nI n) := by decide +kernel
theorem x_chr {z : Int} (h0 : 0 ≤ z) (h : z < 256) : narrow .char (.int (Int32.ofInt z)) = .int (Int32.ofInt z) := by
  obtain ⟨n, rfl⟩ := Int.eq_ofNat_of_zero_le h0
  exact x_chr_n n (by omega)
theorem x_i2c_n : ∀ n, n < 256 → ((nI n).toUInt32 % 65536).toInt32 = nI n := by decide +kernel
theorem x_i2c' {z : Int} (h0 : 0 ≤ z) (h : z < 256) : ((Int32.ofInt z).toUInt32 % 65536).toInt32 = Int32.ofInt z := by
  obtain ⟨n, rfl⟩ := Int.eq_ofNat_of_zero_le h0
  exact x_i2c_n n (by omega)
set_option maxRecDepth 100000 in
set_option maxHeartbeats 4000000 in
theorem kJ1_charAt_3b067 (D : xD) (l : Launch) {n : Nat} {T : xT} {M : xM} (si : Nat) (bs : List Int) (k : Int) (hi : strI si bs) (h0 : 0 ≤ k) (h1 : k < bs.length) : xC D l uJ1_charAt_3b067 2 43 0 0 [xR (2000000 + si), xI k] n T M (xPp n T M (bs.getD k.toNat 0)) := by
  refine x_met uJ1_charAt_3b067 (by decide) (Nat.le_of_ble_eq_true rfl) ?_
  intro Γ G Rt _
  have G : xG Γ RJ1 cJ1_charAt_3b067 2 2 43 0 0 := G
  have Rt : xRt Γ (xPp n T M (bs.getD k.toNat 0)) (some .char) 0 0 := Rt
  show xX Γ 0 0 n T 0 [(0, xR (2000000 + si)), (1, xI k)] [] M
  have hb := str_b hi
  have hk := hb.2 k.toNat (by omega)
  refine x_iload_n G 1 rfl rfl dJ1_charAt_3b067_0 ?_
  refine x_aload_n G 0 rfl rfl dJ1_charAt_3b067_1 ?_
  refine x_stralen G hi dJ1_charAt_3b067_2 ?_
  refine x_callSV G [] [xI k, xI (bs.length : Int)] hy_J0_checkIndex_df160 ht_J0_checkIndex_df160 ml_J1_9 rfl rfl (kJ0_checkIndex_df160 _ _ k (bs.length : Int) (by omega) (by omega)) (by decide) (by decide) (Nat.le_of_ble_eq_true rfl) dJ1_charAt_3b067_3 (fun M3 h3 => ?_)
  obtain rfl := h3
  refine x_aload_n G 0 rfl rfl dJ1_charAt_3b067_6 ?_
  refine x_iload_n G 1 rfl rfl dJ1_charAt_3b067_7 ?_
  refine x_strbald G hi (by omega) (by omega) dJ1_charAt_3b067_8 ?_
  refine x_sipush G (by decide) dJ1_charAt_3b067_9 ?_
  refine x_iand G (bs.getD k.toNat 0) (by have := x_and' (x := (bs.getD k.toNat 0)) (m := 255) 8 (by decide) (by omega); rw [Int.emod_eq_of_lt (by omega) (by omega)] at this; exact this) (by omega) dJ1_charAt_3b067_12 ?_
  refine x_i2c G (bs.getD k.toNat 0) (x_i2c' (by omega) (by omega)) (by omega) dJ1_charAt_3b067_13 ?_
  exact x_nret G (x_chr (by omega) (by omega)) Rt dJ1_charAt_3b067_14 ⟨rfl, rfl, congrArg (fun z => some (xI z)) (rfl), rfl⟩
set_option maxRecDepth 100000 in
set_option maxHeartbeats 4000000 in
theorem kJ0_charAt_5068e (D : xD) (l : Launch) {n : Nat} {T : xT} {M : xM} (si : Nat) (bs : List Int) (k : Int) (hi : strI si bs) (h0 : 0 ≤ k) (h1 : k < bs.length) : xC D l uJ0_charAt_5068e 3 64 0 0 [xR (1000000 + si), xI k] n T M (xPp n T M (bs.getD k.toNat 0)) := by
  refine x_met uJ0_charAt_5068e (by decide) (Nat.le_of_ble_eq_true rfl) ?_
  intro Γ G Rt _
  have G : xG Γ RJ0 cJ0_charAt_5068e 2 3 64 0 0 := G
  have Rt : xRt Γ (xPp n T M (bs.getD k.toNat 0)) (some .char) 0 0 := Rt
  show xX Γ 0 0 n T 0 [(0, xR (1000000 + si)), (1, xI k)] [] M
  have hb := str_b hi
  have hk := hb.2 k.toNat (by omega)
  refine x_aload_n G 0 rfl rfl dJ0_charAt_5068e_0 ?_
  refine x_callStr G [] [] hi rfl hy_J0_isLatin1_aae02 hi_J0_isLatin1_aae02 hs_J0_isLatin1_aae02 ml_J0_492 rfl rfl (kJ0_isLatin1_aae02 _ _ si bs hi) (by decide) (by decide) (Nat.le_of_ble_eq_true rfl) dJ0_charAt_5068e_1 ?_
  refine x_if_eq G 16 (by decide) dJ0_charAt_5068e_4 (fun c4 => absurd c4 (by decide)) (fun _ => ?_)
  refine x_aload_n G 0 rfl rfl dJ0_charAt_5068e_7 ?_
  refine x_strget G hi dJ0_charAt_5068e_8 ?_
  refine x_iload_n G 1 rfl rfl dJ0_charAt_5068e_11 ?_
  refine x_callSp G [] [xR (2000000 + si), xI k] hy_J1_charAt_3b067 ht_J1_charAt_3b067 ml_J0_495 rfl rfl (kJ1_charAt_3b067 _ _ si bs k hi (by omega) (by omega)) (by decide) (by decide) (Nat.le_of_ble_eq_true rfl) dJ0_charAt_5068e_12 ?_
  exact x_nret G (x_chr (by omega) (by omega)) Rt dJ0_charAt_5068e_15 ⟨rfl, rfl, congrArg (fun z => some (xI z)) (rfl), rfl⟩
