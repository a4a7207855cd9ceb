/-! the reference's tape -/
def sgb (b : Int) : Int := if b < 128 then b else b - 256
abbrev TMm (M : xM) (bt : Int → Int) (len : Int) : Prop := M 195 18 = len ∧ ∀ k : Nat, (k : Int) < len → M 207 k = sgb (bt k)
theorem tmm_cg {M M2 : xM} {bt : Int → Int} {len : Int} (h : TMm M bt len) (e1 : M2 195 18 = M 195 18) (e2 : M2 207 = M 207) : TMm M2 bt len := by
  unfold TMm; rw [e1, e2]; exact h
theorem sgb_b {b : Int} (h : 0 ≤ b ∧ b ≤ 255) : -128 ≤ sgb b ∧ sgb b < 128 ∧ sgb b % 256 = b := by
  unfold sgb
  split <;> omega
theorem x_i2b' (x : Int) : (Int32.ofInt x).toInt8.toInt32 = Int32.ofInt (sgb (x % 256)) := by
  have hb := sgb_b (b := x % 256) (by omega)
  apply Int32.toInt_inj.mp
  rw [Int8.toInt_toInt32, Int32.toInt8_ofInt, Int8.toInt_ofInt, x_toInt ⟨by omega, by omega⟩]
  show Int.bmod x 256 = _
  rw [Int.bmod_def]
  unfold sgb
  have e : ((((256 : Nat) : Int) + 1) / 2) = 128 := by decide
  rw [e]
  show (if x % 256 < 128 then x % 256 else x % 256 - 256) = _
  rfl
set_option maxRecDepth 100000 in
set_option maxHeartbeats 4000000 in
theorem kX7_laysFour (D : xD) (l : Launch) {n : Nat} {T : xT} {M : xM} (bt : Int → Int) (len : Int) (v : Int) (hY : LayOK n T) (hT : TB bt len) (hM : TMm M bt len) (hl : len + 4 ≤ 400) : xC D l uX7_laysFour 0 0 0 0 [xR 195, xI v] n T M (xPV n T (fun M2 => TMm M2 (apb bt len v) (len + 4) ∧ (∀ q, q ≠ 195 → q ≠ 207 → M2 q = M q) ∧ ∀ j, j ≠ 18 → M2 195 j = M 195 j)) := by
  refine x_met uX7_laysFour (by decide) (Nat.le_of_ble_eq_true rfl) ?_
  intro Γ G Rt _
  have G : xG Γ RX7 cX7_laysFour 3 0 0 0 0 := G
  have Rt : xRt Γ (xPV n T (fun M2 => TMm M2 (apb bt len v) (len + 4) ∧ (∀ q, q ≠ 195 → q ≠ 207 → M2 q = M q) ∧ ∀ j, j ≠ 18 → M2 195 j = M 195 j)) none 0 0 := Rt
  show xX Γ 0 0 n T 0 [(0, xR 195), (1, xI v)] [] M
  have hlb := hT.1
  have hMl := hM.1
  refine x_know 1 rfl (fun hvi => ?_)
  have hvi : i32 v := hvi
  refine x_bipush G (by decide) dX7_laysFour_0 ?_
  refine x_istore_n G [(2, xI 24), (0, xR 195), (1, xI v)] rfl (by decide) rfl dX7_laysFour_2 ?_
  refine x_iload_n G 0 rfl rfl dX7_laysFour_3 ?_
  refine x_if_lt G 36 (by decide) dX7_laysFour_4 (fun c4 => absurd c4 (by decide)) (fun _ => ?_)
  refine x_aload_n G 1 rfl rfl dX7_laysFour_7 ?_
  refine x_get G (xR 207) xf7_17 lk_X7_44 (ly_n hY 195 (by decide)) (ly_k hY 195 (by decide)) (Or.inr ⟨rfl, _, (ly_r hY 195 17 (by decide) (by decide)), rfl⟩) dX7_laysFour_8 ?_
  refine x_aload_n G 1 rfl rfl dX7_laysFour_11 ?_
  refine x_get G (xI (M 195 18)) xf7_18 lk_X7_282 (ly_n hY 195 (by decide)) (ly_k hY 195 (by decide)) (Or.inl ⟨rfl, rfl⟩) dX7_laysFour_12 ?_
  refine x_iload_n G 2 rfl rfl dX7_laysFour_15 ?_
  refine x_iload_n G 0 rfl rfl dX7_laysFour_16 ?_
  refine x_ishr G (v / 16777216) (by have := x_sar (x := v) (k := 24) hvi (by decide) (by decide); exact this) (by omega) dX7_laysFour_17 ?_
  refine x_i2b G (sgb ((v / 16777216) % 256)) (x_i2b' _) (by have hb := sgb_b (b := (v / 16777216) % 256) (by omega); exact ⟨by omega, by omega⟩) dX7_laysFour_18 ?_
  have hsb24 := sgb_b (b := ((v / 16777216) % 256)) (by omega)
  refine x_bast G (by omega) (ly_n hY 207 (by decide)) (ly_k hY 207 (by decide)) (show _ = 400 from ly_l hY 207 (by decide)) (by omega) (by omega) dX7_laysFour_19 ?_
  refine x_aload_n G 1 rfl rfl dX7_laysFour_20 ?_
  refine x_dup G rfl dX7_laysFour_21 ?_
  refine x_get G (xI ((xst M 207 (M 195 18).toNat (sgb ((v / 16777216) % 256))) 195 18)) xf7_18 lk_X7_282 (ly_n hY 195 (by decide)) (ly_k hY 195 (by decide)) (Or.inl ⟨rfl, rfl⟩) dX7_laysFour_22 ?_
  rw [show (xst M 207 (M 195 18).toNat (sgb ((v / 16777216) % 256))) 195 18 = (M 195 18) from (xst_nq (by omega))]
  refine x_iconst G (by decide) dX7_laysFour_25 ?_
  refine x_iadd G (by omega) dX7_laysFour_26 ?_
  refine x_put G  xf7_18 lk_X7_282 (ly_n hY 195 (by decide)) (ly_k hY 195 (by decide)) rfl dX7_laysFour_27 ?_
  refine x_iinc G [(2, xI 16), (0, xR 195), (1, xI v)] 0 rfl (by decide) (by omega) rfl dX7_laysFour_30 ?_
  refine x_goto G 3 (by decide) dX7_laysFour_33 ?_
  refine x_iload_n G 0 rfl rfl dX7_laysFour_3 ?_
  refine x_if_lt G 36 (by decide) dX7_laysFour_4 (fun c4 => absurd c4 (by decide)) (fun _ => ?_)
  refine x_aload_n G 1 rfl rfl dX7_laysFour_7 ?_
  refine x_get G (xR 207) xf7_17 lk_X7_44 (ly_n hY 195 (by decide)) (ly_k hY 195 (by decide)) (Or.inr ⟨rfl, _, (ly_r hY 195 17 (by decide) (by decide)), rfl⟩) dX7_laysFour_8 ?_
  refine x_aload_n G 1 rfl rfl dX7_laysFour_11 ?_
  refine x_get G (xI ((xst (xst M 207 (M 195 18).toNat (sgb ((v / 16777216) % 256))) 195 18 ((M 195 18) + 1)) 195 18)) xf7_18 lk_X7_282 (ly_n hY 195 (by decide)) (ly_k hY 195 (by decide)) (Or.inl ⟨rfl, rfl⟩) dX7_laysFour_12 ?_
  rw [show (xst (xst M 207 (M 195 18).toNat (sgb ((v / 16777216) % 256))) 195 18 ((M 195 18) + 1)) 195 18 = ((M 195 18) + 1) from (xst_same ..)]
  refine x_iload_n G 2 rfl rfl dX7_laysFour_15 ?_
  refine x_iload_n G 0 rfl rfl dX7_laysFour_16 ?_
  refine x_ishr G (v / 65536) (by have := x_sar (x := v) (k := 16) hvi (by decide) (by decide); exact this) (by omega) dX7_laysFour_17 ?_
  refine x_i2b G (sgb ((v / 65536) % 256)) (x_i2b' _) (by have hb := sgb_b (b := (v / 65536) % 256) (by omega); exact ⟨by omega, by omega⟩) dX7_laysFour_18 ?_
  have hsb16 := sgb_b (b := ((v / 65536) % 256)) (by omega)
  refine x_bast G (by omega) (ly_n hY 207 (by decide)) (ly_k hY 207 (by decide)) (show _ = 400 from ly_l hY 207 (by decide)) (by omega) (by omega) dX7_laysFour_19 ?_
  refine x_aload_n G 1 rfl rfl dX7_laysFour_20 ?_
  refine x_dup G rfl dX7_laysFour_21 ?_
  refine x_get G (xI ((xst (xst (xst M 207 (M 195 18).toNat (sgb ((v / 16777216) % 256))) 195 18 ((M 195 18) + 1)) 207 ((M 195 18) + 1).toNat (sgb ((v / 65536) % 256))) 195 18)) xf7_18 lk_X7_282 (ly_n hY 195 (by decide)) (ly_k hY 195 (by decide)) (Or.inl ⟨rfl, rfl⟩) dX7_laysFour_22 ?_
  rw [show (xst (xst (xst M 207 (M 195 18).toNat (sgb ((v / 16777216) % 256))) 195 18 ((M 195 18) + 1)) 207 ((M 195 18) + 1).toNat (sgb ((v / 65536) % 256))) 195 18 = ((M 195 18) + 1) from ((xst_nq (by omega)).trans (xst_same ..))]
  refine x_iconst G (by decide) dX7_laysFour_25 ?_
  refine x_iadd G (by omega) dX7_laysFour_26 ?_
  refine x_put G  xf7_18 lk_X7_282 (ly_n hY 195 (by decide)) (ly_k hY 195 (by decide)) rfl dX7_laysFour_27 ?_
  refine x_iinc G [(2, xI 8), (0, xR 195), (1, xI v)] 0 rfl (by decide) (by omega) rfl dX7_laysFour_30 ?_
  refine x_goto G 3 (by decide) dX7_laysFour_33 ?_
  refine x_iload_n G 0 rfl rfl dX7_laysFour_3 ?_
  refine x_if_lt G 36 (by decide) dX7_laysFour_4 (fun c4 => absurd c4 (by decide)) (fun _ => ?_)
  refine x_aload_n G 1 rfl rfl dX7_laysFour_7 ?_
  refine x_get G (xR 207) xf7_17 lk_X7_44 (ly_n hY 195 (by decide)) (ly_k hY 195 (by decide)) (Or.inr ⟨rfl, _, (ly_r hY 195 17 (by decide) (by decide)), rfl⟩) dX7_laysFour_8 ?_
  refine x_aload_n G 1 rfl rfl dX7_laysFour_11 ?_
  refine x_get G (xI ((xst (xst (xst (xst M 207 (M 195 18).toNat (sgb ((v / 16777216) % 256))) 195 18 ((M 195 18) + 1)) 207 ((M 195 18) + 1).toNat (sgb ((v / 65536) % 256))) 195 18 (((M 195 18) + 1) + 1)) 195 18)) xf7_18 lk_X7_282 (ly_n hY 195 (by decide)) (ly_k hY 195 (by decide)) (Or.inl ⟨rfl, rfl⟩) dX7_laysFour_12 ?_
  rw [show (xst (xst (xst (xst M 207 (M 195 18).toNat (sgb ((v / 16777216) % 256))) 195 18 ((M 195 18) + 1)) 207 ((M 195 18) + 1).toNat (sgb ((v / 65536) % 256))) 195 18 (((M 195 18) + 1) + 1)) 195 18 = (((M 195 18) + 1) + 1) from (xst_same ..)]
  refine x_iload_n G 2 rfl rfl dX7_laysFour_15 ?_
  refine x_iload_n G 0 rfl rfl dX7_laysFour_16 ?_
  refine x_ishr G (v / 256) (by have := x_sar (x := v) (k := 8) hvi (by decide) (by decide); exact this) (by omega) dX7_laysFour_17 ?_
  refine x_i2b G (sgb ((v / 256) % 256)) (x_i2b' _) (by have hb := sgb_b (b := (v / 256) % 256) (by omega); exact ⟨by omega, by omega⟩) dX7_laysFour_18 ?_
  have hsb8 := sgb_b (b := ((v / 256) % 256)) (by omega)
  refine x_bast G (by omega) (ly_n hY 207 (by decide)) (ly_k hY 207 (by decide)) (show _ = 400 from ly_l hY 207 (by decide)) (by omega) (by omega) dX7_laysFour_19 ?_
  refine x_aload_n G 1 rfl rfl dX7_laysFour_20 ?_
  refine x_dup G rfl dX7_laysFour_21 ?_
  refine x_get G (xI ((xst (xst (xst (xst (xst M 207 (M 195 18).toNat (sgb ((v / 16777216) % 256))) 195 18 ((M 195 18) + 1)) 207 ((M 195 18) + 1).toNat (sgb ((v / 65536) % 256))) 195 18 (((M 195 18) + 1) + 1)) 207 (((M 195 18) + 1) + 1).toNat (sgb ((v / 256) % 256))) 195 18)) xf7_18 lk_X7_282 (ly_n hY 195 (by decide)) (ly_k hY 195 (by decide)) (Or.inl ⟨rfl, rfl⟩) dX7_laysFour_22 ?_
  rw [show (xst (xst (xst (xst (xst M 207 (M 195 18).toNat (sgb ((v / 16777216) % 256))) 195 18 ((M 195 18) + 1)) 207 ((M 195 18) + 1).toNat (sgb ((v / 65536) % 256))) 195 18 (((M 195 18) + 1) + 1)) 207 (((M 195 18) + 1) + 1).toNat (sgb ((v / 256) % 256))) 195 18 = (((M 195 18) + 1) + 1) from ((xst_nq (by omega)).trans (xst_same ..))]
  refine x_iconst G (by decide) dX7_laysFour_25 ?_
  refine x_iadd G (by omega) dX7_laysFour_26 ?_
  refine x_put G  xf7_18 lk_X7_282 (ly_n hY 195 (by decide)) (ly_k hY 195 (by decide)) rfl dX7_laysFour_27 ?_
  refine x_iinc G [(2, xI 0), (0, xR 195), (1, xI v)] 0 rfl (by decide) (by omega) rfl dX7_laysFour_30 ?_
  refine x_goto G 3 (by decide) dX7_laysFour_33 ?_
  refine x_iload_n G 0 rfl rfl dX7_laysFour_3 ?_
  refine x_if_lt G 36 (by decide) dX7_laysFour_4 (fun c4 => absurd c4 (by decide)) (fun _ => ?_)
  refine x_aload_n G 1 rfl rfl dX7_laysFour_7 ?_
  refine x_get G (xR 207) xf7_17 lk_X7_44 (ly_n hY 195 (by decide)) (ly_k hY 195 (by decide)) (Or.inr ⟨rfl, _, (ly_r hY 195 17 (by decide) (by decide)), rfl⟩) dX7_laysFour_8 ?_
  refine x_aload_n G 1 rfl rfl dX7_laysFour_11 ?_
  refine x_get G (xI ((xst (xst (xst (xst (xst (xst M 207 (M 195 18).toNat (sgb ((v / 16777216) % 256))) 195 18 ((M 195 18) + 1)) 207 ((M 195 18) + 1).toNat (sgb ((v / 65536) % 256))) 195 18 (((M 195 18) + 1) + 1)) 207 (((M 195 18) + 1) + 1).toNat (sgb ((v / 256) % 256))) 195 18 ((((M 195 18) + 1) + 1) + 1)) 195 18)) xf7_18 lk_X7_282 (ly_n hY 195 (by decide)) (ly_k hY 195 (by decide)) (Or.inl ⟨rfl, rfl⟩) dX7_laysFour_12 ?_
  rw [show (xst (xst (xst (xst (xst (xst M 207 (M 195 18).toNat (sgb ((v / 16777216) % 256))) 195 18 ((M 195 18) + 1)) 207 ((M 195 18) + 1).toNat (sgb ((v / 65536) % 256))) 195 18 (((M 195 18) + 1) + 1)) 207 (((M 195 18) + 1) + 1).toNat (sgb ((v / 256) % 256))) 195 18 ((((M 195 18) + 1) + 1) + 1)) 195 18 = ((((M 195 18) + 1) + 1) + 1) from (xst_same ..)]
  refine x_iload_n G 2 rfl rfl dX7_laysFour_15 ?_
  refine x_iload_n G 0 rfl rfl dX7_laysFour_16 ?_
  refine x_ishr G (v / 1) (by have := x_sar (x := v) (k := 0) hvi (by decide) (by decide); exact this) (by omega) dX7_laysFour_17 ?_
  refine x_i2b G (sgb ((v / 1) % 256)) (x_i2b' _) (by have hb := sgb_b (b := (v / 1) % 256) (by omega); exact ⟨by omega, by omega⟩) dX7_laysFour_18 ?_
  have hsb0 := sgb_b (b := ((v / 1) % 256)) (by omega)
  refine x_bast G (by omega) (ly_n hY 207 (by decide)) (ly_k hY 207 (by decide)) (show _ = 400 from ly_l hY 207 (by decide)) (by omega) (by omega) dX7_laysFour_19 ?_
  refine x_aload_n G 1 rfl rfl dX7_laysFour_20 ?_
  refine x_dup G rfl dX7_laysFour_21 ?_
  refine x_get G (xI ((xst (xst (xst (xst (xst (xst (xst M 207 (M 195 18).toNat (sgb ((v / 16777216) % 256))) 195 18 ((M 195 18) + 1)) 207 ((M 195 18) + 1).toNat (sgb ((v / 65536) % 256))) 195 18 (((M 195 18) + 1) + 1)) 207 (((M 195 18) + 1) + 1).toNat (sgb ((v / 256) % 256))) 195 18 ((((M 195 18) + 1) + 1) + 1)) 207 ((((M 195 18) + 1) + 1) + 1).toNat (sgb ((v / 1) % 256))) 195 18)) xf7_18 lk_X7_282 (ly_n hY 195 (by decide)) (ly_k hY 195 (by decide)) (Or.inl ⟨rfl, rfl⟩) dX7_laysFour_22 ?_
  rw [show (xst (xst (xst (xst (xst (xst (xst M 207 (M 195 18).toNat (sgb ((v / 16777216) % 256))) 195 18 ((M 195 18) + 1)) 207 ((M 195 18) + 1).toNat (sgb ((v / 65536) % 256))) 195 18 (((M 195 18) + 1) + 1)) 207 (((M 195 18) + 1) + 1).toNat (sgb ((v / 256) % 256))) 195 18 ((((M 195 18) + 1) + 1) + 1)) 207 ((((M 195 18) + 1) + 1) + 1).toNat (sgb ((v / 1) % 256))) 195 18 = ((((M 195 18) + 1) + 1) + 1) from ((xst_nq (by omega)).trans (xst_same ..))]
  refine x_iconst G (by decide) dX7_laysFour_25 ?_
  refine x_iadd G (by omega) dX7_laysFour_26 ?_
  refine x_put G  xf7_18 lk_X7_282 (ly_n hY 195 (by decide)) (ly_k hY 195 (by decide)) rfl dX7_laysFour_27 ?_
  refine x_iinc G [(2, xI (-8)), (0, xR 195), (1, xI v)] 0 rfl (by decide) (by omega) rfl dX7_laysFour_30 ?_
  refine x_goto G 3 (by decide) dX7_laysFour_33 ?_
  refine x_iload_n G 0 rfl rfl dX7_laysFour_3 ?_
  refine x_if_lt G 36 (by decide) dX7_laysFour_4 (fun _ => ?_) (fun c4 => absurd c4 (by decide))
  exact x_vret G Rt dX7_laysFour_36 ⟨rfl, rfl, rfl, by
        refine ⟨⟨by simp [xst_eq]; omega, fun k hk => ?_⟩, fun q h1 h2 => by simp (disch := omega) only [xst_row], fun j h1 => by simp (disch := omega) only [xst_nq]⟩
        have hkc : (k : Int) = len + 3 ∨ (k : Int) = len + 2 ∨ (k : Int) = len + 1 ∨ (k : Int) = len ∨ (k : Int) < len := by omega
        rcases hkc with g | g | g | g | g
        · rw [show k = ((((M 195 18) + 1) + 1) + 1).toNat by omega, xst_nq (by omega), xst_same]
          congr 1
          unfold apb
          rw [if_neg (by omega), if_neg (by omega), if_neg (by omega), if_pos (by omega)]
        · rw [show k = (((M 195 18) + 1) + 1).toNat by omega, xst_nq (by omega), xst_nq (by omega), xst_nq (by omega), xst_same]
          congr 1
          unfold apb
          rw [if_neg (by omega), if_neg (by omega), if_pos (by omega)]
        · rw [show k = ((M 195 18) + 1).toNat by omega, xst_nq (by omega), xst_nq (by omega), xst_nq (by omega), xst_nq (by omega), xst_nq (by omega), xst_same]
          congr 1
          unfold apb
          rw [if_neg (by omega), if_pos (by omega)]
        · rw [show k = (M 195 18).toNat by omega, xst_nq (by omega), xst_nq (by omega), xst_nq (by omega), xst_nq (by omega), xst_nq (by omega), xst_nq (by omega), xst_nq (by omega), xst_same]
          congr 1
          unfold apb
          rw [if_pos (by omega)]
        · rw [xst_nq (by omega), xst_nq (by omega), xst_nq (by omega), xst_nq (by omega), xst_nq (by omega), xst_nq (by omega), xst_nq (by omega), xst_nq (by omega), hM.2 k g]
          congr 1
          unfold apb
          rw [if_neg (by omega), if_neg (by omega), if_neg (by omega), if_neg (by omega)]⟩
abbrev tpm (M M2 : xM) : Prop := (∀ q, q ≠ 195 → q ≠ 207 → M2 q = M q) ∧ ∀ j, j ≠ 18 → M2 195 j = M 195 j
theorem tpm_tr {M M1 M2 : xM} (h : tpm M M1) (h2 : tpm M1 M2) : tpm M M2 := ⟨fun q g1 g2 => (h2.1 q g1 g2).trans (h.1 q g1 g2), fun j g => (h2.2 j g).trans (h.2 j g)⟩
set_option maxRecDepth 100000 in
set_option maxHeartbeats 4000000 in
theorem kX7_feed (D : xD) (l : Launch) {n : Nat} {T : xT} {M : xM} (bt : Int → Int) (len : Int) (a b c d e : Int) (hY : LayOK n T) (hT : TB bt len) (hM : TMm M bt len) : xC D l uX7_feed 1 22 0 0 [xR 195, xI a, xI b, xI c, xI d, xI e] n T M (xPI n T (fun z M2 => (380 < len ∧ z = -1 ∧ M2 = M) ∨ (len ≤ 380 ∧ z = len + 20 ∧ TMm M2 (feedT bt len a b c d e) (len + 20) ∧ tpm M M2))) := by
  refine x_met uX7_feed (by decide) (Nat.le_of_ble_eq_true rfl) ?_
  intro Γ G Rt _
  have G : xG Γ RX7 cX7_feed 6 1 22 0 0 := G
  have Rt : xRt Γ (xPI n T (fun z M2 => (380 < len ∧ z = -1 ∧ M2 = M) ∨ (len ≤ 380 ∧ z = len + 20 ∧ TMm M2 (feedT bt len a b c d e) (len + 20) ∧ tpm M M2))) (some .int) 0 0 := Rt
  show xX Γ 0 0 n T 0 [(0, xR 195), (1, xI a), (2, xI b), (3, xI c), (4, xI d), (5, xI e)] [] M
  have hlb := hT.1
  have hMl := hM.1
  refine x_aload_n G 0 rfl rfl dX7_feed_0 ?_
  refine x_get G (xI (M 195 18)) xf7_18 lk_X7_282 (ly_n hY 195 (by decide)) (ly_k hY 195 (by decide)) (Or.inl ⟨rfl, rfl⟩) dX7_feed_1 ?_
  refine x_sipush G (by decide) dX7_feed_4 ?_
  refine x_icmp_le G 12 (by decide) dX7_feed_7 (fun c7 => ?_) (fun c7 => ?_)
  · skip
    refine x_aload_n G 0 rfl rfl dX7_feed_12 ?_
    refine x_iload_n G 1 rfl rfl dX7_feed_13 ?_
    refine x_callVV G [] [xI a] rfl (by decide) (ly_n hY 195 (by decide)) (ly_k hY 195 (by decide)) hy_X7_laysFour hi_X7_laysFour hs_X7_laysFour ml_X7_285 rfl rfl (kX7_laysFour _ _ bt len a hY hT hM (by omega)) (by decide) (by decide) (Nat.le_of_ble_eq_true rfl) dX7_feed_14 (fun M14 h14 => ?_)
    have hl14 := h14.1.1
    refine x_aload_n G 0 rfl rfl dX7_feed_17 ?_
    refine x_iload_n G 2 rfl rfl dX7_feed_18 ?_
    refine x_callVV G [] [xI b] rfl (by decide) (ly_n hY 195 (by decide)) (ly_k hY 195 (by decide)) hy_X7_laysFour hi_X7_laysFour hs_X7_laysFour ml_X7_285 rfl rfl (kX7_laysFour _ _ (apb bt len a) (len + 4) b hY (apb_ok hT (by omega)) h14.1 (by omega)) (by decide) (by decide) (Nat.le_of_ble_eq_true rfl) dX7_feed_19 (fun M19 h19 => ?_)
    have hl19 := h19.1.1
    refine x_aload_n G 0 rfl rfl dX7_feed_22 ?_
    refine x_iload_n G 3 rfl rfl dX7_feed_23 ?_
    refine x_callVV G [] [xI c] rfl (by decide) (ly_n hY 195 (by decide)) (ly_k hY 195 (by decide)) hy_X7_laysFour hi_X7_laysFour hs_X7_laysFour ml_X7_285 rfl rfl (kX7_laysFour _ _ (apb (apb bt len a) (len + 4) b) ((len + 4) + 4) c hY (apb_ok (apb_ok hT (by omega)) (by omega)) h19.1 (by omega)) (by decide) (by decide) (Nat.le_of_ble_eq_true rfl) dX7_feed_24 (fun M24 h24 => ?_)
    have hl24 := h24.1.1
    refine x_aload_n G 0 rfl rfl dX7_feed_27 ?_
    refine x_iload G 4 rfl dX7_feed_28 ?_
    refine x_callVV G [] [xI d] rfl (by decide) (ly_n hY 195 (by decide)) (ly_k hY 195 (by decide)) hy_X7_laysFour hi_X7_laysFour hs_X7_laysFour ml_X7_285 rfl rfl (kX7_laysFour _ _ (apb (apb (apb bt len a) (len + 4) b) ((len + 4) + 4) c) (((len + 4) + 4) + 4) d hY (apb_ok (apb_ok (apb_ok hT (by omega)) (by omega)) (by omega)) h24.1 (by omega)) (by decide) (by decide) (Nat.le_of_ble_eq_true rfl) dX7_feed_30 (fun M30 h30 => ?_)
    have hl30 := h30.1.1
    refine x_aload_n G 0 rfl rfl dX7_feed_33 ?_
    refine x_iload G 5 rfl dX7_feed_34 ?_
    refine x_callVV G [] [xI e] rfl (by decide) (ly_n hY 195 (by decide)) (ly_k hY 195 (by decide)) hy_X7_laysFour hi_X7_laysFour hs_X7_laysFour ml_X7_285 rfl rfl (kX7_laysFour _ _ (apb (apb (apb (apb bt len a) (len + 4) b) ((len + 4) + 4) c) (((len + 4) + 4) + 4) d) ((((len + 4) + 4) + 4) + 4) e hY (apb_ok (apb_ok (apb_ok (apb_ok hT (by omega)) (by omega)) (by omega)) (by omega)) h30.1 (by omega)) (by decide) (by decide) (Nat.le_of_ble_eq_true rfl) dX7_feed_36 (fun M36 h36 => ?_)
    have hl36 := h36.1.1
    refine x_aload_n G 0 rfl rfl dX7_feed_39 ?_
    refine x_get G (xI (M36 195 18)) xf7_18 lk_X7_282 (ly_n hY 195 (by decide)) (ly_k hY 195 (by decide)) (Or.inl ⟨rfl, rfl⟩) dX7_feed_40 ?_
    exact x_iret G Rt dX7_feed_43 ⟨rfl, rfl, _, rfl, Or.inr ⟨by omega, by omega, (by have h9 := h36.1; rw [show len + 4 + 4 + 4 + 4 + 4 = len + 20 by omega] at h9; exact h9), tpm_tr (tpm_tr (tpm_tr (tpm_tr h14.2 h19.2) h24.2) h30.2) h36.2⟩⟩
  · skip
    refine x_iconst G (by decide) dX7_feed_10 ?_
    exact x_iret G Rt dX7_feed_11 ⟨rfl, rfl, _, rfl, Or.inl ⟨by omega, rfl, rfl⟩⟩
set_option maxRecDepth 100000 in
set_option maxHeartbeats 4000000 in
theorem kX7_end (D : xD) (l : Launch) {n : Nat} {T : xT} {M : xM} (bt : Int → Int) (len : Int) (m : Int) (hY : LayOK n T) (hT : TB bt len) (hM : TMm M bt len) : xC D l uX7_end 1 25 0 0 [xR 195, xI m] n T M (xPI n T (fun z M2 => (¬ (0 ≤ m ∧ m ≤ len) ∧ z = -1 ∧ M2 = M) ∨ ((0 ≤ m ∧ m ≤ len) ∧ z = m ∧ TMm M2 (cutb bt m) m ∧ tpm M M2))) := by
  refine x_met uX7_end (by decide) (Nat.le_of_ble_eq_true rfl) ?_
  intro Γ G Rt _
  have G : xG Γ RX7 cX7_end 2 1 25 0 0 := G
  have Rt : xRt Γ (xPI n T (fun z M2 => (¬ (0 ≤ m ∧ m ≤ len) ∧ z = -1 ∧ M2 = M) ∨ ((0 ≤ m ∧ m ≤ len) ∧ z = m ∧ TMm M2 (cutb bt m) m ∧ tpm M M2))) (some .int) 0 0 := Rt
  show xX Γ 0 0 n T 0 [(0, xR 195), (1, xI m)] [] M
  have hlb := hT.1
  have hMl := hM.1
  refine x_iload_n G 1 rfl rfl dX7_end_0 ?_
  refine x_i2l G dX7_end_1 ?_
  refine x_lconst G dX7_end_2 ?_
  show xX Γ 0 0 n T 3 [(0, xR 195), (1, xI m)] [xL 0, xL m] M
  refine x_aload_n G 0 rfl rfl dX7_end_3 ?_
  refine x_get G (xI (M 195 18)) xf7_18 lk_X7_282 (ly_n hY 195 (by decide)) (ly_k hY 195 (by decide)) (Or.inl ⟨rfl, rfl⟩) dX7_end_4 ?_
  refine x_i2l G dX7_end_7 ?_
  refine x_callSp G [] [xL m, xL 0, xL (M 195 18)] hy_X7_in ht_X7_in ml_X7_54 rfl rfl (kX7_in _ _ m 0 (M 195 18)) (by decide) (by decide) (Nat.le_of_ble_eq_true rfl) dX7_end_8 ?_
  refine x_if_ne G 16 (by decide) dX7_end_11 (fun c11 => ?_) (fun c11 => ?_)
  · skip
    have c11 := b2i_ne0.mp c11
    refine x_aload_n G 0 rfl rfl dX7_end_16 ?_
    refine x_iload_n G 1 rfl rfl dX7_end_17 ?_
    refine x_put G  xf7_18 lk_X7_282 (ly_n hY 195 (by decide)) (ly_k hY 195 (by decide)) rfl dX7_end_18 ?_
    refine x_iload_n G 1 rfl rfl dX7_end_21 ?_
    exact x_iret G Rt dX7_end_22 ⟨rfl, rfl, _, rfl, Or.inr ⟨by omega, rfl, ⟨xst_same .., fun k hk => by rw [xst_row (by decide), hM.2 k (by omega)]; congr 1; unfold cutb; rw [if_pos hk]⟩, fun q h1 h2 => xst_row h1, fun j hj => xst_nq (Or.inr hj)⟩⟩
  · skip
    have c11 := b2i_eq0.mp c11
    refine x_iconst G (by decide) dX7_end_14 ?_
    exact x_iret G Rt dX7_end_15 ⟨rfl, rfl, _, rfl, Or.inl ⟨by omega, rfl, rfl⟩⟩
abbrev tq1 (M M2 : xM) : Prop := (∀ q, q ≠ 195 → M2 q = M q) ∧ ∀ j, j ≠ 19 → M2 195 j = M 195 j
abbrev tq3 (M M2 : xM) : Prop := (∀ q, q ≠ 195 → M2 q = M q) ∧ ∀ j, j ≠ 19 → j ≠ 20 → j ≠ 21 → M2 195 j = M 195 j
theorem tq13 {M M2 : xM} (h : tq1 M M2) : tq3 M M2 := ⟨h.1, fun j h1 _ _ => h.2 j h1⟩
theorem tq1_refl (M : xM) : tq1 M M := ⟨fun _ _ => rfl, fun _ _ => rfl⟩
theorem tq1_tr {M M1 M2 : xM} (h : tq1 M M1) (h2 : tq1 M1 M2) : tq1 M M2 := ⟨fun q g => (h2.1 q g).trans (h.1 q g), fun j g => (h2.2 j g).trans (h.2 j g)⟩
theorem tq1_st {M M1 : xM} {z : Int} (h : tq1 M M1) : tq1 M (xst M1 195 19 z) := ⟨fun q g => (xst_row g).trans (h.1 q g), fun j g => (xst_nq (Or.inr g)).trans (h.2 j g)⟩
theorem tq3_refl (M : xM) : tq3 M M := ⟨fun _ _ => rfl, fun _ _ _ _ => rfl⟩
theorem tq3_tr {M M1 M2 : xM} (h : tq3 M M1) (h2 : tq3 M1 M2) : tq3 M M2 := ⟨fun q g => (h2.1 q g).trans (h.1 q g), fun j g1 g2 g3 => (h2.2 j g1 g2 g3).trans (h.2 j g1 g2 g3)⟩
theorem tq3_st {M M1 : xM} {j : Nat} {z : Int} (h : tq3 M M1) (hj : j = 19 ∨ j = 20 ∨ j = 21) : tq3 M (xst M1 195 j z) := ⟨fun q g => (xst_row g).trans (h.1 q g), fun i g1 g2 g3 => (xst_nq (by omega)).trans (h.2 i g1 g2 g3)⟩
theorem tmm_1 {M M2 : xM} {bt : Int → Int} {len : Int} (h : TMm M bt len) (h2 : tq1 M M2) : TMm M2 bt len := tmm_cg h (h2.2 18 (by decide)) (h2.1 207 (by decide))
theorem tmm_3 {M M2 : xM} {bt : Int → Int} {len : Int} (h : TMm M bt len) (h2 : tq3 M M2) : TMm M2 bt len := tmm_cg h (h2.2 18 (by decide) (by decide) (by decide)) (h2.1 207 (by decide))
set_option maxRecDepth 100000 in
set_option maxHeartbeats 4000000 in
theorem kX7_byteAt (D : xD) (l : Launch) {n : Nat} {T : xT} {M : xM} (bt : Int → Int) (len : Int) (k : Int) (hY : LayOK n T) (hT : TB bt len) (hM : TMm M bt len) (hk : 0 ≤ k) : xC D l uX7_byteAt 0 0 0 0 [xR 195, xI k] n T M (xPp n T M (bt k)) := by
  refine x_met uX7_byteAt (by decide) (Nat.le_of_ble_eq_true rfl) ?_
  intro Γ G Rt _
  have G : xG Γ RX7 cX7_byteAt 2 0 0 0 0 := G
  have Rt : xRt Γ (xPp n T M (bt k)) (some .int) 0 0 := Rt
  show xX Γ 0 0 n T 0 [(0, xR 195), (1, xI k)] [] M
  have hlb := hT.1
  have hMl := hM.1
  refine x_iload_n G 1 rfl rfl dX7_byteAt_0 ?_
  refine x_aload_n G 0 rfl rfl dX7_byteAt_1 ?_
  refine x_get G (xI (M 195 18)) xf7_18 lk_X7_282 (ly_n hY 195 (by decide)) (ly_k hY 195 (by decide)) (Or.inl ⟨rfl, rfl⟩) dX7_byteAt_2 ?_
  refine x_icmp_ge G 21 (by decide) dX7_byteAt_5 (fun c5 => ?_) (fun c5 => ?_)
  · skip
    refine x_iconst G (by decide) dX7_byteAt_21 ?_
    exact x_iret G Rt dX7_byteAt_22 ⟨rfl, rfl, congrArg (fun z => some (xI z)) ((hT.2.2 k (by omega)).symm), rfl⟩
  · skip
    refine x_aload_n G 0 rfl rfl dX7_byteAt_8 ?_
    refine x_get G (xR 207) xf7_17 lk_X7_44 (ly_n hY 195 (by decide)) (ly_k hY 195 (by decide)) (Or.inr ⟨rfl, _, (ly_r hY 195 17 (by decide) (by decide)), rfl⟩) dX7_byteAt_9 ?_
    refine x_iload_n G 1 rfl rfl dX7_byteAt_12 ?_
    refine x_bald G (ly_n hY 207 (by decide)) (ly_k hY 207 (by decide)) (show _ = 400 from ly_l hY 207 (by decide)) (by omega) (by omega) dX7_byteAt_13 ?_
    have hb := hT.2.1 k hk (by omega)
    have hm2 := hM.2 k.toNat (by omega)
    rw [show ((k.toNat : Nat) : Int) = k by omega] at hm2
    have hsb := sgb_b hb
    refine x_sipush G (by decide) dX7_byteAt_14 ?_
    refine x_iand G (M 207 k.toNat % 256) (x_and255 _) (by omega) dX7_byteAt_17 ?_
    refine x_goto G 22 (by decide) dX7_byteAt_18 ?_
    exact x_iret G Rt dX7_byteAt_22 ⟨rfl, rfl, congrArg (fun z => some (xI z)) (by rw [hm2]; exact hsb.2.2), rfl⟩
set_option maxRecDepth 100000 in
set_option maxHeartbeats 4000000 in
theorem kX7_nextByte (D : xD) (l : Launch) {n : Nat} {T : xT} {M : xM} (bt : Int → Int) (len : Int) (a : Int) (hY : LayOK n T) (hT : TB bt len) (hM : TMm M bt len) (ha : M 195 19 = a) (hal : 0 ≤ a ∧ a ≤ len) : xC D l uX7_nextByte 1 21 0 0 [xR 195] n T M (xPI n T (fun z M2 => (z = bt (skp bt a) ∧ M2 195 19 = skp bt a) ∧ tq1 M M2)) := by
  refine x_met uX7_nextByte (by decide) (Nat.le_of_ble_eq_true rfl) ?_
  intro Γ G Rt _
  have G : xG Γ RX7 cX7_nextByte 1 1 21 0 0 := G
  have Rt : xRt Γ (xPI n T (fun z M2 => (z = bt (skp bt a) ∧ M2 195 19 = skp bt a) ∧ tq1 M M2)) (some .int) 0 0 := Rt
  show xX Γ 0 0 n T 0 [(0, xR 195)] [] M
  have hlb := hT.1
  have hMl := hM.1
  have hsk := skp_run hT hal.2
  have loop0 : ∀ (d : Nat) (c : Int) (M1 : xM), (len - c).toNat = d → (M1 195 19 = c) → (a ≤ c ∧ c ≤ skp bt a) → (tq1 M M1) → xX Γ 0 0 n T 0 [(0, xR 195)] [] M1 := by
    intro d
    induction d using Nat.strongRecOn with
    | ind d ih0 =>
    intro c M1 hd0 hc1 hc2 hf1
    have hskb := hsk.2
    refine x_aload_n G 0 rfl rfl dX7_nextByte_0 ?_
    refine x_aload_n G 0 rfl rfl dX7_nextByte_1 ?_
    refine x_get G (xI (M1 195 19)) xf7_19 lk_X7_288 (ly_n hY 195 (by decide)) (ly_k hY 195 (by decide)) (Or.inl ⟨rfl, rfl⟩) dX7_nextByte_2 ?_
    rw [hc1]
    skip
    refine x_callVp G [] [xI c] rfl (by decide) (ly_n hY 195 (by decide)) (ly_k hY 195 (by decide)) hy_X7_byteAt hi_X7_byteAt hs_X7_byteAt ml_X7_291 rfl rfl (kX7_byteAt _ _ bt len c hY hT (tmm_1 hM hf1) (by omega)) (by decide) (by decide) (Nat.le_of_ble_eq_true rfl) dX7_nextByte_5 ?_
    refine x_bipush G (by decide) dX7_nextByte_8 ?_
    refine x_icmp_ne G 26 (by decide) dX7_nextByte_10 (fun c10 => ?_) (fun c10 => ?_)
    · skip
      have hce : c = skp bt a := by (rcases Int.lt_or_le c (skp bt a) with g | g; exact absurd (hsk.1.2.1 c hc2.1 g) c10; omega)
      refine x_aload_n G 0 rfl rfl dX7_nextByte_26 ?_
      refine x_aload_n G 0 rfl rfl dX7_nextByte_27 ?_
      refine x_get G (xI (M1 195 19)) xf7_19 lk_X7_288 (ly_n hY 195 (by decide)) (ly_k hY 195 (by decide)) (Or.inl ⟨rfl, rfl⟩) dX7_nextByte_28 ?_
      rw [hc1]
      skip
      refine x_callVp G [] [xI c] rfl (by decide) (ly_n hY 195 (by decide)) (ly_k hY 195 (by decide)) hy_X7_byteAt hi_X7_byteAt hs_X7_byteAt ml_X7_291 rfl rfl (kX7_byteAt _ _ bt len c hY hT (tmm_1 hM hf1) (by omega)) (by decide) (by decide) (Nat.le_of_ble_eq_true rfl) dX7_nextByte_31 ?_
      exact x_iret G Rt dX7_nextByte_34 ⟨rfl, rfl, _, rfl, ⟨⟨by rw [hce], by rw [hc1, hce]⟩, hf1⟩⟩
    · skip
      refine x_aload_n G 0 rfl rfl dX7_nextByte_13 ?_
      refine x_dup G rfl dX7_nextByte_14 ?_
      refine x_get G (xI (M1 195 19)) xf7_19 lk_X7_288 (ly_n hY 195 (by decide)) (ly_k hY 195 (by decide)) (Or.inl ⟨rfl, rfl⟩) dX7_nextByte_15 ?_
      refine x_iconst G (by decide) dX7_nextByte_18 ?_
      refine x_iadd G (by omega) dX7_nextByte_19 ?_
      refine x_put G  xf7_19 lk_X7_288 (ly_n hY 195 (by decide)) (ly_k hY 195 (by decide)) rfl dX7_nextByte_20 ?_
      refine x_goto G 0 (by decide) dX7_nextByte_23 ?_
      refine x_sub [(0, xR 195)] [0] rfl ?_
      exact ih0 _ (by (have h9 : ¬ c = skp bt a := fun e => hsk.1.2.2 (by rw [← e]; exact c10)); omega) (c + 1) (xst M1 195 19 ((M1 195 19) + 1)) rfl (by rw [xst_same, hc1]) (by (have h9 : ¬ c = skp bt a := fun e => hsk.1.2.2 (by rw [← e]; exact c10)); omega) (tq1_st hf1)
  refine x_sub [(0, xR 195)] [0] rfl ?_
  exact loop0 _ a M rfl (ha) (by omega) (tq1_refl _)
