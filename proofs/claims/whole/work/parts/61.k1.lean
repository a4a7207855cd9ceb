def xPK (n : Nat) (T : xT) (q : xM → Prop) : xPt := fun r n2 T2 M2 => r = none ∧ n2 = n ∧ T2 = T ∧ q M2
theorem x_callIK {Γ : xΓ} {own : String} {cc : ByteArray} {nL fr lo mc ms : Nat} (G : xG Γ own cc nL fr lo mc ms) {cells slots n pc : Nat} {T : xT} {L : List (Nat × xV)} (st : List xV) {M : xM} {y : xY} {idx fr2 lo2 mc2 ms2 n' : Nat} {T' : xT} {q : xM → Prop} {a : Nat} (hy : xYb y 0) (hins : Cond.instanceMethod y.1 ∈ WS) (hini : y.1.name = "<init>") (hret : y.2.2.2 = none) (hlk : xMl own idx y.1) (hC : xC Γ.1 Γ.2.2.1 y fr2 lo2 mc2 ms2 [xR a] n T M (xPK n' T' q)) (hRo : fr2 + 1 ≤ fr ∧ 8 + (y.2.2.1 + 11) + lo2 ≤ lo) (hCe : cells + mc2 ≤ mc ∧ slots + ms2 ≤ ms) (hcat : (st.map xcat).sum ≤ 8) (hd : decode cc pc = .ok (.invokespecial idx, 3)) (kk : ∀ M2, q M2 → xX Γ (cells + mc2) (slots + ms2) n' T' (pc + 3) L st M2) : xX Γ cells slots n T pc L (xR a :: st) M := by
  refine x_callI (as := []) G hy hins hini hret hlk rfl hC hRo hCe hcat hd fun r n2 T2 M2 h => ?_
  obtain ⟨rfl, rfl, rfl, h⟩ := h
  exact kk M2 h
theorem xsr_ne {M : xM} {k a : Nat} {f : Nat → Int} (h : a ≠ k) : xsr M k f a = M a := by simp [xsr, h]
theorem xsr_self {M : xM} {k : Nat} {f : Nat → Int} : xsr M k f k = f := by simp [xsr]
theorem zer_eq {M M2 : xM} {a : Nat} (h : zer (vw M a)) (he : ∀ k, a ≤ k → k < a + 13 → M2 k = M k) : zer (vw M2 a) := by
  obtain ⟨h1, h2⟩ := h
  refine ⟨?_, fun s hs => ?_⟩
  · show M2 (a + 0) 10 = 0 ∧ M2 (a + 0) 11 = 0 ∧ M2 (a + 0) 12 = 1
    rw [he (a + 0) (by omega) (by omega)]; exact h1
  · show M2 (a + 11) s = 4 ∧ M2 (a + 12) s = 0
    rw [he (a + 11) (by omega) (by omega), he (a + 12) (by omega) (by omega)]; exact h2 s hs

def tX1 (a : Nat) (T : xT) : xT := xTr (xTn (xTr (xTn T (a + 1) 10 5) a 0 (a + 1)) (a + 2) 10 5) a 1 (a + 2)
set_option maxRecDepth 100000 in
set_option maxHeartbeats 4000000 in
theorem kX1_init (D : xD) (l : Launch) {T : xT} {M : xM} (a : Nat) (hk : (T a).1 = 1) (hb : a < 900000) : xC D l uX1_init 1 40 2 10 [xR a] (a + 1) T M (xPK (a + 3) (tX1 a T) (fun M2 => ∀ k, k < a + 1 → M2 k = M k)) := by
  refine x_met uX1_init (by decide) (Nat.le_of_ble_eq_true rfl) ?_
  intro Γ G Rt hI
  have hI := hI rfl
  have G : xG Γ RX1 cX1_init 1 1 40 2 10 := G
  have Rt : xRt Γ (xPK (a + 3) (tX1 a T) (fun M2 => ∀ k, k < a + 1 → M2 k = M k)) none 2 10 := Rt
  show xX Γ 0 0 (a + 1) T 0 [(0, xR a)] [] M
  refine x_aload_n G 0 rfl rfl dX1_init_0 ?_
  refine x_objInit G ml_X1_5 inst_objInit code_objInit (by decide) (Nat.le_of_ble_eq_true rfl) dX1_init_1 ?_
  refine x_aload_n G 0 rfl rfl dX1_init_4 ?_
  refine x_iconst G (by decide) dX1_init_5 ?_
  refine x_newl G (N := 5) rfl (by decide) ac_long (by omega) (by decide) dX1_init_6 ?_
  refine x_putr G hI xf1_0 rfl (fun _ => ⟨rfl, rfl⟩) lw_X1_11 (by omega) (by simp [xTn, xTr, hk, Nat.add_assoc]) rfl dX1_init_8 ?_
  refine x_aload_n G 0 rfl rfl dX1_init_11 ?_
  refine x_iconst G (by decide) dX1_init_12 ?_
  refine x_newl G (N := 5) rfl (by decide) ac_long (by omega) (by decide) dX1_init_13 ?_
  refine x_putr G hI xf1_1 rfl (fun _ => ⟨rfl, rfl⟩) lw_X1_15 (by omega) (by simp [xTn, xTr, hk, Nat.add_assoc]) rfl dX1_init_15 ?_
  refine x_widen (by decide) (by decide) (?_ : xX Γ 2 10 _ _ _ _ _ _)
  exact x_vret G Rt dX1_init_18 ⟨rfl, rfl, rfl, fun k hk9 => by rw [xsr_ne (by omega), xsr_ne (by omega)]⟩
def tX2 (a : Nat) (T : xT) : xT := xTr (xTn (xTr (xTn T (a + 1) 9 100) a 0 (a + 1)) (a + 2) 9 26) a 1 (a + 2)
set_option maxRecDepth 100000 in
set_option maxHeartbeats 4000000 in
theorem kX2_init (D : xD) (l : Launch) {T : xT} {M : xM} (a : Nat) (hk : (T a).1 = 2) (hb : a < 900000) : xC D l uX2_init 1 40 2 126 [xR a] (a + 1) T M (xPK (a + 3) (tX2 a T) (fun M2 => ∀ k, k < a → M2 k = M k)) := by
  refine x_met uX2_init (by decide) (Nat.le_of_ble_eq_true rfl) ?_
  intro Γ G Rt hI
  have hI := hI rfl
  have G : xG Γ RX2 cX2_init 1 1 40 2 126 := G
  have Rt : xRt Γ (xPK (a + 3) (tX2 a T) (fun M2 => ∀ k, k < a → M2 k = M k)) none 2 126 := Rt
  show xX Γ 0 0 (a + 1) T 0 [(0, xR a)] [] M
  refine x_aload_n G 0 rfl rfl dX2_init_0 ?_
  refine x_objInit G ml_X2_3 inst_objInit code_objInit (by decide) (Nat.le_of_ble_eq_true rfl) dX2_init_1 ?_
  refine x_aload_n G 0 rfl rfl dX2_init_4 ?_
  refine x_bipush G (by decide) dX2_init_5 ?_
  refine x_newi G (N := 100) rfl (by decide) ac_int (by omega) (by decide) dX2_init_7 ?_
  refine x_putr G hI xf2_0 rfl (fun _ => ⟨rfl, rfl⟩) lw_X2_9 (by omega) (by simp [xTn, xTr, hk, Nat.add_assoc]) rfl dX2_init_9 ?_
  refine x_aload_n G 0 rfl rfl dX2_init_12 ?_
  refine x_bipush G (by decide) dX2_init_13 ?_
  refine x_newi G (N := 26) rfl (by decide) ac_int (by omega) (by decide) dX2_init_15 ?_
  refine x_putr G hI xf2_1 rfl (fun _ => ⟨rfl, rfl⟩) lw_X2_15 (by omega) (by simp [xTn, xTr, hk, Nat.add_assoc]) rfl dX2_init_17 ?_
  refine x_aload_n G 0 rfl rfl dX2_init_20 ?_
  refine x_iconst G (by decide) dX2_init_21 ?_
  refine x_put G xf2_2 lk_X2_18 (by omega) (by simp [xTn, xTr, hk, Nat.add_assoc]) rfl dX2_init_22 ?_
  refine x_widen (by decide) (by decide) (?_ : xX Γ 2 126 _ _ _ _ _ _)
  exact x_vret G Rt dX2_init_25 ⟨rfl, rfl, rfl, fun k hk9 => by rw [xst_ne _ (by omega), xsr_ne (by omega), xsr_ne (by omega)]⟩
def tX3 (a : Nat) (T : xT) : xT := xTr (xTn (xTr (xTn (xTr (xTn (xTr (xTn (xTr (xTn (xTr (xTn (xTr (xTn (xTr (xTn (xTr (xTn (xTr (tX1 (a + 1) (xTn T (a + 1) 1 0)) a 0 (a + 1)) (a + 4) 9 100) a 1 (a + 4)) (a + 5) 9 100) a 2 (a + 5)) (a + 6) 9 100) a 3 (a + 6)) (a + 7) 9 100) a 4 (a + 7)) (a + 8) 9 100) a 5 (a + 8)) (a + 9) 11 100) a 6 (a + 9)) (a + 10) 9 100) a 7 (a + 10)) (a + 11) 9 4) a 8 (a + 11)) (a + 12) 9 4) a 9 (a + 12)
set_option maxHeartbeats 4000000 in
theorem stL_new {T : xT} {a : Nat} (hk : (T a).1 = 3 ∧ (T a).2.1 = 0) : StL (a + 13) (tX3 a T) a := by
  refine ⟨Nat.le_refl _, fun i hi => ?_⟩
  match i, hi with
  | 0, _ =>
    refine ⟨by simp [tX3, tX1, xTn, xTr, stK, hk.1, Nat.add_assoc], by simp [tX3, tX1, xTn, xTr, stN, hk.2, Nat.add_assoc], fun j hj => ?_⟩
    match j, hj with
    | 0, _ => simp [tX3, tX1, xTn, xTr, stR]
    | 1, _ => simp [tX3, tX1, xTn, xTr, stR]
    | 2, _ => simp [tX3, tX1, xTn, xTr, stR]
    | 3, _ => simp [tX3, tX1, xTn, xTr, stR]
    | 4, _ => simp [tX3, tX1, xTn, xTr, stR]
    | 5, _ => simp [tX3, tX1, xTn, xTr, stR]
    | 6, _ => simp [tX3, tX1, xTn, xTr, stR]
    | 7, _ => simp [tX3, tX1, xTn, xTr, stR]
    | 8, _ => simp [tX3, tX1, xTn, xTr, stR]
    | 9, _ => simp [tX3, tX1, xTn, xTr, stR]
    | (j + 10), h => exact absurd h (by omega)
  | 1, _ =>
    refine ⟨by simp [tX3, tX1, xTn, xTr, stK, hk.1, Nat.add_assoc], by simp [tX3, tX1, xTn, xTr, stN, hk.2, Nat.add_assoc], fun j hj => ?_⟩
    match j, hj with
    | 0, _ => simp [tX3, tX1, xTn, xTr, stR]
    | 1, _ => simp [tX3, tX1, xTn, xTr, stR]
    | (j + 2), h => simp [tX3, tX1, xTn, xTr, stR]
  | 2, _ =>
    refine ⟨by simp [tX3, tX1, xTn, xTr, stK, hk.1, Nat.add_assoc], by simp [tX3, tX1, xTn, xTr, stN, hk.2, Nat.add_assoc], fun j hj => ?_⟩
    simp [tX3, tX1, xTn, xTr, stR]
  | 3, _ =>
    refine ⟨by simp [tX3, tX1, xTn, xTr, stK, hk.1, Nat.add_assoc], by simp [tX3, tX1, xTn, xTr, stN, hk.2, Nat.add_assoc], fun j hj => ?_⟩
    simp [tX3, tX1, xTn, xTr, stR]
  | 4, _ =>
    refine ⟨by simp [tX3, tX1, xTn, xTr, stK, hk.1, Nat.add_assoc], by simp [tX3, tX1, xTn, xTr, stN, hk.2, Nat.add_assoc], fun j hj => ?_⟩
    simp [tX3, tX1, xTn, xTr, stR]
  | 5, _ =>
    refine ⟨by simp [tX3, tX1, xTn, xTr, stK, hk.1, Nat.add_assoc], by simp [tX3, tX1, xTn, xTr, stN, hk.2, Nat.add_assoc], fun j hj => ?_⟩
    simp [tX3, tX1, xTn, xTr, stR]
  | 6, _ =>
    refine ⟨by simp [tX3, tX1, xTn, xTr, stK, hk.1, Nat.add_assoc], by simp [tX3, tX1, xTn, xTr, stN, hk.2, Nat.add_assoc], fun j hj => ?_⟩
    simp [tX3, tX1, xTn, xTr, stR]
  | 7, _ =>
    refine ⟨by simp [tX3, tX1, xTn, xTr, stK, hk.1, Nat.add_assoc], by simp [tX3, tX1, xTn, xTr, stN, hk.2, Nat.add_assoc], fun j hj => ?_⟩
    simp [tX3, tX1, xTn, xTr, stR]
  | 8, _ =>
    refine ⟨by simp [tX3, tX1, xTn, xTr, stK, hk.1, Nat.add_assoc], by simp [tX3, tX1, xTn, xTr, stN, hk.2, Nat.add_assoc], fun j hj => ?_⟩
    simp [tX3, tX1, xTn, xTr, stR]
  | 9, _ =>
    refine ⟨by simp [tX3, tX1, xTn, xTr, stK, hk.1, Nat.add_assoc], by simp [tX3, tX1, xTn, xTr, stN, hk.2, Nat.add_assoc], fun j hj => ?_⟩
    simp [tX3, tX1, xTn, xTr, stR]
  | 10, _ =>
    refine ⟨by simp [tX3, tX1, xTn, xTr, stK, hk.1, Nat.add_assoc], by simp [tX3, tX1, xTn, xTr, stN, hk.2, Nat.add_assoc], fun j hj => ?_⟩
    simp [tX3, tX1, xTn, xTr, stR]
  | 11, _ =>
    refine ⟨by simp [tX3, tX1, xTn, xTr, stK, hk.1, Nat.add_assoc], by simp [tX3, tX1, xTn, xTr, stN, hk.2, Nat.add_assoc], fun j hj => ?_⟩
    simp [tX3, tX1, xTn, xTr, stR]
  | 12, _ =>
    refine ⟨by simp [tX3, tX1, xTn, xTr, stK, hk.1, Nat.add_assoc], by simp [tX3, tX1, xTn, xTr, stN, hk.2, Nat.add_assoc], fun j hj => ?_⟩
    simp [tX3, tX1, xTn, xTr, stR]
  | (i + 13), h => exact absurd h (by omega)
theorem tX3_k {T : xT} {a : Nat} (hk : (T a).1 = 3) : (tX3 a T a).1 = 3 := by simp [tX3, tX1, xTn, xTr, hk, Nat.add_assoc]
set_option maxRecDepth 100000 in
set_option maxHeartbeats 4000000 in
theorem kX3_init (D : xD) (l : Launch) {T : xT} {M : xM} (a : Nat) (hk : (T a).1 = 3 ∧ (T a).2.1 = 0) (hb : a < 800000) : xC D l uX3_init 2 60 12 720 [xR a] (a + 1) T M (xPK (a + 13) (tX3 a T) (fun M2 => zer (vw M2 a) ∧ ∀ k, k < a → M2 k = M k)) := by
  refine x_met uX3_init (by decide) (Nat.le_of_ble_eq_true rfl) ?_
  intro Γ G Rt hI
  have hI := hI rfl
  have G : xG Γ RX3 cX3_init 1 2 60 12 720 := G
  have Rt : xRt Γ (xPK (a + 13) (tX3 a T) (fun M2 => zer (vw M2 a) ∧ ∀ k, k < a → M2 k = M k)) none 12 720 := Rt
  show xX Γ 0 0 (a + 1) T 0 [(0, xR a)] [] M
  refine x_aload_n G 0 rfl rfl dX3_init_0 ?_
  refine x_objInit G ml_X3_3 inst_objInit code_objInit (by decide) (Nat.le_of_ble_eq_true rfl) dX3_init_1 ?_
  refine x_aload_n G 0 rfl rfl dX3_init_4 ?_
  refine x_new G xcd1 cl_X3_9 (by omega) (by decide) dX3_init_5 ?_
  refine x_dup G rfl dX3_init_8 ?_
  refine x_callIK G [xR (a + 1), xR a] hy_X1_init hi_X1_init rfl rfl ml_X3_11 (kX1_init _ _ (a + 1) (by simp [xTn]) (by omega)) (by decide) (by decide) (Nat.le_of_ble_eq_true rfl) dX3_init_9 (fun Mh0 h0 => ?_)
  refine x_putr G hI xf3_0 rfl (fun _ => ⟨rfl, rfl⟩) lw_X3_12 (by omega) (by simp [xTn, xTr, tX1, hk.1, Nat.add_assoc]) rfl dX3_init_12 ?_
  refine x_aload_n G 0 rfl rfl dX3_init_15 ?_
  refine x_bipush G (by decide) dX3_init_16 ?_
  refine x_newi G (N := 100) rfl (by decide) ac_int (by omega) (by decide) dX3_init_18 ?_
  refine x_putr G hI xf3_1 rfl (fun _ => ⟨rfl, rfl⟩) lw_X3_18 (by omega) (by simp [xTn, xTr, tX1, hk.1, Nat.add_assoc]) rfl dX3_init_20 ?_
  refine x_aload_n G 0 rfl rfl dX3_init_23 ?_
  refine x_bipush G (by decide) dX3_init_24 ?_
  refine x_newi G (N := 100) rfl (by decide) ac_int (by omega) (by decide) dX3_init_26 ?_
  refine x_putr G hI xf3_2 rfl (fun _ => ⟨rfl, rfl⟩) lw_X3_22 (by omega) (by simp [xTn, xTr, tX1, hk.1, Nat.add_assoc]) rfl dX3_init_28 ?_
  refine x_aload_n G 0 rfl rfl dX3_init_31 ?_
  refine x_bipush G (by decide) dX3_init_32 ?_
  refine x_newi G (N := 100) rfl (by decide) ac_int (by omega) (by decide) dX3_init_34 ?_
  refine x_putr G hI xf3_3 rfl (fun _ => ⟨rfl, rfl⟩) lw_X3_25 (by omega) (by simp [xTn, xTr, tX1, hk.1, Nat.add_assoc]) rfl dX3_init_36 ?_
  refine x_aload_n G 0 rfl rfl dX3_init_39 ?_
  refine x_bipush G (by decide) dX3_init_40 ?_
  refine x_newi G (N := 100) rfl (by decide) ac_int (by omega) (by decide) dX3_init_42 ?_
  refine x_putr G hI xf3_4 rfl (fun _ => ⟨rfl, rfl⟩) lw_X3_28 (by omega) (by simp [xTn, xTr, tX1, hk.1, Nat.add_assoc]) rfl dX3_init_44 ?_
  refine x_aload_n G 0 rfl rfl dX3_init_47 ?_
  refine x_bipush G (by decide) dX3_init_48 ?_
  refine x_newi G (N := 100) rfl (by decide) ac_int (by omega) (by decide) dX3_init_50 ?_
  refine x_putr G hI xf3_5 rfl (fun _ => ⟨rfl, rfl⟩) lw_X3_31 (by omega) (by simp [xTn, xTr, tX1, hk.1, Nat.add_assoc]) rfl dX3_init_52 ?_
  refine x_aload_n G 0 rfl rfl dX3_init_55 ?_
  refine x_bipush G (by decide) dX3_init_56 ?_
  refine x_newz G (N := 100) rfl (by decide) ac_boolean (by omega) (by decide) dX3_init_58 ?_
  refine x_putr G hI xf3_6 rfl (fun _ => ⟨rfl, rfl⟩) lw_X3_34 (by omega) (by simp [xTn, xTr, tX1, hk.1, Nat.add_assoc]) rfl dX3_init_60 ?_
  refine x_aload_n G 0 rfl rfl dX3_init_63 ?_
  refine x_bipush G (by decide) dX3_init_64 ?_
  refine x_newi G (N := 100) rfl (by decide) ac_int (by omega) (by decide) dX3_init_66 ?_
  refine x_putr G hI xf3_7 rfl (fun _ => ⟨rfl, rfl⟩) lw_X3_38 (by omega) (by simp [xTn, xTr, tX1, hk.1, Nat.add_assoc]) rfl dX3_init_68 ?_
  refine x_aload_n G 0 rfl rfl dX3_init_71 ?_
  refine x_iconst G (by decide) dX3_init_72 ?_
  refine x_newi G (N := 4) rfl (by decide) ac_int (by omega) (by decide) dX3_init_73 ?_
  refine x_putr G hI xf3_8 rfl (fun _ => ⟨rfl, rfl⟩) lw_X3_41 (by omega) (by simp [xTn, xTr, tX1, hk.1, Nat.add_assoc]) rfl dX3_init_75 ?_
  refine x_aload_n G 0 rfl rfl dX3_init_78 ?_
  refine x_iconst G (by decide) dX3_init_79 ?_
  refine x_newi G (N := 4) rfl (by decide) ac_int (by omega) (by decide) dX3_init_80 ?_
  refine x_putr G hI xf3_9 rfl (fun _ => ⟨rfl, rfl⟩) lw_X3_44 (by omega) (by simp [xTn, xTr, tX1, hk.1, Nat.add_assoc]) rfl dX3_init_82 ?_
  refine x_aload_n G 0 rfl rfl dX3_init_85 ?_
  refine x_callVV G [] [] rfl (by decide) (by omega) (tX3_k hk.1) hy_X3_reset hi_X3_reset hs_X3_reset ml_X3_47 rfl rfl (kX3_reset _ _ a (stL_new hk)) (by decide) (by decide) (Nat.le_of_ble_eq_true rfl) dX3_init_86 (fun Mh1 h1 => ?_)
  refine x_widen (by decide) (by decide) (?_ : xX Γ 12 720 _ _ _ _ _ _)
  exact x_vret G Rt dX3_init_89 ⟨rfl, rfl, rfl, ⟨h1.1, fun k hk9 => by rw [h1.2 k (Or.inl hk9), xsr_ne (by omega), xsr_ne (by omega), xsr_ne (by omega), xsr_ne (by omega), xsr_ne (by omega), xsr_ne (by omega), xsr_ne (by omega), xsr_ne (by omega), xsr_ne (by omega), (h0) k (by omega), xsr_ne (by omega)]⟩⟩
def tX5 (a : Nat) (T : xT) : xT := T
set_option maxRecDepth 100000 in
set_option maxHeartbeats 4000000 in
theorem kX5_init (D : xD) (l : Launch) {T : xT} {M : xM} (a : Nat)  : xC D l uX5_init 1 40 0 0 [xR a] (a + 1) T M (xPK (a + 1) (tX5 a T) (fun M2 => M2 = M)) := by
  refine x_met uX5_init (by decide) (Nat.le_of_ble_eq_true rfl) ?_
  intro Γ G Rt hI
  have hI := hI rfl
  have G : xG Γ RX5 cX5_init 1 1 40 0 0 := G
  have Rt : xRt Γ (xPK (a + 1) (tX5 a T) (fun M2 => M2 = M)) none 0 0 := Rt
  show xX Γ 0 0 (a + 1) T 0 [(0, xR a)] [] M
  refine x_aload_n G 0 rfl rfl dX5_init_0 ?_
  refine x_objInit G ml_X5_3 inst_objInit code_objInit (by decide) (Nat.le_of_ble_eq_true rfl) dX5_init_1 ?_
  refine x_widen (by decide) (by decide) (?_ : xX Γ 0 0 _ _ _ _ _ _)
  exact x_vret G Rt dX5_init_4 ⟨rfl, rfl, rfl, rfl⟩
def tX0 (T : xT) : xT := xTr (tX3 133 (xTn (xTr (tX3 120 (xTn (xTr (tX3 107 (xTn (xTr (tX3 94 (xTn (xTr (tX3 81 (xTn (xTr (tX3 68 (xTn (xTr (tX3 55 (xTn (xTr (tX3 42 (xTn (xTr (tX3 29 (xTn (xTr (tX3 16 (xTn (xTr (xTn T 15 12 10) 14 0 15) 16 3 0)) 15 0 16) 29 3 0)) 15 1 29) 42 3 0)) 15 2 42) 55 3 0)) 15 3 55) 68 3 0)) 15 4 68) 81 3 0)) 15 5 81) 94 3 0)) 15 6 94) 107 3 0)) 15 7 107) 120 3 0)) 15 8 120) 133 3 0)) 15 9 133
set_option maxRecDepth 100000 in
set_option maxHeartbeats 4000000 in
theorem kX0_init (D : xD) (l : Launch) {T : xT} {M : xM} (hk : (T 14).1 = 0 ∧ (T 14).2.1 = 0) : xC D l uX0_init 3 80 131 7340 [xR 14] 15 T M (xPK 146 (tX0 T) (fun M2 => M2 14 1 = 0 ∧ M2 14 2 = 0 ∧ ∀ k, k < 14 → M2 k = M k)) := by
  refine x_met uX0_init (by decide) (Nat.le_of_ble_eq_true rfl) ?_
  intro Γ G Rt hI
  have hI := hI rfl
  have G : xG Γ RX0 cX0_init 2 3 80 131 7340 := G
  have Rt : xRt Γ (xPK 146 (tX0 T) (fun M2 => M2 14 1 = 0 ∧ M2 14 2 = 0 ∧ ∀ k, k < 14 → M2 k = M k)) none 131 7340 := Rt
  show xX Γ 0 0 15 T 0 [(0, xR 14)] [] M
  refine x_aload_n G 0 rfl rfl dX0_init_0 ?_
  refine x_objInit G ml_X0_3 inst_objInit code_objInit (by decide) (Nat.le_of_ble_eq_true rfl) dX0_init_1 ?_
  refine x_aload_n G 0 rfl rfl dX0_init_4 ?_
  refine x_bipush G (by decide) dX0_init_5 ?_
  refine x_newR G (N := 10) rfl (by decide) cl_X0_9 (by omega) (by decide) dX0_init_7 ?_
  refine x_putr G hI xf0_0 rfl (fun _ => ⟨rfl, rfl⟩) lw_X0_11 (by omega) (show _ = 0 from hk.1) rfl dX0_init_10 ?_
  refine x_aload_n G 0 rfl rfl dX0_init_13 ?_
  refine x_iconst G (by decide) dX0_init_14 ?_
  refine x_put G xf0_1 lk_X0_17 (by omega) (show _ = 0 from hk.1) rfl dX0_init_15 ?_
  refine x_aload_n G 0 rfl rfl dX0_init_18 ?_
  refine x_iconst G (by decide) dX0_init_19 ?_
  refine x_put G xf0_2 lk_X0_21 (by omega) (show _ = 0 from hk.1) rfl dX0_init_20 ?_
  refine x_iconst G (by decide) dX0_init_23 ?_
  refine x_istore_n G [(1, xI 0), (0, xR 14)] rfl (by decide) rfl dX0_init_24 ?_
  refine x_iload_n G 0 rfl rfl dX0_init_25 ?_
  refine x_bipush G (by decide) dX0_init_26 ?_
  refine x_icmp_ge G 50 (by decide) dX0_init_28 (fun c28 => absurd c28 (by decide)) (fun _ => ?_)
  refine x_aload_n G 1 rfl rfl dX0_init_31 ?_
  refine x_get G (xR 15) xf0_0 lk_X0_11 (by omega) (show _ = 0 from hk.1) (Or.inr ⟨rfl, _, rfl, rfl⟩) dX0_init_32 ?_
  refine x_iload_n G 0 rfl rfl dX0_init_35 ?_
  refine x_new G xcd3 cl_X0_9 (by omega) (by decide) dX0_init_36 ?_
  refine x_dup G rfl dX0_init_39 ?_
  refine x_callIK G [xR 16, xI 0, xR 15] hy_X3_init hi_X3_init rfl rfl ml_X0_24 (kX3_init _ _ 16 ⟨rfl, rfl⟩ (by omega)) (by decide) (by decide) (Nat.le_of_ble_eq_true rfl) dX0_init_40 (fun Mh0 h0 => ?_)
  refine x_aast G (by omega) (by omega) rfl rfl (len := 10) rfl (by decide) (by decide) dX0_init_43 ?_
  refine x_iinc G [(1, xI 1), (0, xR 14)] 0 rfl (by decide) (by decide) rfl dX0_init_44 ?_
  refine x_goto G 25 (by decide) dX0_init_47 ?_
  refine x_iload_n G 0 rfl rfl dX0_init_25 ?_
  refine x_bipush G (by decide) dX0_init_26 ?_
  refine x_icmp_ge G 50 (by decide) dX0_init_28 (fun c28 => absurd c28 (by decide)) (fun _ => ?_)
  refine x_aload_n G 1 rfl rfl dX0_init_31 ?_
  refine x_get G (xR 15) xf0_0 lk_X0_11 (by omega) (show _ = 0 from hk.1) (Or.inr ⟨rfl, _, rfl, rfl⟩) dX0_init_32 ?_
  refine x_iload_n G 0 rfl rfl dX0_init_35 ?_
  refine x_new G xcd3 cl_X0_9 (by omega) (by decide) dX0_init_36 ?_
  refine x_dup G rfl dX0_init_39 ?_
  refine x_callIK G [xR 29, xI 1, xR 15] hy_X3_init hi_X3_init rfl rfl ml_X0_24 (kX3_init _ _ 29 ⟨rfl, rfl⟩ (by omega)) (by decide) (by decide) (Nat.le_of_ble_eq_true rfl) dX0_init_40 (fun Mh1 h1 => ?_)
  refine x_aast G (by omega) (by omega) rfl rfl (len := 10) rfl (by decide) (by decide) dX0_init_43 ?_
  refine x_iinc G [(1, xI 2), (0, xR 14)] 0 rfl (by decide) (by decide) rfl dX0_init_44 ?_
  refine x_goto G 25 (by decide) dX0_init_47 ?_
  refine x_iload_n G 0 rfl rfl dX0_init_25 ?_
  refine x_bipush G (by decide) dX0_init_26 ?_
  refine x_icmp_ge G 50 (by decide) dX0_init_28 (fun c28 => absurd c28 (by decide)) (fun _ => ?_)
  refine x_aload_n G 1 rfl rfl dX0_init_31 ?_
  refine x_get G (xR 15) xf0_0 lk_X0_11 (by omega) (show _ = 0 from hk.1) (Or.inr ⟨rfl, _, rfl, rfl⟩) dX0_init_32 ?_
  refine x_iload_n G 0 rfl rfl dX0_init_35 ?_
  refine x_new G xcd3 cl_X0_9 (by omega) (by decide) dX0_init_36 ?_
  refine x_dup G rfl dX0_init_39 ?_
  refine x_callIK G [xR 42, xI 2, xR 15] hy_X3_init hi_X3_init rfl rfl ml_X0_24 (kX3_init _ _ 42 ⟨rfl, rfl⟩ (by omega)) (by decide) (by decide) (Nat.le_of_ble_eq_true rfl) dX0_init_40 (fun Mh2 h2 => ?_)
  refine x_aast G (by omega) (by omega) rfl rfl (len := 10) rfl (by decide) (by decide) dX0_init_43 ?_
  refine x_iinc G [(1, xI 3), (0, xR 14)] 0 rfl (by decide) (by decide) rfl dX0_init_44 ?_
  refine x_goto G 25 (by decide) dX0_init_47 ?_
  refine x_iload_n G 0 rfl rfl dX0_init_25 ?_
  refine x_bipush G (by decide) dX0_init_26 ?_
  refine x_icmp_ge G 50 (by decide) dX0_init_28 (fun c28 => absurd c28 (by decide)) (fun _ => ?_)
  refine x_aload_n G 1 rfl rfl dX0_init_31 ?_
  refine x_get G (xR 15) xf0_0 lk_X0_11 (by omega) (show _ = 0 from hk.1) (Or.inr ⟨rfl, _, rfl, rfl⟩) dX0_init_32 ?_
  refine x_iload_n G 0 rfl rfl dX0_init_35 ?_
  refine x_new G xcd3 cl_X0_9 (by omega) (by decide) dX0_init_36 ?_
  refine x_dup G rfl dX0_init_39 ?_
  refine x_callIK G [xR 55, xI 3, xR 15] hy_X3_init hi_X3_init rfl rfl ml_X0_24 (kX3_init _ _ 55 ⟨rfl, rfl⟩ (by omega)) (by decide) (by decide) (Nat.le_of_ble_eq_true rfl) dX0_init_40 (fun Mh3 h3 => ?_)
  refine x_aast G (by omega) (by omega) rfl rfl (len := 10) rfl (by decide) (by decide) dX0_init_43 ?_
  refine x_iinc G [(1, xI 4), (0, xR 14)] 0 rfl (by decide) (by decide) rfl dX0_init_44 ?_
  refine x_goto G 25 (by decide) dX0_init_47 ?_
  refine x_iload_n G 0 rfl rfl dX0_init_25 ?_
  refine x_bipush G (by decide) dX0_init_26 ?_
  refine x_icmp_ge G 50 (by decide) dX0_init_28 (fun c28 => absurd c28 (by decide)) (fun _ => ?_)
  refine x_aload_n G 1 rfl rfl dX0_init_31 ?_
  refine x_get G (xR 15) xf0_0 lk_X0_11 (by omega) (show _ = 0 from hk.1) (Or.inr ⟨rfl, _, rfl, rfl⟩) dX0_init_32 ?_
  refine x_iload_n G 0 rfl rfl dX0_init_35 ?_
  refine x_new G xcd3 cl_X0_9 (by omega) (by decide) dX0_init_36 ?_
  refine x_dup G rfl dX0_init_39 ?_
  refine x_callIK G [xR 68, xI 4, xR 15] hy_X3_init hi_X3_init rfl rfl ml_X0_24 (kX3_init _ _ 68 ⟨rfl, rfl⟩ (by omega)) (by decide) (by decide) (Nat.le_of_ble_eq_true rfl) dX0_init_40 (fun Mh4 h4 => ?_)
  refine x_aast G (by omega) (by omega) rfl rfl (len := 10) rfl (by decide) (by decide) dX0_init_43 ?_
  refine x_iinc G [(1, xI 5), (0, xR 14)] 0 rfl (by decide) (by decide) rfl dX0_init_44 ?_
  refine x_goto G 25 (by decide) dX0_init_47 ?_
  refine x_iload_n G 0 rfl rfl dX0_init_25 ?_
  refine x_bipush G (by decide) dX0_init_26 ?_
  refine x_icmp_ge G 50 (by decide) dX0_init_28 (fun c28 => absurd c28 (by decide)) (fun _ => ?_)
  refine x_aload_n G 1 rfl rfl dX0_init_31 ?_
  refine x_get G (xR 15) xf0_0 lk_X0_11 (by omega) (show _ = 0 from hk.1) (Or.inr ⟨rfl, _, rfl, rfl⟩) dX0_init_32 ?_
  refine x_iload_n G 0 rfl rfl dX0_init_35 ?_
  refine x_new G xcd3 cl_X0_9 (by omega) (by decide) dX0_init_36 ?_
  refine x_dup G rfl dX0_init_39 ?_
  refine x_callIK G [xR 81, xI 5, xR 15] hy_X3_init hi_X3_init rfl rfl ml_X0_24 (kX3_init _ _ 81 ⟨rfl, rfl⟩ (by omega)) (by decide) (by decide) (Nat.le_of_ble_eq_true rfl) dX0_init_40 (fun Mh5 h5 => ?_)
  refine x_aast G (by omega) (by omega) rfl rfl (len := 10) rfl (by decide) (by decide) dX0_init_43 ?_
  refine x_iinc G [(1, xI 6), (0, xR 14)] 0 rfl (by decide) (by decide) rfl dX0_init_44 ?_
  refine x_goto G 25 (by decide) dX0_init_47 ?_
  refine x_iload_n G 0 rfl rfl dX0_init_25 ?_
  refine x_bipush G (by decide) dX0_init_26 ?_
  refine x_icmp_ge G 50 (by decide) dX0_init_28 (fun c28 => absurd c28 (by decide)) (fun _ => ?_)
  refine x_aload_n G 1 rfl rfl dX0_init_31 ?_
  refine x_get G (xR 15) xf0_0 lk_X0_11 (by omega) (show _ = 0 from hk.1) (Or.inr ⟨rfl, _, rfl, rfl⟩) dX0_init_32 ?_
  refine x_iload_n G 0 rfl rfl dX0_init_35 ?_
  refine x_new G xcd3 cl_X0_9 (by omega) (by decide) dX0_init_36 ?_
  refine x_dup G rfl dX0_init_39 ?_
  refine x_callIK G [xR 94, xI 6, xR 15] hy_X3_init hi_X3_init rfl rfl ml_X0_24 (kX3_init _ _ 94 ⟨rfl, rfl⟩ (by omega)) (by decide) (by decide) (Nat.le_of_ble_eq_true rfl) dX0_init_40 (fun Mh6 h6 => ?_)
  refine x_aast G (by omega) (by omega) rfl rfl (len := 10) rfl (by decide) (by decide) dX0_init_43 ?_
  refine x_iinc G [(1, xI 7), (0, xR 14)] 0 rfl (by decide) (by decide) rfl dX0_init_44 ?_
  refine x_goto G 25 (by decide) dX0_init_47 ?_
  refine x_iload_n G 0 rfl rfl dX0_init_25 ?_
  refine x_bipush G (by decide) dX0_init_26 ?_
  refine x_icmp_ge G 50 (by decide) dX0_init_28 (fun c28 => absurd c28 (by decide)) (fun _ => ?_)
  refine x_aload_n G 1 rfl rfl dX0_init_31 ?_
  refine x_get G (xR 15) xf0_0 lk_X0_11 (by omega) (show _ = 0 from hk.1) (Or.inr ⟨rfl, _, rfl, rfl⟩) dX0_init_32 ?_
  refine x_iload_n G 0 rfl rfl dX0_init_35 ?_
  refine x_new G xcd3 cl_X0_9 (by omega) (by decide) dX0_init_36 ?_
  refine x_dup G rfl dX0_init_39 ?_
  refine x_callIK G [xR 107, xI 7, xR 15] hy_X3_init hi_X3_init rfl rfl ml_X0_24 (kX3_init _ _ 107 ⟨rfl, rfl⟩ (by omega)) (by decide) (by decide) (Nat.le_of_ble_eq_true rfl) dX0_init_40 (fun Mh7 h7 => ?_)
  refine x_aast G (by omega) (by omega) rfl rfl (len := 10) rfl (by decide) (by decide) dX0_init_43 ?_
  refine x_iinc G [(1, xI 8), (0, xR 14)] 0 rfl (by decide) (by decide) rfl dX0_init_44 ?_
  refine x_goto G 25 (by decide) dX0_init_47 ?_
  refine x_iload_n G 0 rfl rfl dX0_init_25 ?_
  refine x_bipush G (by decide) dX0_init_26 ?_
  refine x_icmp_ge G 50 (by decide) dX0_init_28 (fun c28 => absurd c28 (by decide)) (fun _ => ?_)
  refine x_aload_n G 1 rfl rfl dX0_init_31 ?_
  refine x_get G (xR 15) xf0_0 lk_X0_11 (by omega) (show _ = 0 from hk.1) (Or.inr ⟨rfl, _, rfl, rfl⟩) dX0_init_32 ?_
  refine x_iload_n G 0 rfl rfl dX0_init_35 ?_
  refine x_new G xcd3 cl_X0_9 (by omega) (by decide) dX0_init_36 ?_
  refine x_dup G rfl dX0_init_39 ?_
  refine x_callIK G [xR 120, xI 8, xR 15] hy_X3_init hi_X3_init rfl rfl ml_X0_24 (kX3_init _ _ 120 ⟨rfl, rfl⟩ (by omega)) (by decide) (by decide) (Nat.le_of_ble_eq_true rfl) dX0_init_40 (fun Mh8 h8 => ?_)
  refine x_aast G (by omega) (by omega) rfl rfl (len := 10) rfl (by decide) (by decide) dX0_init_43 ?_
  refine x_iinc G [(1, xI 9), (0, xR 14)] 0 rfl (by decide) (by decide) rfl dX0_init_44 ?_
  refine x_goto G 25 (by decide) dX0_init_47 ?_
  refine x_iload_n G 0 rfl rfl dX0_init_25 ?_
  refine x_bipush G (by decide) dX0_init_26 ?_
  refine x_icmp_ge G 50 (by decide) dX0_init_28 (fun c28 => absurd c28 (by decide)) (fun _ => ?_)
  refine x_aload_n G 1 rfl rfl dX0_init_31 ?_
  refine x_get G (xR 15) xf0_0 lk_X0_11 (by omega) (show _ = 0 from hk.1) (Or.inr ⟨rfl, _, rfl, rfl⟩) dX0_init_32 ?_
  refine x_iload_n G 0 rfl rfl dX0_init_35 ?_
  refine x_new G xcd3 cl_X0_9 (by omega) (by decide) dX0_init_36 ?_
  refine x_dup G rfl dX0_init_39 ?_
  refine x_callIK G [xR 133, xI 9, xR 15] hy_X3_init hi_X3_init rfl rfl ml_X0_24 (kX3_init _ _ 133 ⟨rfl, rfl⟩ (by omega)) (by decide) (by decide) (Nat.le_of_ble_eq_true rfl) dX0_init_40 (fun Mh9 h9 => ?_)
  refine x_aast G (by omega) (by omega) rfl rfl (len := 10) rfl (by decide) (by decide) dX0_init_43 ?_
  refine x_iinc G [(1, xI 10), (0, xR 14)] 0 rfl (by decide) (by decide) rfl dX0_init_44 ?_
  refine x_goto G 25 (by decide) dX0_init_47 ?_
  refine x_iload_n G 0 rfl rfl dX0_init_25 ?_
  refine x_bipush G (by decide) dX0_init_26 ?_
  refine x_icmp_ge G 50 (by decide) dX0_init_28 (fun _ => ?_) (fun c28 => absurd c28 (by decide))
  refine x_widen (by decide) (by decide) (?_ : xX Γ 131 7340 _ _ _ _ _ _)
  exact x_vret G Rt dX0_init_50 ⟨rfl, rfl, rfl, ⟨by rw [(h9.2) 14 (by omega), xsr_ne (by omega), (h8.2) 14 (by omega), xsr_ne (by omega), (h7.2) 14 (by omega), xsr_ne (by omega), (h6.2) 14 (by omega), xsr_ne (by omega), (h5.2) 14 (by omega), xsr_ne (by omega), (h4.2) 14 (by omega), xsr_ne (by omega), (h3.2) 14 (by omega), xsr_ne (by omega), (h2.2) 14 (by omega), xsr_ne (by omega), (h1.2) 14 (by omega), xsr_ne (by omega), (h0.2) 14 (by omega), xsr_ne (by omega), xst_nq (by omega)]; exact xst_same .., by rw [(h9.2) 14 (by omega), xsr_ne (by omega), (h8.2) 14 (by omega), xsr_ne (by omega), (h7.2) 14 (by omega), xsr_ne (by omega), (h6.2) 14 (by omega), xsr_ne (by omega), (h5.2) 14 (by omega), xsr_ne (by omega), (h4.2) 14 (by omega), xsr_ne (by omega), (h3.2) 14 (by omega), xsr_ne (by omega), (h2.2) 14 (by omega), xsr_ne (by omega), (h1.2) 14 (by omega), xsr_ne (by omega), (h0.2) 14 (by omega), xsr_ne (by omega)]; exact xst_same .., fun k hk9 => by rw [(h9.2) k (by omega), xsr_ne (by omega), (h8.2) k (by omega), xsr_ne (by omega), (h7.2) k (by omega), xsr_ne (by omega), (h6.2) k (by omega), xsr_ne (by omega), (h5.2) k (by omega), xsr_ne (by omega), (h4.2) k (by omega), xsr_ne (by omega), (h3.2) k (by omega), xsr_ne (by omega), (h2.2) k (by omega), xsr_ne (by omega), (h1.2) k (by omega), xsr_ne (by omega), (h0.2) k (by omega), xsr_ne (by omega), xst_ne _ (by omega), xst_ne _ (by omega), xsr_ne (by omega)]⟩⟩
def tX4 (T : xT) : xT := xTr (tX3 148 (xTn (xTr (xTn T 147 9 400) 146 0 147) 148 3 0)) 146 1 148
set_option maxRecDepth 100000 in
set_option maxHeartbeats 4000000 in
theorem kX4_init (D : xD) (l : Launch) {T : xT} {M : xM} (hk : (T 146).1 = 4 ∧ (T 146).2.1 = 0) : xC D l uX4_init 3 80 14 1133 [xR 146] 147 T M (xPK 161 (tX4 T) (fun M2 => M2 146 2 = 0 ∧ ∀ k, k < 146 → M2 k = M k)) := by
  refine x_met uX4_init (by decide) (Nat.le_of_ble_eq_true rfl) ?_
  intro Γ G Rt hI
  have hI := hI rfl
  have G : xG Γ RX4 cX4_init 1 3 80 14 1133 := G
  have Rt : xRt Γ (xPK 161 (tX4 T) (fun M2 => M2 146 2 = 0 ∧ ∀ k, k < 146 → M2 k = M k)) none 14 1133 := Rt
  show xX Γ 0 0 147 T 0 [(0, xR 146)] [] M
  refine x_aload_n G 0 rfl rfl dX4_init_0 ?_
  refine x_objInit G ml_X4_3 inst_objInit code_objInit (by decide) (Nat.le_of_ble_eq_true rfl) dX4_init_1 ?_
  refine x_aload_n G 0 rfl rfl dX4_init_4 ?_
  refine x_sipush G (by decide) dX4_init_5 ?_
  refine x_newi G (N := 400) rfl (by decide) ac_int (by omega) (by decide) dX4_init_8 ?_
  refine x_putr G hI xf4_0 rfl (fun _ => ⟨rfl, rfl⟩) lw_X4_9 (by omega) (show _ = 4 from hk.1) rfl dX4_init_10 ?_
  refine x_aload_n G 0 rfl rfl dX4_init_13 ?_
  refine x_new G xcd3 cl_X4_15 (by omega) (by decide) dX4_init_14 ?_
  refine x_dup G rfl dX4_init_17 ?_
  refine x_callIK G [xR 148, xR 146] hy_X3_init hi_X3_init rfl rfl ml_X4_17 (kX3_init _ _ 148 ⟨rfl, rfl⟩ (by omega)) (by decide) (by decide) (Nat.le_of_ble_eq_true rfl) dX4_init_18 (fun Mh0 h0 => ?_)
  refine x_putr G hI xf4_1 rfl (fun _ => ⟨rfl, rfl⟩) lw_X4_18 (by omega) (show _ = 4 from hk.1) rfl dX4_init_21 ?_
  refine x_aload_n G 0 rfl rfl dX4_init_24 ?_
  refine x_iconst G (by decide) dX4_init_25 ?_
  refine x_put G xf4_2 lk_X4_22 (by omega) (show _ = 4 from hk.1) rfl dX4_init_26 ?_
  refine x_widen (by decide) (by decide) (?_ : xX Γ 14 1133 _ _ _ _ _ _)
  exact x_vret G Rt dX4_init_29 ⟨rfl, rfl, rfl, ⟨xst_same .., fun k hk9 => by rw [xst_ne _ (by omega), (h0.2) k (by omega), xsr_ne (by omega), xsr_ne (by omega)]⟩⟩
def tX6 (T : xT) : xT := xTr (tX3 182 (xTn (xTr (tX3 169 (xTn (xTr (tX5 168 (xTn (xTr (tX2 165 (xTn (xTr (tX2 162 (xTn (xTr (xTn (xTr (tX4 (xTn (xTr (tX0 (xTn (xTr (tX3 1 (xTn T 1 3 0)) 0 0 1) 14 0 0)) 0 1 14) 146 4 0)) 0 2 146) 161 12 2) 0 3 161) 162 2 0)) 0 4 162) 165 2 0)) 0 5 165) 168 5 0)) 0 6 168) 169 3 0)) 161 0 169) 182 3 0)) 161 1 182
set_option maxRecDepth 100000 in
set_option maxHeartbeats 4000000 in
theorem kX6_init (D : xD) (l : Launch) {T : xT} {M : xM} (hk : (T 0).1 = 6 ∧ (T 0).2.1 = 0) : xC D l uX6_init 4 101 194 10955 [xR 0] 1 T M (xPK 195 (tX6 T) (fun M2 => zer (vw M2 1) ∧ M2 14 1 = 0 ∧ M2 14 2 = 0 ∧ M2 146 2 = 0 ∧ zer (vw M2 169) ∧ zer (vw M2 182) ∧ M2 0 7 = 0)) := by
  refine x_met uX6_init (by decide) (Nat.le_of_ble_eq_true rfl) ?_
  intro Γ G Rt hI
  have hI := hI rfl
  have G : xG Γ RX6 cX6_init 2 4 101 194 10955 := G
  have Rt : xRt Γ (xPK 195 (tX6 T) (fun M2 => zer (vw M2 1) ∧ M2 14 1 = 0 ∧ M2 14 2 = 0 ∧ M2 146 2 = 0 ∧ zer (vw M2 169) ∧ zer (vw M2 182) ∧ M2 0 7 = 0)) none 194 10955 := Rt
  show xX Γ 0 0 1 T 0 [(0, xR 0)] [] M
  refine x_aload_n G 0 rfl rfl dX6_init_0 ?_
  refine x_objInit G ml_X6_1 inst_objInit code_objInit (by decide) (Nat.le_of_ble_eq_true rfl) dX6_init_1 ?_
  refine x_aload_n G 0 rfl rfl dX6_init_4 ?_
  refine x_new G xcd3 cl_X6_7 (by omega) (by decide) dX6_init_5 ?_
  refine x_dup G rfl dX6_init_8 ?_
  refine x_callIK G [xR 1, xR 0] hy_X3_init hi_X3_init rfl rfl ml_X6_9 (kX3_init _ _ 1 ⟨rfl, rfl⟩ (by omega)) (by decide) (by decide) (Nat.le_of_ble_eq_true rfl) dX6_init_9 (fun Mh0 h0 => ?_)
  refine x_putr G hI xf6_0 rfl (fun _ => ⟨rfl, rfl⟩) lw_X6_10 (by omega) (show _ = 6 from hk.1) rfl dX6_init_12 ?_
  refine x_aload_n G 0 rfl rfl dX6_init_15 ?_
  refine x_new G xcd0 cl_X6_16 (by omega) (by decide) dX6_init_16 ?_
  refine x_dup G rfl dX6_init_19 ?_
  refine x_callIK G [xR 14, xR 0] hy_X0_init hi_X0_init rfl rfl ml_X6_18 (kX0_init _ _ ⟨rfl, rfl⟩) (by decide) (by decide) (Nat.le_of_ble_eq_true rfl) dX6_init_20 (fun Mh1 h1 => ?_)
  refine x_putr G hI xf6_1 rfl (fun _ => ⟨rfl, rfl⟩) lw_X6_19 (by omega) (show _ = 6 from hk.1) rfl dX6_init_23 ?_
  refine x_aload_n G 0 rfl rfl dX6_init_26 ?_
  refine x_new G xcd4 cl_X6_23 (by omega) (by decide) dX6_init_27 ?_
  refine x_dup G rfl dX6_init_30 ?_
  refine x_callIK G [xR 146, xR 0] hy_X4_init hi_X4_init rfl rfl ml_X6_25 (kX4_init _ _ ⟨rfl, rfl⟩) (by decide) (by decide) (Nat.le_of_ble_eq_true rfl) dX6_init_31 (fun Mh2 h2 => ?_)
  refine x_putr G hI xf6_2 rfl (fun _ => ⟨rfl, rfl⟩) lw_X6_26 (by omega) (show _ = 6 from hk.1) rfl dX6_init_34 ?_
  refine x_aload_n G 0 rfl rfl dX6_init_37 ?_
  refine x_iconst G (by decide) dX6_init_38 ?_
  refine x_newR G (N := 2) rfl (by decide) cl_X6_7 (by omega) (by decide) dX6_init_39 ?_
  refine x_putr G hI xf6_3 rfl (fun _ => ⟨rfl, rfl⟩) lw_X6_30 (by omega) (show _ = 6 from hk.1) rfl dX6_init_42 ?_
  refine x_aload_n G 0 rfl rfl dX6_init_45 ?_
  refine x_new G xcd2 cl_X6_34 (by omega) (by decide) dX6_init_46 ?_
  refine x_dup G rfl dX6_init_49 ?_
  refine x_callIK G [xR 162, xR 0] hy_X2_init hi_X2_init rfl rfl ml_X6_36 (kX2_init _ _ 162 rfl (by omega)) (by decide) (by decide) (Nat.le_of_ble_eq_true rfl) dX6_init_50 (fun Mh3 h3 => ?_)
  refine x_putr G hI xf6_4 rfl (fun _ => ⟨rfl, rfl⟩) lw_X6_37 (by omega) (show _ = 6 from hk.1) rfl dX6_init_53 ?_
  refine x_aload_n G 0 rfl rfl dX6_init_56 ?_
  refine x_new G xcd2 cl_X6_34 (by omega) (by decide) dX6_init_57 ?_
  refine x_dup G rfl dX6_init_60 ?_
  refine x_callIK G [xR 165, xR 0] hy_X2_init hi_X2_init rfl rfl ml_X6_36 (kX2_init _ _ 165 rfl (by omega)) (by decide) (by decide) (Nat.le_of_ble_eq_true rfl) dX6_init_61 (fun Mh4 h4 => ?_)
  refine x_putr G hI xf6_5 rfl (fun _ => ⟨rfl, rfl⟩) lw_X6_41 (by omega) (show _ = 6 from hk.1) rfl dX6_init_64 ?_
  refine x_aload_n G 0 rfl rfl dX6_init_67 ?_
  refine x_new G xcd5 cl_X6_44 (by omega) (by decide) dX6_init_68 ?_
  refine x_dup G rfl dX6_init_71 ?_
  refine x_callIK G [xR 168, xR 0] hy_X5_init hi_X5_init rfl rfl ml_X6_46 (kX5_init _ _ 168) (by decide) (by decide) (Nat.le_of_ble_eq_true rfl) dX6_init_72 (fun Mh5 h5 => ?_)
  refine x_putr G hI xf6_6 rfl (fun _ => ⟨rfl, rfl⟩) lw_X6_47 (by omega) (show _ = 6 from hk.1) rfl dX6_init_75 ?_
  refine x_aload_n G 0 rfl rfl dX6_init_78 ?_
  refine x_iconst G (by decide) dX6_init_79 ?_
  refine x_put G xf6_7 lk_X6_51 (by omega) (show _ = 6 from hk.1) rfl dX6_init_80 ?_
  refine x_iconst G (by decide) dX6_init_83 ?_
  refine x_istore_n G [(1, xI 0), (0, xR 0)] rfl (by decide) rfl dX6_init_84 ?_
  refine x_iload_n G 0 rfl rfl dX6_init_85 ?_
  refine x_iconst G (by decide) dX6_init_86 ?_
  refine x_icmp_ge G 109 (by decide) dX6_init_87 (fun c87 => absurd c87 (by decide)) (fun _ => ?_)
  refine x_aload_n G 1 rfl rfl dX6_init_90 ?_
  refine x_get G (xR 161) xf6_3 lk_X6_30 (by omega) (show _ = 6 from hk.1) (Or.inr ⟨rfl, _, rfl, rfl⟩) dX6_init_91 ?_
  refine x_iload_n G 0 rfl rfl dX6_init_94 ?_
  refine x_new G xcd3 cl_X6_7 (by omega) (by decide) dX6_init_95 ?_
  refine x_dup G rfl dX6_init_98 ?_
  refine x_callIK G [xR 169, xI 0, xR 161] hy_X3_init hi_X3_init rfl rfl ml_X6_9 (kX3_init _ _ 169 ⟨rfl, rfl⟩ (by omega)) (by decide) (by decide) (Nat.le_of_ble_eq_true rfl) dX6_init_99 (fun Mh6 h6 => ?_)
  refine x_aast G (by omega) (by omega) rfl rfl (len := 2) rfl (by decide) (by decide) dX6_init_102 ?_
  refine x_iinc G [(1, xI 1), (0, xR 0)] 0 rfl (by decide) (by decide) rfl dX6_init_103 ?_
  refine x_goto G 85 (by decide) dX6_init_106 ?_
  refine x_iload_n G 0 rfl rfl dX6_init_85 ?_
  refine x_iconst G (by decide) dX6_init_86 ?_
  refine x_icmp_ge G 109 (by decide) dX6_init_87 (fun c87 => absurd c87 (by decide)) (fun _ => ?_)
  refine x_aload_n G 1 rfl rfl dX6_init_90 ?_
  refine x_get G (xR 161) xf6_3 lk_X6_30 (by omega) (show _ = 6 from hk.1) (Or.inr ⟨rfl, _, rfl, rfl⟩) dX6_init_91 ?_
  refine x_iload_n G 0 rfl rfl dX6_init_94 ?_
  refine x_new G xcd3 cl_X6_7 (by omega) (by decide) dX6_init_95 ?_
  refine x_dup G rfl dX6_init_98 ?_
  refine x_callIK G [xR 182, xI 1, xR 161] hy_X3_init hi_X3_init rfl rfl ml_X6_9 (kX3_init _ _ 182 ⟨rfl, rfl⟩ (by omega)) (by decide) (by decide) (Nat.le_of_ble_eq_true rfl) dX6_init_99 (fun Mh7 h7 => ?_)
  refine x_aast G (by omega) (by omega) rfl rfl (len := 2) rfl (by decide) (by decide) dX6_init_102 ?_
  refine x_iinc G [(1, xI 2), (0, xR 0)] 0 rfl (by decide) (by decide) rfl dX6_init_103 ?_
  refine x_goto G 85 (by decide) dX6_init_106 ?_
  refine x_iload_n G 0 rfl rfl dX6_init_85 ?_
  refine x_iconst G (by decide) dX6_init_86 ?_
  refine x_icmp_ge G 109 (by decide) dX6_init_87 (fun _ => ?_) (fun c87 => absurd c87 (by decide))
  refine x_widen (by decide) (by decide) (?_ : xX Γ 194 10955 _ _ _ _ _ _)
  exact x_vret G Rt dX6_init_109 ⟨rfl, rfl, rfl, ⟨zer_eq h0.1 (fun k hk8 hk9 => by rw [(h7.2) k (by omega), xsr_ne (by omega), (h6.2) k (by omega), xsr_ne (by omega), xst_ne _ (by omega), ((show ∀ k, k < 168 → Mh5 k = _ from fun k _ => congrFun h5 k)) k (by omega), xsr_ne (by omega), (h4) k (by omega), xsr_ne (by omega), (h3) k (by omega), xsr_ne (by omega), xsr_ne (by omega), (h2.2) k (by omega), xsr_ne (by omega), (h1.2.2) k (by omega), xsr_ne (by omega)]), by rw [(h7.2) 14 (by omega), xsr_ne (by omega), (h6.2) 14 (by omega), xsr_ne (by omega), xst_ne _ (by omega), ((show ∀ k, k < 168 → Mh5 k = _ from fun k _ => congrFun h5 k)) 14 (by omega), xsr_ne (by omega), (h4) 14 (by omega), xsr_ne (by omega), (h3) 14 (by omega), xsr_ne (by omega), xsr_ne (by omega), (h2.2) 14 (by omega), xsr_ne (by omega)]; exact h1.1, by rw [(h7.2) 14 (by omega), xsr_ne (by omega), (h6.2) 14 (by omega), xsr_ne (by omega), xst_ne _ (by omega), ((show ∀ k, k < 168 → Mh5 k = _ from fun k _ => congrFun h5 k)) 14 (by omega), xsr_ne (by omega), (h4) 14 (by omega), xsr_ne (by omega), (h3) 14 (by omega), xsr_ne (by omega), xsr_ne (by omega), (h2.2) 14 (by omega), xsr_ne (by omega)]; exact h1.2.1, by rw [(h7.2) 146 (by omega), xsr_ne (by omega), (h6.2) 146 (by omega), xsr_ne (by omega), xst_ne _ (by omega), ((show ∀ k, k < 168 → Mh5 k = _ from fun k _ => congrFun h5 k)) 146 (by omega), xsr_ne (by omega), (h4) 146 (by omega), xsr_ne (by omega), (h3) 146 (by omega), xsr_ne (by omega), xsr_ne (by omega)]; exact h2.1, zer_eq h6.1 (fun k hk8 hk9 => by rw [(h7.2) k (by omega), xsr_ne (by omega)]), zer_eq h7.1 (fun k hk8 hk9 => by rw []), by rw [(h7.2) 0 (by omega), xsr_ne (by omega), (h6.2) 0 (by omega), xsr_ne (by omega)]; exact xst_same ..⟩⟩
def tX7 (T : xT) : xT := xTr (xTn (xTr (xTn (xTr (xTn (xTr (xTn (xTr (xTn (xTr (xTn (xTr (xTn (xTr (xTn (xTr (xTn (xTr (xTn (xTr (xTn (xTr (xTn T 196 9 511) 195 0 196) 197 9 5110) 195 1 197) 198 9 1022) 195 3 198) 199 11 2) 195 4 199) 200 9 64) 195 5 200) 201 9 64) 195 6 201) 202 9 100) 195 7 202) 203 9 100) 195 9 203) 204 9 12) 195 11 204) 205 9 26) 195 12 205) 206 9 511) 195 13 206) 207 8 400) 195 17 207
set_option maxRecDepth 100000 in
set_option maxHeartbeats 4000000 in
theorem kX7_init (D : xD) (l : Launch) {T : xT} {M : xM} (hk : (T 195).1 = 7 ∧ (T 195).2.1 = 0) (hm0 : ∀ j, M 195 j = 0) : xC D l uX7_init 1 40 12 7922 [xR 195] 196 T M (xPK 208 (tX7 T) (fun M2 => (∀ V0, zer V0 → mrel (M2 196) V0) ∧ M2 195 2 = 0 ∧ M2 195 18 = 0 ∧ M2 195 10 = 0 ∧ (∀ j, M2 199 j = 0) ∧ ∀ k, k < 195 → M2 k = M k)) := by
  refine x_met uX7_init (by decide) (Nat.le_of_ble_eq_true rfl) ?_
  intro Γ G Rt hI
  have hI := hI rfl
  have G : xG Γ RX7 cX7_init 1 1 40 12 7922 := G
  have Rt : xRt Γ (xPK 208 (tX7 T) (fun M2 => (∀ V0, zer V0 → mrel (M2 196) V0) ∧ M2 195 2 = 0 ∧ M2 195 18 = 0 ∧ M2 195 10 = 0 ∧ (∀ j, M2 199 j = 0) ∧ ∀ k, k < 195 → M2 k = M k)) none 12 7922 := Rt
  show xX Γ 0 0 196 T 0 [(0, xR 195)] [] M
  refine x_aload_n G 0 rfl rfl dX7_init_0 ?_
  refine x_objInit G ml_X7_1 inst_objInit code_objInit (by decide) (Nat.le_of_ble_eq_true rfl) dX7_init_1 ?_
  refine x_aload_n G 0 rfl rfl dX7_init_4 ?_
  refine x_sipush G (by decide) dX7_init_5 ?_
  refine x_newi G (N := 511) rfl (by decide) ac_int (by omega) (by decide) dX7_init_8 ?_
  refine x_putr G hI xf7_0 rfl (fun _ => ⟨rfl, rfl⟩) lw_X7_7 (by omega) (show _ = 7 from hk.1) rfl dX7_init_10 ?_
  refine x_aload_n G 0 rfl rfl dX7_init_13 ?_
  refine x_sipush G (by decide) dX7_init_14 ?_
  refine x_newi G (N := 5110) rfl (by decide) ac_int (by omega) (by decide) dX7_init_17 ?_
  refine x_putr G hI xf7_1 rfl (fun _ => ⟨rfl, rfl⟩) lw_X7_13 (by omega) (show _ = 7 from hk.1) rfl dX7_init_19 ?_
  refine x_aload_n G 0 rfl rfl dX7_init_22 ?_
  refine x_sipush G (by decide) dX7_init_23 ?_
  refine x_newi G (N := 1022) rfl (by decide) ac_int (by omega) (by decide) dX7_init_26 ?_
  refine x_putr G hI xf7_3 rfl (fun _ => ⟨rfl, rfl⟩) lw_X7_16 (by omega) (show _ = 7 from hk.1) rfl dX7_init_28 ?_
  refine x_aload_n G 0 rfl rfl dX7_init_31 ?_
  refine x_iconst G (by decide) dX7_init_32 ?_
  refine x_newz G (N := 2) rfl (by decide) ac_boolean (by omega) (by decide) dX7_init_33 ?_
  refine x_putr G hI xf7_4 rfl (fun _ => ⟨rfl, rfl⟩) lw_X7_19 (by omega) (show _ = 7 from hk.1) rfl dX7_init_35 ?_
  refine x_aload_n G 0 rfl rfl dX7_init_38 ?_
  refine x_bipush G (by decide) dX7_init_39 ?_
  refine x_newi G (N := 64) rfl (by decide) ac_int (by omega) (by decide) dX7_init_41 ?_
  refine x_putr G hI xf7_5 rfl (fun _ => ⟨rfl, rfl⟩) lw_X7_23 (by omega) (show _ = 7 from hk.1) rfl dX7_init_43 ?_
  refine x_aload_n G 0 rfl rfl dX7_init_46 ?_
  refine x_bipush G (by decide) dX7_init_47 ?_
  refine x_newi G (N := 64) rfl (by decide) ac_int (by omega) (by decide) dX7_init_49 ?_
  refine x_putr G hI xf7_6 rfl (fun _ => ⟨rfl, rfl⟩) lw_X7_26 (by omega) (show _ = 7 from hk.1) rfl dX7_init_51 ?_
  refine x_aload_n G 0 rfl rfl dX7_init_54 ?_
  refine x_bipush G (by decide) dX7_init_55 ?_
  refine x_newi G (N := 100) rfl (by decide) ac_int (by omega) (by decide) dX7_init_57 ?_
  refine x_putr G hI xf7_7 rfl (fun _ => ⟨rfl, rfl⟩) lw_X7_29 (by omega) (show _ = 7 from hk.1) rfl dX7_init_59 ?_
  refine x_aload_n G 0 rfl rfl dX7_init_62 ?_
  refine x_bipush G (by decide) dX7_init_63 ?_
  refine x_newi G (N := 100) rfl (by decide) ac_int (by omega) (by decide) dX7_init_65 ?_
  refine x_putr G hI xf7_9 rfl (fun _ => ⟨rfl, rfl⟩) lw_X7_32 (by omega) (show _ = 7 from hk.1) rfl dX7_init_67 ?_
  refine x_aload_n G 0 rfl rfl dX7_init_70 ?_
  refine x_bipush G (by decide) dX7_init_71 ?_
  refine x_newi G (N := 12) rfl (by decide) ac_int (by omega) (by decide) dX7_init_73 ?_
  refine x_putr G hI xf7_11 rfl (fun _ => ⟨rfl, rfl⟩) lw_X7_35 (by omega) (show _ = 7 from hk.1) rfl dX7_init_75 ?_
  refine x_aload_n G 0 rfl rfl dX7_init_78 ?_
  refine x_bipush G (by decide) dX7_init_79 ?_
  refine x_newi G (N := 26) rfl (by decide) ac_int (by omega) (by decide) dX7_init_81 ?_
  refine x_putr G hI xf7_12 rfl (fun _ => ⟨rfl, rfl⟩) lw_X7_38 (by omega) (show _ = 7 from hk.1) rfl dX7_init_83 ?_
  refine x_aload_n G 0 rfl rfl dX7_init_86 ?_
  refine x_sipush G (by decide) dX7_init_87 ?_
  refine x_newi G (N := 511) rfl (by decide) ac_int (by omega) (by decide) dX7_init_90 ?_
  refine x_putr G hI xf7_13 rfl (fun _ => ⟨rfl, rfl⟩) lw_X7_41 (by omega) (show _ = 7 from hk.1) rfl dX7_init_92 ?_
  refine x_aload_n G 0 rfl rfl dX7_init_95 ?_
  refine x_sipush G (by decide) dX7_init_96 ?_
  refine x_newb G (N := 400) rfl (by decide) ac_byte (by omega) (by decide) dX7_init_99 ?_
  refine x_putr G hI xf7_17 rfl (fun _ => ⟨rfl, rfl⟩) lw_X7_44 (by omega) (show _ = 7 from hk.1) rfl dX7_init_101 ?_
  refine x_aload_n G 0 rfl rfl dX7_init_104 ?_
  refine x_get G (xR 196) xf7_0 lk_X7_7 (by omega) (show _ = 7 from hk.1) (Or.inr ⟨rfl, _, rfl, rfl⟩) dX7_init_105 ?_
  refine x_callSV G [] [xR 196] hy_X7_begins ht_X7_begins ml_X7_48 rfl rfl (kX7_begins _ _ 196 (by omega) rfl rfl) (by decide) (by decide) (Nat.le_of_ble_eq_true rfl) dX7_init_108 (fun Mh0 h0 => ?_)
  refine x_widen (by decide) (by decide) (?_ : xX Γ 12 7922 _ _ _ _ _ _)
  exact x_vret G Rt dX7_init_111 ⟨rfl, rfl, rfl, ⟨h0.1, by rw [h0.2 195 (by omega), xsr_ne (by omega), xsr_ne (by omega), xsr_ne (by omega), xsr_ne (by omega), xsr_ne (by omega), xsr_ne (by omega), xsr_ne (by omega), xsr_ne (by omega), xsr_ne (by omega), xsr_ne (by omega), xsr_ne (by omega), xsr_ne (by omega)]; exact hm0 2, by rw [h0.2 195 (by omega), xsr_ne (by omega), xsr_ne (by omega), xsr_ne (by omega), xsr_ne (by omega), xsr_ne (by omega), xsr_ne (by omega), xsr_ne (by omega), xsr_ne (by omega), xsr_ne (by omega), xsr_ne (by omega), xsr_ne (by omega), xsr_ne (by omega)]; exact hm0 18, by rw [h0.2 195 (by omega), xsr_ne (by omega), xsr_ne (by omega), xsr_ne (by omega), xsr_ne (by omega), xsr_ne (by omega), xsr_ne (by omega), xsr_ne (by omega), xsr_ne (by omega), xsr_ne (by omega), xsr_ne (by omega), xsr_ne (by omega), xsr_ne (by omega)]; exact hm0 10, fun j => by rw [h0.2 199 (by omega), xsr_ne (by omega), xsr_ne (by omega), xsr_ne (by omega), xsr_ne (by omega), xsr_ne (by omega), xsr_ne (by omega), xsr_ne (by omega), xsr_ne (by omega), xsr_self], fun k hk9 => by rw [h0.2 k (by omega), xsr_ne (by omega), xsr_ne (by omega), xsr_ne (by omega), xsr_ne (by omega), xsr_ne (by omega), xsr_ne (by omega), xsr_ne (by omega), xsr_ne (by omega), xsr_ne (by omega), xsr_ne (by omega), xsr_ne (by omega), xsr_ne (by omega)]⟩⟩
def xT0 : xT := fun _ => (0, 0, fun _ => none)
def tAll : xT := tX7 (xTn (tX6 (xTn xT0 0 6 0)) 195 7 0)
set_option maxRecDepth 1000000 in
theorem tAll_ok : LayOK 208 tAll := ⟨rfl, by decide +kernel⟩
