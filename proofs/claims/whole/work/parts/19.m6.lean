theorem seq_trans {V W X : xM} (h : seq V W) (h2 : seq W X) : seq V X := by
  obtain ⟨⟨a1, a2, a3⟩, a4, a5⟩ := h
  obtain ⟨⟨b1, b2, b3⟩, b4, b5⟩ := h2
  refine ⟨⟨a1.trans b1, a2.trans b2, a3.trans b3⟩, fun s hs => ⟨(a4 s hs).1.trans (b4 s hs).1, (a4 s hs).2.trans (b4 s hs).2⟩, fun i hi => ?_⟩
  have c1 := a5 i (by omega)
  have c2 := b5 i hi
  omega
theorem seqr_trans {V W X : xM} (h : seqr V W) (h2 : seqr W X) : seqr V X := ⟨seq_trans h.1 h2.1, fun i hi => (h.2 i (by have := h2.1.1.1; omega)).trans (h2.2 i hi)⟩
theorem seqr_refl (V : xM) : seqr V V := ⟨⟨⟨rfl, rfl, rfl⟩, fun _ _ => ⟨rfl, rfl⟩, fun _ _ => ⟨rfl, rfl, rfl, rfl, rfl, rfl⟩⟩, fun _ _ => rfl⟩
theorem shw_seqr {M : xM} {a : Nat} {V : xM} (h : shw M a V) : seqr (vw M a) V := by
  have e : ∀ k, k < 13 → k ≠ 2 → k ≠ 3 → vw M a k = V k := h
  refine ⟨⟨?_, fun s _ => ?_, fun i _ => ?_⟩, fun i _ => ?_⟩
  · rw [e 0 (by decide) (by decide) (by decide)]; exact ⟨rfl, rfl, rfl⟩
  · rw [e 11 (by decide) (by decide) (by decide), e 12 (by decide) (by decide) (by decide)]; exact ⟨rfl, rfl⟩
  · rw [e 4 (by decide) (by decide) (by decide), e 5 (by decide) (by decide) (by decide), e 6 (by decide) (by decide) (by decide), e 7 (by decide) (by decide) (by decide), e 8 (by decide) (by decide) (by decide), e 9 (by decide) (by decide) (by decide)]
    exact ⟨rfl, rfl, rfl, rfl, rfl, rfl⟩
  · rw [e 10 (by decide) (by decide) (by decide)]
/-- the states ahead of the last acts, the last first; the row of the j-th of them -/
def v0 : xM := fun _ _ => 0
abbrev hrow (M : xM) (j : Nat) : Nat := ((M 14 1 + 9 - (j : Int)) % 10).toNat
abbrev Hst (M : xM) (Hs : List xM) : Prop := (0 ≤ M 14 1 ∧ M 14 1 < 10) ∧ M 14 2 = (Hs.length : Int) ∧ Hs.length ≤ 10 ∧ ∀ j : Nat, j < Hs.length → seqr (vw M (16 + 13 * hrow M j)) (Hs.getD j v0)
theorem hist_st {n : Nat} {T : xT} (hY : LayOK n T) {j : Nat} (hj : j < 10) : StL n T (16 + 13 * j) := by
  have : j = 0 ∨ j = 1 ∨ j = 2 ∨ j = 3 ∨ j = 4 ∨ j = 5 ∨ j = 6 ∨ j = 7 ∨ j = 8 ∨ j = 9 := by omega
  rcases this with rfl | rfl | rfl | rfl | rfl | rfl | rfl | rfl | rfl | rfl
  · exact ly_st16 hY
  · exact ly_st29 hY
  · exact ly_st42 hY
  · exact ly_st55 hY
  · exact ly_st68 hY
  · exact ly_st81 hY
  · exact ly_st94 hY
  · exact ly_st107 hY
  · exact ly_st120 hY
  · exact ly_st133 hY
theorem hist_rd : ∀ j, j < 10 → (cR.getD 15 []).getD j none = some (16 + 13 * j) := by decide
theorem hist_r {n : Nat} {T : xT} (hY : LayOK n T) {j : Nat} (hj : j < 10) : (T 15).2.2 j = some (16 + 13 * j) := by
  rw [ly_r hY 15 j (by decide) (by omega)]
  exact hist_rd j hj
theorem vw_cg {M M2 : xM} {a : Nat} (h : ∀ k, k < 13 → M2 (a + k) = M (a + k)) {V : xM} (hs : seqr (vw M a) V) : seqr (vw M2 a) V := by
  have e : ∀ k, k < 13 → vw M2 a k = vw M a k := h
  refine ⟨⟨?_, fun s hs2 => ?_, fun i hi => ?_⟩, fun i hi => ?_⟩
  · rw [e 0 (by decide)]; exact hs.1.1
  · rw [e 11 (by decide), e 12 (by decide)]; exact hs.1.2.1 s hs2
  · rw [e 4 (by decide), e 5 (by decide), e 6 (by decide), e 7 (by decide), e 8 (by decide), e 9 (by decide)]; exact hs.1.2.2 i hi
  · rw [e 10 (by decide)]; exact hs.2 i hi
theorem hst_add {M M1 M2 : xM} {V : xM} {Hs : List xM} (h : Hst M Hs) (hc : seqr (vw M1 (16 + 13 * (M 14 1).toNat)) V) (hf : fro (16 + 13 * (M 14 1).toNat) M M1) (hr : ∀ q, q ≠ 14 → M2 q = M1 q) (h1 : M2 14 1 = if M 14 1 + 1 < 10 then M 14 1 + 1 else 0) (h2 : M2 14 2 = if 10 < M 14 2 + 1 then 10 else M 14 2 + 1) : Hst M2 ((V :: Hs).take 10) := by
  obtain ⟨g1, g2, g3, g4⟩ := h
  have el : ((V :: Hs).take 10).length = min 10 (Hs.length + 1) := by rw [List.length_take]; rfl
  refine ⟨by rw [h1]; split <;> omega, by rw [h2, el]; split <;> omega, by omega, fun j hj => ?_⟩
  rw [el] at hj
  have eg : ((V :: Hs).take 10).getD j v0 = (V :: Hs).getD j v0 := by
    simp only [List.getD]
    rw [List.getElem?_take_of_lt (by omega)]
  rw [eg]
  have er : hrow M2 j = if j = 0 then (M 14 1).toNat else hrow M (j - 1) := by
    unfold hrow
    rw [h1]
    split <;> split <;> omega
  rw [er]
  cases j with
  | zero =>
    rw [if_pos rfl]
    exact vw_cg (fun k hk => by rw [hr _ (by omega)]) hc
  | succ j =>
    rw [if_neg (by omega)]
    have g := g4 j (by omega)
    have hne : hrow M j ≠ (M 14 1).toNat := by unfold hrow; omega
    show seqr (vw M2 (16 + 13 * hrow M j)) (Hs.getD j v0)
    refine vw_cg (fun k hk => ?_) g
    have hb : hrow M j < 10 := by unfold hrow; omega
    rw [hr _ (by omega), hf _ (by omega)]
theorem shw_fr {M M2 : xM} {a : Nat} {V : xM} (h : shw M a V) (h2 : ∀ k, k < 13 → k ≠ 2 → k ≠ 3 → M2 (a + k) = M (a + k)) : shw M2 a V := fun k g1 g2 g3 => (h2 k g1 g2 g3).trans (h k g1 g2 g3)
set_option maxRecDepth 100000 in
set_option maxHeartbeats 4000000 in
theorem kX0_add (D : xD) (l : Launch) {n : Nat} {T : xT} {M : xM} (V : xM) (Hs : List xM) (hY : LayOK n T) (hV : shw M 1 V) (hv : VOK V) (hH : Hst M Hs) : xC D l uX0_add 1 40 0 0 [xR 14, xR 1] n T M (xPV n T (fun M2 => Hst M2 ((V :: Hs).take 10) ∧ (∀ q, (q ≠ 14 ∧ (q < 16 ∨ 146 ≤ q)) → M2 q = M q))) := by
  refine x_met uX0_add (by decide) (Nat.le_of_ble_eq_true rfl) ?_
  intro Γ G Rt _
  have G : xG Γ RX0 cX0_add 2 1 40 0 0 := G
  have Rt : xRt Γ (xPV n T (fun M2 => Hst M2 ((V :: Hs).take 10) ∧ (∀ q, (q ≠ 14 ∧ (q < 16 ∨ 146 ≤ q)) → M2 q = M q))) none 0 0 := Rt
  show xX Γ 0 0 n T 0 [(0, xR 14), (1, xR 1)] [] M
  have hH1 := hH.1
  have hH2 := hH.2.1
  have hH3 := hH.2.2.1
  refine x_aload_n G 0 rfl rfl dX0_add_0 ?_
  refine x_get G (xR 15) xf0_0 lk_X0_11 (ly_n hY 14 (by decide)) (ly_k hY 14 (by decide)) (Or.inr ⟨rfl, _, (ly_r hY 14 0 (by decide) (by decide)), rfl⟩) dX0_add_1 ?_
  refine x_aload_n G 0 rfl rfl dX0_add_4 ?_
  refine x_get G (xI (M 14 1)) xf0_1 lk_X0_17 (ly_n hY 14 (by decide)) (ly_k hY 14 (by decide)) (Or.inl ⟨rfl, rfl⟩) dX0_add_5 ?_
  refine x_aald G (b := (16 + 13 * (M 14 1).toNat)) (ly_n hY 15 (by decide)) (ly_k hY 15 (by decide)) (show _ = 10 from ly_l hY 15 (by decide)) (by omega) (by omega) (hist_r hY (by omega)) dX0_add_8 ?_
  refine x_aload_n G 1 rfl rfl dX0_add_9 ?_
  refine x_callVV G [] [xR 1] rfl (by decide) (st_n (hist_st hY (by omega)) 0 (by decide)) (st_k (hist_st hY (by omega)) 0 (by decide)) hy_X3_copyFrom hi_X3_copyFrom hs_X3_copyFrom ml_X0_25 rfl rfl (kX3_copyFrom _ _ (16 + 13 * (M 14 1).toNat) 1 V (hist_st hY (by omega)) (ly_st1 hY) (by omega) hV hv) (by decide) (by decide) (Nat.le_of_ble_eq_true rfl) dX0_add_10 (fun M10 h10 => ?_)
  refine x_aload_n G 0 rfl rfl dX0_add_13 ?_
  refine x_aload_n G 0 rfl rfl dX0_add_14 ?_
  refine x_get G (xI (M10 14 1)) xf0_1 lk_X0_17 (ly_n hY 14 (by decide)) (ly_k hY 14 (by decide)) (Or.inl ⟨rfl, rfl⟩) dX0_add_15 ?_
  rw [show M10 14 1 = (M 14 1) from (congrFun (h10.2 14 (by omega)) 1)]
  refine x_iconst G (by decide) dX0_add_18 ?_
  refine x_iadd G (by omega) dX0_add_19 ?_
  refine x_bipush G (by decide) dX0_add_20 ?_
  refine x_icmp_ge G 34 (by decide) dX0_add_22 (fun c22 => ?_) (fun c22 => ?_)
  · skip
    refine x_iconst G (by decide) dX0_add_34 ?_
    refine x_put G  xf0_1 lk_X0_17 (ly_n hY 14 (by decide)) (ly_k hY 14 (by decide)) rfl dX0_add_35 ?_
    refine x_aload_n G 0 rfl rfl dX0_add_38 ?_
    refine x_aload_n G 0 rfl rfl dX0_add_39 ?_
    refine x_get G (xI ((xst M10 14 1 0) 14 2)) xf0_2 lk_X0_21 (ly_n hY 14 (by decide)) (ly_k hY 14 (by decide)) (Or.inl ⟨rfl, rfl⟩) dX0_add_40 ?_
    rw [show (xst M10 14 1 0) 14 2 = (M 14 2) from ((xst_nq (by omega)).trans (congrFun (h10.2 14 (by omega)) 2))]
    refine x_iconst G (by decide) dX0_add_43 ?_
    refine x_iadd G (by omega) dX0_add_44 ?_
    refine x_bipush G (by decide) dX0_add_45 ?_
    refine x_min G ml_X0_29 stat_min ini_Math code_min (by decide) (by decide) (Nat.le_of_ble_eq_true rfl) dX0_add_47 ?_
    refine x_put G  xf0_2 lk_X0_21 (ly_n hY 14 (by decide)) (ly_k hY 14 (by decide)) rfl dX0_add_50 ?_
    exact x_vret G Rt dX0_add_53 ⟨rfl, rfl, rfl, ⟨hst_add hH h10.1 h10.2 (fun q hq => by simp (disch := omega) only [xst_row]) (by simp [xst_eq] <;> omega) (by simp [xst_eq] <;> omega), fun q hq => by simp (disch := omega) only [xst_row]; exact h10.2 q (by omega)⟩⟩
  · skip
    refine x_aload_n G 0 rfl rfl dX0_add_25 ?_
    refine x_get G (xI (M10 14 1)) xf0_1 lk_X0_17 (ly_n hY 14 (by decide)) (ly_k hY 14 (by decide)) (Or.inl ⟨rfl, rfl⟩) dX0_add_26 ?_
    rw [show M10 14 1 = (M 14 1) from (congrFun (h10.2 14 (by omega)) 1)]
    refine x_iconst G (by decide) dX0_add_29 ?_
    refine x_iadd G (by omega) dX0_add_30 ?_
    refine x_goto G 35 (by decide) dX0_add_31 ?_
    refine x_put G  xf0_1 lk_X0_17 (ly_n hY 14 (by decide)) (ly_k hY 14 (by decide)) rfl dX0_add_35 ?_
    refine x_aload_n G 0 rfl rfl dX0_add_38 ?_
    refine x_aload_n G 0 rfl rfl dX0_add_39 ?_
    refine x_get G (xI ((xst M10 14 1 ((M 14 1) + 1)) 14 2)) xf0_2 lk_X0_21 (ly_n hY 14 (by decide)) (ly_k hY 14 (by decide)) (Or.inl ⟨rfl, rfl⟩) dX0_add_40 ?_
    rw [show (xst M10 14 1 ((M 14 1) + 1)) 14 2 = (M 14 2) from ((xst_nq (by omega)).trans (congrFun (h10.2 14 (by omega)) 2))]
    refine x_iconst G (by decide) dX0_add_43 ?_
    refine x_iadd G (by omega) dX0_add_44 ?_
    refine x_bipush G (by decide) dX0_add_45 ?_
    refine x_min G ml_X0_29 stat_min ini_Math code_min (by decide) (by decide) (Nat.le_of_ble_eq_true rfl) dX0_add_47 ?_
    refine x_put G  xf0_2 lk_X0_21 (ly_n hY 14 (by decide)) (ly_k hY 14 (by decide)) rfl dX0_add_50 ?_
    exact x_vret G Rt dX0_add_53 ⟨rfl, rfl, rfl, ⟨hst_add hH h10.1 h10.2 (fun q hq => by simp (disch := omega) only [xst_row]) (by simp [xst_eq] <;> omega) (by simp [xst_eq] <;> omega), fun q hq => by simp (disch := omega) only [xst_row]; exact h10.2 q (by omega)⟩⟩
theorem hst_sub {M M2 : xM} {W : xM} {Hs : List xM} (h : Hst M (W :: Hs)) (h1 : M2 14 1 = if 0 < M 14 1 then M 14 1 - 1 else 9) (h2 : M2 14 2 = M 14 2 - 1) (hr : ∀ q, 16 ≤ q → M2 q = M q) : Hst M2 Hs := by
  obtain ⟨g1, g2, g3, g4⟩ := h
  have el : (W :: Hs).length = Hs.length + 1 := rfl
  refine ⟨by rw [h1]; split <;> omega, by omega, by omega, fun j hj => ?_⟩
  have g := g4 (j + 1) (by omega)
  have er : hrow M2 j = hrow M (j + 1) := by
    unfold hrow
    rw [h1]
    split <;> omega
  rw [er]
  exact vw_cg (fun k hk => hr _ (by omega)) g
set_option maxRecDepth 100000 in
set_option maxHeartbeats 4000000 in
theorem kX0_restore (D : xD) (l : Launch) {n : Nat} {T : xT} {M : xM} (Hs : List xM) (hY : LayOK n T) (hH : Hst M Hs) (hv : ∀ W ∈ Hs, VOK W) : xC D l uX0_restore 1 22 0 0 [xR 14, xR 1] n T M (xPI n T (fun z M2 => (z = 0 ∧ Hs = [] ∧ M2 = M) ∨ (z = 1 ∧ ∃ W Hs2, Hs = W :: Hs2 ∧ seqr (vw M2 1) W ∧ Hst M2 Hs2 ∧ ∀ q, q ≠ 14 → (q < 1 ∨ 14 ≤ q) → M2 q = M q))) := by
  refine x_met uX0_restore (by decide) (Nat.le_of_ble_eq_true rfl) ?_
  intro Γ G Rt _
  have G : xG Γ RX0 cX0_restore 2 1 22 0 0 := G
  have Rt : xRt Γ (xPI n T (fun z M2 => (z = 0 ∧ Hs = [] ∧ M2 = M) ∨ (z = 1 ∧ ∃ W Hs2, Hs = W :: Hs2 ∧ seqr (vw M2 1) W ∧ Hst M2 Hs2 ∧ ∀ q, q ≠ 14 → (q < 1 ∨ 14 ≤ q) → M2 q = M q))) (some .boolean) 0 0 := Rt
  show xX Γ 0 0 n T 0 [(0, xR 14), (1, xR 1)] [] M
  have hH1 := hH.1
  have hH2 := hH.2.1
  have hH3 := hH.2.2.1
  refine x_aload_n G 0 rfl rfl dX0_restore_0 ?_
  refine x_get G (xI (M 14 2)) xf0_2 lk_X0_21 (ly_n hY 14 (by decide)) (ly_k hY 14 (by decide)) (Or.inl ⟨rfl, rfl⟩) dX0_restore_1 ?_
  refine x_if_ne G 9 (by decide) dX0_restore_4 (fun c4 => ?_) (fun c4 => ?_)
  · skip
    obtain ⟨W, Hs2, rfl⟩ : ∃ W Hs2, Hs = W :: Hs2 := (by cases Hs with | nil => exact absurd hH2 c4 | cons W Hs2 => exact ⟨W, Hs2, rfl⟩)
    have hln : (W :: Hs2).length = Hs2.length + 1 := rfl
    have hr0 := hH.2.2.2 0 (by omega)
    refine x_aload_n G 0 rfl rfl dX0_restore_9 ?_
    refine x_aload_n G 0 rfl rfl dX0_restore_10 ?_
    refine x_get G (xI (M 14 1)) xf0_1 lk_X0_17 (ly_n hY 14 (by decide)) (ly_k hY 14 (by decide)) (Or.inl ⟨rfl, rfl⟩) dX0_restore_11 ?_
    refine x_if_le G 26 (by decide) dX0_restore_14 (fun c14 => ?_) (fun c14 => ?_)
    · skip
      have eb : hrow M 0 = 9 := (by unfold hrow; omega)
      rw [eb] at hr0
      refine x_bipush G (by decide) dX0_restore_26 ?_
      refine x_put G  xf0_1 lk_X0_17 (ly_n hY 14 (by decide)) (ly_k hY 14 (by decide)) rfl dX0_restore_28 ?_
      refine x_aload_n G 0 rfl rfl dX0_restore_31 ?_
      refine x_dup G rfl dX0_restore_32 ?_
      refine x_get G (xI ((xst M 14 1 9) 14 2)) xf0_2 lk_X0_21 (ly_n hY 14 (by decide)) (ly_k hY 14 (by decide)) (Or.inl ⟨rfl, rfl⟩) dX0_restore_33 ?_
      rw [show (xst M 14 1 9) 14 2 = (M 14 2) from (xst_nq (by omega))]
      refine x_iconst G (by decide) dX0_restore_36 ?_
      refine x_isub G (by omega) dX0_restore_37 ?_
      refine x_put G  xf0_2 lk_X0_21 (ly_n hY 14 (by decide)) (ly_k hY 14 (by decide)) rfl dX0_restore_38 ?_
      refine x_aload_n G 1 rfl rfl dX0_restore_41 ?_
      refine x_aload_n G 0 rfl rfl dX0_restore_42 ?_
      refine x_get G (xR 15) xf0_0 lk_X0_11 (ly_n hY 14 (by decide)) (ly_k hY 14 (by decide)) (Or.inr ⟨rfl, _, (ly_r hY 14 0 (by decide) (by decide)), rfl⟩) dX0_restore_43 ?_
      refine x_aload_n G 0 rfl rfl dX0_restore_46 ?_
      refine x_get G (xI ((xst (xst M 14 1 9) 14 2 ((M 14 2) - 1)) 14 1)) xf0_1 lk_X0_17 (ly_n hY 14 (by decide)) (ly_k hY 14 (by decide)) (Or.inl ⟨rfl, rfl⟩) dX0_restore_47 ?_
      rw [show (xst (xst M 14 1 9) 14 2 ((M 14 2) - 1)) 14 1 = 9 from ((xst_nq (by omega)).trans (xst_same ..))]
      refine x_aald G (b := (16 + 13 * 9)) (ly_n hY 15 (by decide)) (ly_k hY 15 (by decide)) (show _ = 10 from ly_l hY 15 (by decide)) (by omega) (by omega) (hist_r hY (by omega)) dX0_restore_50 ?_
      refine x_callVV G [] [xR (16 + 13 * 9)] rfl (by decide) (st_n (ly_st1 hY) 0 (by decide)) (st_k (ly_st1 hY) 0 (by decide)) hy_X3_copyFrom hi_X3_copyFrom hs_X3_copyFrom ml_X0_25 rfl rfl (kX3_copyFrom _ _ 1 (16 + 13 * 9) (vw (xst (xst M 14 1 9) 14 2 ((M 14 2) - 1)) (16 + 13 * 9)) (ly_st1 hY) (hist_st hY (by omega)) (by omega) (shw_self _ _) (seq_ok (vw_cg (M := M) (fun k hk => by rw [xst_row (by omega), xst_row (by omega)]) hr0).1 (hv W (by simp)))) (by decide) (by decide) (Nat.le_of_ble_eq_true rfl) dX0_restore_51 (fun M51 h51 => ?_)
      refine x_iconst G (by decide) dX0_restore_54 ?_
      exact x_zret G (by omega) Rt dX0_restore_55 ⟨rfl, rfl, _, rfl, Or.inr ⟨rfl, W, Hs2, rfl, seqr_trans h51.1 (vw_cg (M := M) (fun k hk => by rw [xst_row (by omega), xst_row (by omega)]) hr0), hst_sub hH (by rw [h51.2 14 (by omega)]; simp [xst_eq]; omega) (by rw [h51.2 14 (by omega)]; simp [xst_eq]) (fun q hq => by rw [h51.2 q (by omega), xst_row (by omega), xst_row (by omega)]), fun q h1 h2 => by rw [h51.2 q (by omega), xst_row (by omega), xst_row (by omega)]⟩⟩
    · skip
      have eb : hrow M 0 = ((M 14 1) - 1).toNat := (by unfold hrow; omega)
      rw [eb] at hr0
      refine x_aload_n G 0 rfl rfl dX0_restore_17 ?_
      refine x_get G (xI (M 14 1)) xf0_1 lk_X0_17 (ly_n hY 14 (by decide)) (ly_k hY 14 (by decide)) (Or.inl ⟨rfl, rfl⟩) dX0_restore_18 ?_
      refine x_iconst G (by decide) dX0_restore_21 ?_
      refine x_isub G (by omega) dX0_restore_22 ?_
      refine x_goto G 28 (by decide) dX0_restore_23 ?_
      refine x_put G  xf0_1 lk_X0_17 (ly_n hY 14 (by decide)) (ly_k hY 14 (by decide)) rfl dX0_restore_28 ?_
      refine x_aload_n G 0 rfl rfl dX0_restore_31 ?_
      refine x_dup G rfl dX0_restore_32 ?_
      refine x_get G (xI ((xst M 14 1 ((M 14 1) - 1)) 14 2)) xf0_2 lk_X0_21 (ly_n hY 14 (by decide)) (ly_k hY 14 (by decide)) (Or.inl ⟨rfl, rfl⟩) dX0_restore_33 ?_
      rw [show (xst M 14 1 ((M 14 1) - 1)) 14 2 = (M 14 2) from (xst_nq (by omega))]
      refine x_iconst G (by decide) dX0_restore_36 ?_
      refine x_isub G (by omega) dX0_restore_37 ?_
      refine x_put G  xf0_2 lk_X0_21 (ly_n hY 14 (by decide)) (ly_k hY 14 (by decide)) rfl dX0_restore_38 ?_
      refine x_aload_n G 1 rfl rfl dX0_restore_41 ?_
      refine x_aload_n G 0 rfl rfl dX0_restore_42 ?_
      refine x_get G (xR 15) xf0_0 lk_X0_11 (ly_n hY 14 (by decide)) (ly_k hY 14 (by decide)) (Or.inr ⟨rfl, _, (ly_r hY 14 0 (by decide) (by decide)), rfl⟩) dX0_restore_43 ?_
      refine x_aload_n G 0 rfl rfl dX0_restore_46 ?_
      refine x_get G (xI ((xst (xst M 14 1 ((M 14 1) - 1)) 14 2 ((M 14 2) - 1)) 14 1)) xf0_1 lk_X0_17 (ly_n hY 14 (by decide)) (ly_k hY 14 (by decide)) (Or.inl ⟨rfl, rfl⟩) dX0_restore_47 ?_
      rw [show (xst (xst M 14 1 ((M 14 1) - 1)) 14 2 ((M 14 2) - 1)) 14 1 = ((M 14 1) - 1) from ((xst_nq (by omega)).trans (xst_same ..))]
      refine x_aald G (b := (16 + 13 * ((M 14 1) - 1).toNat)) (ly_n hY 15 (by decide)) (ly_k hY 15 (by decide)) (show _ = 10 from ly_l hY 15 (by decide)) (by omega) (by omega) (hist_r hY (by omega)) dX0_restore_50 ?_
      refine x_callVV G [] [xR (16 + 13 * ((M 14 1) - 1).toNat)] rfl (by decide) (st_n (ly_st1 hY) 0 (by decide)) (st_k (ly_st1 hY) 0 (by decide)) hy_X3_copyFrom hi_X3_copyFrom hs_X3_copyFrom ml_X0_25 rfl rfl (kX3_copyFrom _ _ 1 (16 + 13 * ((M 14 1) - 1).toNat) (vw (xst (xst M 14 1 ((M 14 1) - 1)) 14 2 ((M 14 2) - 1)) (16 + 13 * ((M 14 1) - 1).toNat)) (ly_st1 hY) (hist_st hY (by omega)) (by omega) (shw_self _ _) (seq_ok (vw_cg (M := M) (fun k hk => by rw [xst_row (by omega), xst_row (by omega)]) hr0).1 (hv W (by simp)))) (by decide) (by decide) (Nat.le_of_ble_eq_true rfl) dX0_restore_51 (fun M51 h51 => ?_)
      refine x_iconst G (by decide) dX0_restore_54 ?_
      exact x_zret G (by omega) Rt dX0_restore_55 ⟨rfl, rfl, _, rfl, Or.inr ⟨rfl, W, Hs2, rfl, seqr_trans h51.1 (vw_cg (M := M) (fun k hk => by rw [xst_row (by omega), xst_row (by omega)]) hr0), hst_sub hH (by rw [h51.2 14 (by omega)]; simp [xst_eq]; omega) (by rw [h51.2 14 (by omega)]; simp [xst_eq]) (fun q hq => by rw [h51.2 q (by omega), xst_row (by omega), xst_row (by omega)]), fun q h1 h2 => by rw [h51.2 q (by omega), xst_row (by omega), xst_row (by omega)]⟩⟩
  · skip
    refine x_iconst G (by decide) dX0_restore_7 ?_
    exact x_zret G (by omega) Rt dX0_restore_8 ⟨rfl, rfl, _, rfl, Or.inl ⟨rfl, by cases Hs with | nil => rfl | cons W Hs2 => (have : (W :: Hs2).length = Hs2.length + 1 := rfl; omega), rfl⟩⟩
set_option maxRecDepth 100000 in
set_option maxHeartbeats 4000000 in
theorem kX0_clear (D : xD) (l : Launch) {n : Nat} {T : xT} {M : xM}  (hY : LayOK n T) : xC D l uX0_clear 0 0 0 0 [xR 14] n T M (xPV n T (fun M2 => M2 = xst M 14 2 0)) := by
  refine x_met uX0_clear (by decide) (Nat.le_of_ble_eq_true rfl) ?_
  intro Γ G Rt _
  have G : xG Γ RX0 cX0_clear 1 0 0 0 0 := G
  have Rt : xRt Γ (xPV n T (fun M2 => M2 = xst M 14 2 0)) none 0 0 := Rt
  show xX Γ 0 0 n T 0 [(0, xR 14)] [] M
  refine x_aload_n G 0 rfl rfl dX0_clear_0 ?_
  refine x_iconst G (by decide) dX0_clear_1 ?_
  refine x_put G  xf0_2 lk_X0_21 (ly_n hY 14 (by decide)) (ly_k hY 14 (by decide)) rfl dX0_clear_2 ?_
  exact x_vret G Rt dX0_clear_5 ⟨rfl, rfl, rfl, rfl⟩
