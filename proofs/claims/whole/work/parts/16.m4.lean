abbrev fro (a : Nat) (M M2 : xM) : Prop := ∀ q, (q < a ∨ a + 13 ≤ q) → M2 q = M q
abbrev zer (V : xM) : Prop := (V 0 10 = 0 ∧ V 0 11 = 0 ∧ V 0 12 = 1) ∧ ∀ s, s < 4 → V 11 s = 4 ∧ V 12 s = 0
theorem four {P : Nat → Prop} (h0 : P 0) (h1 : P 1) (h2 : P 2) (h3 : P 3) : ∀ s, s < 4 → P s := fun s hs => by
  have : s = 0 ∨ s = 1 ∨ s = 2 ∨ s = 3 := by omega
  rcases this with rfl | rfl | rfl | rfl <;> assumption
set_option maxRecDepth 100000 in
set_option maxHeartbeats 4000000 in
theorem kX3_reset (D : xD) (l : Launch) {n : Nat} {T : xT} {M : xM} (a : Nat) (hS : StL n T a) : xC D l uX3_reset 0 0 0 0 [xR a] n T M (xPV n T (fun M2 => zer (vw M2 a) ∧ fro a M M2)) := by
  refine x_met uX3_reset (by decide) (Nat.le_of_ble_eq_true rfl) ?_
  intro Γ G Rt _
  have G : xG Γ RX3 cX3_reset 2 0 0 0 0 := G
  have Rt : xRt Γ (xPV n T (fun M2 => zer (vw M2 a) ∧ fro a M M2)) none 0 0 := Rt
  show xX Γ 0 0 n T 0 [(0, xR a)] [] M
  refine x_aload_n G 0 rfl rfl dX3_reset_0 ?_
  refine x_iconst G (by decide) dX3_reset_1 ?_
  refine x_put G  xf3_10 lk_X3_50 (st_n hS 0 (by decide)) (st_k hS 0 (by decide)) rfl dX3_reset_2 ?_
  refine x_aload_n G 0 rfl rfl dX3_reset_5 ?_
  refine x_iconst G (by decide) dX3_reset_6 ?_
  refine x_put G  xf3_11 lk_X3_54 (st_n hS 0 (by decide)) (st_k hS 0 (by decide)) rfl dX3_reset_7 ?_
  refine x_aload_n G 0 rfl rfl dX3_reset_10 ?_
  refine x_iconst G (by decide) dX3_reset_11 ?_
  refine x_put G  xf3_12 lk_X3_57 (st_n hS 0 (by decide)) (st_k hS 0 (by decide)) rfl dX3_reset_12 ?_
  refine x_iconst G (by decide) dX3_reset_15 ?_
  refine x_istore_n G [(1, xI 0), (0, xR a)] rfl (by decide) rfl dX3_reset_16 ?_
  refine x_iload_n G 0 rfl rfl dX3_reset_17 ?_
  refine x_iconst G (by decide) dX3_reset_18 ?_
  refine x_icmp_ge G 42 (by decide) dX3_reset_19 (fun c19 => absurd c19 (by decide)) (fun _ => ?_)
  refine x_aload_n G 1 rfl rfl dX3_reset_22 ?_
  refine x_get G (xR (a + 11)) xf3_8 lk_X3_41 (st_n hS 0 (by decide)) (st_k hS 0 (by decide)) (Or.inr ⟨rfl, _, (st_r hS 0 8 (by decide) (by decide)), rfl⟩) dX3_reset_23 ?_
  refine x_iload_n G 0 rfl rfl dX3_reset_26 ?_
  refine x_iconst G (by decide) dX3_reset_27 ?_
  refine x_iast G (st_n hS 11 (by decide)) (st_k hS 11 (by decide)) (show _ = 4 from st_l hS 11 (by decide)) (by omega) (by omega) dX3_reset_28 ?_
  show xX Γ 0 0 n T 29 [(1, xI 0), (0, xR a)] [] (xst (xst (xst (xst M a 10 0) a 11 0) a 12 1) (a + 11) 0 4)
  refine x_aload_n G 1 rfl rfl dX3_reset_29 ?_
  refine x_get G (xR (a + 12)) xf3_9 lk_X3_44 (st_n hS 0 (by decide)) (st_k hS 0 (by decide)) (Or.inr ⟨rfl, _, (st_r hS 0 9 (by decide) (by decide)), rfl⟩) dX3_reset_30 ?_
  refine x_iload_n G 0 rfl rfl dX3_reset_33 ?_
  refine x_iconst G (by decide) dX3_reset_34 ?_
  refine x_iast G (st_n hS 12 (by decide)) (st_k hS 12 (by decide)) (show _ = 4 from st_l hS 12 (by decide)) (by omega) (by omega) dX3_reset_35 ?_
  show xX Γ 0 0 n T 36 [(1, xI 0), (0, xR a)] [] (xst (xst (xst (xst (xst M a 10 0) a 11 0) a 12 1) (a + 11) 0 4) (a + 12) 0 0)
  refine x_iinc G [(1, xI 1), (0, xR a)] 0 rfl (by decide) (by omega) rfl dX3_reset_36 ?_
  refine x_goto G 17 (by decide) dX3_reset_39 ?_
  refine x_iload_n G 0 rfl rfl dX3_reset_17 ?_
  refine x_iconst G (by decide) dX3_reset_18 ?_
  refine x_icmp_ge G 42 (by decide) dX3_reset_19 (fun c19 => absurd c19 (by decide)) (fun _ => ?_)
  refine x_aload_n G 1 rfl rfl dX3_reset_22 ?_
  refine x_get G (xR (a + 11)) xf3_8 lk_X3_41 (st_n hS 0 (by decide)) (st_k hS 0 (by decide)) (Or.inr ⟨rfl, _, (st_r hS 0 8 (by decide) (by decide)), rfl⟩) dX3_reset_23 ?_
  refine x_iload_n G 0 rfl rfl dX3_reset_26 ?_
  refine x_iconst G (by decide) dX3_reset_27 ?_
  refine x_iast G (st_n hS 11 (by decide)) (st_k hS 11 (by decide)) (show _ = 4 from st_l hS 11 (by decide)) (by omega) (by omega) dX3_reset_28 ?_
  show xX Γ 0 0 n T 29 [(1, xI 1), (0, xR a)] [] (xst (xst (xst (xst (xst (xst M a 10 0) a 11 0) a 12 1) (a + 11) 0 4) (a + 12) 0 0) (a + 11) 1 4)
  refine x_aload_n G 1 rfl rfl dX3_reset_29 ?_
  refine x_get G (xR (a + 12)) xf3_9 lk_X3_44 (st_n hS 0 (by decide)) (st_k hS 0 (by decide)) (Or.inr ⟨rfl, _, (st_r hS 0 9 (by decide) (by decide)), rfl⟩) dX3_reset_30 ?_
  refine x_iload_n G 0 rfl rfl dX3_reset_33 ?_
  refine x_iconst G (by decide) dX3_reset_34 ?_
  refine x_iast G (st_n hS 12 (by decide)) (st_k hS 12 (by decide)) (show _ = 4 from st_l hS 12 (by decide)) (by omega) (by omega) dX3_reset_35 ?_
  show xX Γ 0 0 n T 36 [(1, xI 1), (0, xR a)] [] (xst (xst (xst (xst (xst (xst (xst M a 10 0) a 11 0) a 12 1) (a + 11) 0 4) (a + 12) 0 0) (a + 11) 1 4) (a + 12) 1 0)
  refine x_iinc G [(1, xI 2), (0, xR a)] 0 rfl (by decide) (by omega) rfl dX3_reset_36 ?_
  refine x_goto G 17 (by decide) dX3_reset_39 ?_
  refine x_iload_n G 0 rfl rfl dX3_reset_17 ?_
  refine x_iconst G (by decide) dX3_reset_18 ?_
  refine x_icmp_ge G 42 (by decide) dX3_reset_19 (fun c19 => absurd c19 (by decide)) (fun _ => ?_)
  refine x_aload_n G 1 rfl rfl dX3_reset_22 ?_
  refine x_get G (xR (a + 11)) xf3_8 lk_X3_41 (st_n hS 0 (by decide)) (st_k hS 0 (by decide)) (Or.inr ⟨rfl, _, (st_r hS 0 8 (by decide) (by decide)), rfl⟩) dX3_reset_23 ?_
  refine x_iload_n G 0 rfl rfl dX3_reset_26 ?_
  refine x_iconst G (by decide) dX3_reset_27 ?_
  refine x_iast G (st_n hS 11 (by decide)) (st_k hS 11 (by decide)) (show _ = 4 from st_l hS 11 (by decide)) (by omega) (by omega) dX3_reset_28 ?_
  show xX Γ 0 0 n T 29 [(1, xI 2), (0, xR a)] [] (xst (xst (xst (xst (xst (xst (xst (xst M a 10 0) a 11 0) a 12 1) (a + 11) 0 4) (a + 12) 0 0) (a + 11) 1 4) (a + 12) 1 0) (a + 11) 2 4)
  refine x_aload_n G 1 rfl rfl dX3_reset_29 ?_
  refine x_get G (xR (a + 12)) xf3_9 lk_X3_44 (st_n hS 0 (by decide)) (st_k hS 0 (by decide)) (Or.inr ⟨rfl, _, (st_r hS 0 9 (by decide) (by decide)), rfl⟩) dX3_reset_30 ?_
  refine x_iload_n G 0 rfl rfl dX3_reset_33 ?_
  refine x_iconst G (by decide) dX3_reset_34 ?_
  refine x_iast G (st_n hS 12 (by decide)) (st_k hS 12 (by decide)) (show _ = 4 from st_l hS 12 (by decide)) (by omega) (by omega) dX3_reset_35 ?_
  show xX Γ 0 0 n T 36 [(1, xI 2), (0, xR a)] [] (xst (xst (xst (xst (xst (xst (xst (xst (xst M a 10 0) a 11 0) a 12 1) (a + 11) 0 4) (a + 12) 0 0) (a + 11) 1 4) (a + 12) 1 0) (a + 11) 2 4) (a + 12) 2 0)
  refine x_iinc G [(1, xI 3), (0, xR a)] 0 rfl (by decide) (by omega) rfl dX3_reset_36 ?_
  refine x_goto G 17 (by decide) dX3_reset_39 ?_
  refine x_iload_n G 0 rfl rfl dX3_reset_17 ?_
  refine x_iconst G (by decide) dX3_reset_18 ?_
  refine x_icmp_ge G 42 (by decide) dX3_reset_19 (fun c19 => absurd c19 (by decide)) (fun _ => ?_)
  refine x_aload_n G 1 rfl rfl dX3_reset_22 ?_
  refine x_get G (xR (a + 11)) xf3_8 lk_X3_41 (st_n hS 0 (by decide)) (st_k hS 0 (by decide)) (Or.inr ⟨rfl, _, (st_r hS 0 8 (by decide) (by decide)), rfl⟩) dX3_reset_23 ?_
  refine x_iload_n G 0 rfl rfl dX3_reset_26 ?_
  refine x_iconst G (by decide) dX3_reset_27 ?_
  refine x_iast G (st_n hS 11 (by decide)) (st_k hS 11 (by decide)) (show _ = 4 from st_l hS 11 (by decide)) (by omega) (by omega) dX3_reset_28 ?_
  show xX Γ 0 0 n T 29 [(1, xI 3), (0, xR a)] [] (xst (xst (xst (xst (xst (xst (xst (xst (xst (xst M a 10 0) a 11 0) a 12 1) (a + 11) 0 4) (a + 12) 0 0) (a + 11) 1 4) (a + 12) 1 0) (a + 11) 2 4) (a + 12) 2 0) (a + 11) 3 4)
  refine x_aload_n G 1 rfl rfl dX3_reset_29 ?_
  refine x_get G (xR (a + 12)) xf3_9 lk_X3_44 (st_n hS 0 (by decide)) (st_k hS 0 (by decide)) (Or.inr ⟨rfl, _, (st_r hS 0 9 (by decide) (by decide)), rfl⟩) dX3_reset_30 ?_
  refine x_iload_n G 0 rfl rfl dX3_reset_33 ?_
  refine x_iconst G (by decide) dX3_reset_34 ?_
  refine x_iast G (st_n hS 12 (by decide)) (st_k hS 12 (by decide)) (show _ = 4 from st_l hS 12 (by decide)) (by omega) (by omega) dX3_reset_35 ?_
  show xX Γ 0 0 n T 36 [(1, xI 3), (0, xR a)] [] (xst (xst (xst (xst (xst (xst (xst (xst (xst (xst (xst M a 10 0) a 11 0) a 12 1) (a + 11) 0 4) (a + 12) 0 0) (a + 11) 1 4) (a + 12) 1 0) (a + 11) 2 4) (a + 12) 2 0) (a + 11) 3 4) (a + 12) 3 0)
  refine x_iinc G [(1, xI 4), (0, xR a)] 0 rfl (by decide) (by omega) rfl dX3_reset_36 ?_
  refine x_goto G 17 (by decide) dX3_reset_39 ?_
  refine x_iload_n G 0 rfl rfl dX3_reset_17 ?_
  refine x_iconst G (by decide) dX3_reset_18 ?_
  refine x_icmp_ge G 42 (by decide) dX3_reset_19 (fun _ => ?_) (fun c19 => absurd c19 (by decide))
  exact x_vret G Rt dX3_reset_42 ⟨rfl, rfl, rfl, ⟨⟨by simp [xst_eq], four (by simp [xst_eq]) (by simp [xst_eq]) (by simp [xst_eq]) (by simp [xst_eq])⟩, fun q hq => by
      simp (disch := omega) only [xst_row]⟩⟩
set_option maxRecDepth 100000 in
set_option maxHeartbeats 4000000 in
theorem kX3_copyFrom (D : xD) (l : Launch) {n : Nat} {T : xT} {M : xM} (a b : Nat) (V : xM) (hS : StL n T a) (hSb : StL n T b) (hab : a + 13 ≤ b ∨ b + 13 ≤ a) (hV : shw M b V) (hv : VOK V) : xC D l uX3_copyFrom 0 0 0 0 [xR a, xR b] n T M (xPV n T (fun M2 => seqr (vw M2 a) V ∧ fro a M M2)) := by
  refine x_met uX3_copyFrom (by decide) (Nat.le_of_ble_eq_true rfl) ?_
  intro Γ G Rt _
  have G : xG Γ RX3 cX3_copyFrom 3 0 0 0 0 := G
  have Rt : xRt Γ (xPV n T (fun M2 => seqr (vw M2 a) V ∧ fro a M M2)) none 0 0 := Rt
  show xX Γ 0 0 n T 0 [(0, xR a), (1, xR b)] [] M
  have hc := ok_c hv
  refine x_aload_n G 0 rfl rfl dX3_copyFrom_0 ?_
  refine x_aload_n G 1 rfl rfl dX3_copyFrom_1 ?_
  refine x_get G (xI (M b 10)) xf3_10 lk_X3_50 (st_n hSb 0 (by decide)) (st_k hSb 0 (by decide)) (Or.inl ⟨rfl, rfl⟩) dX3_copyFrom_2 ?_
  rw [show M b 10 = (V 0 10) from (congrFun (hV 0 (by decide) (by decide) (by decide)) 10)]
  refine x_put G  xf3_10 lk_X3_50 (st_n hS 0 (by decide)) (st_k hS 0 (by decide)) rfl dX3_copyFrom_5 ?_
  refine x_aload_n G 0 rfl rfl dX3_copyFrom_8 ?_
  refine x_aload_n G 1 rfl rfl dX3_copyFrom_9 ?_
  refine x_get G (xI ((xst M a 10 (V 0 10)) b 11)) xf3_11 lk_X3_54 (st_n hSb 0 (by decide)) (st_k hSb 0 (by decide)) (Or.inl ⟨rfl, rfl⟩) dX3_copyFrom_10 ?_
  rw [show (xst M a 10 (V 0 10)) b 11 = (V 0 11) from ((xst_nq (by omega)).trans (congrFun (hV 0 (by decide) (by decide) (by decide)) 11))]
  refine x_put G  xf3_11 lk_X3_54 (st_n hS 0 (by decide)) (st_k hS 0 (by decide)) rfl dX3_copyFrom_13 ?_
  refine x_aload_n G 0 rfl rfl dX3_copyFrom_16 ?_
  refine x_aload_n G 1 rfl rfl dX3_copyFrom_17 ?_
  refine x_get G (xI ((xst (xst M a 10 (V 0 10)) a 11 (V 0 11)) b 12)) xf3_12 lk_X3_57 (st_n hSb 0 (by decide)) (st_k hSb 0 (by decide)) (Or.inl ⟨rfl, rfl⟩) dX3_copyFrom_18 ?_
  rw [show (xst (xst M a 10 (V 0 10)) a 11 (V 0 11)) b 12 = (V 0 12) from ((xst_nq (by omega)).trans ((xst_nq (by omega)).trans (congrFun (hV 0 (by decide) (by decide) (by decide)) 12)))]
  refine x_put G  xf3_12 lk_X3_57 (st_n hS 0 (by decide)) (st_k hS 0 (by decide)) rfl dX3_copyFrom_21 ?_
  refine x_iconst G (by decide) dX3_copyFrom_24 ?_
  refine x_istore_n G [(2, xI 0), (0, xR a), (1, xR b)] rfl (by decide) rfl dX3_copyFrom_25 ?_
  refine x_iload_n G 0 rfl rfl dX3_copyFrom_26 ?_
  refine x_iconst G (by decide) dX3_copyFrom_27 ?_
  refine x_icmp_ge G 61 (by decide) dX3_copyFrom_28 (fun c28 => absurd c28 (by decide)) (fun _ => ?_)
  refine x_aload_n G 1 rfl rfl dX3_copyFrom_31 ?_
  refine x_get G (xR (a + 11)) xf3_8 lk_X3_41 (st_n hS 0 (by decide)) (st_k hS 0 (by decide)) (Or.inr ⟨rfl, _, (st_r hS 0 8 (by decide) (by decide)), rfl⟩) dX3_copyFrom_32 ?_
  refine x_iload_n G 0 rfl rfl dX3_copyFrom_35 ?_
  refine x_aload_n G 2 rfl rfl dX3_copyFrom_36 ?_
  refine x_get G (xR (b + 11)) xf3_8 lk_X3_41 (st_n hSb 0 (by decide)) (st_k hSb 0 (by decide)) (Or.inr ⟨rfl, _, (st_r hSb 0 8 (by decide) (by decide)), rfl⟩) dX3_copyFrom_37 ?_
  refine x_iload_n G 0 rfl rfl dX3_copyFrom_40 ?_
  refine x_iald G (st_n hSb 11 (by decide)) (st_k hSb 11 (by decide)) (show _ = 4 from st_l hSb 11 (by decide)) (by omega) (by omega) dX3_copyFrom_41 ?_
  show xX Γ 0 0 n T 42 [(2, xI 0), (0, xR a), (1, xR b)] [xI ((xst (xst (xst M a 10 (V 0 10)) a 11 (V 0 11)) a 12 (V 0 12)) (b + 11) 0), xI 0, xR (a + 11)] (xst (xst (xst M a 10 (V 0 10)) a 11 (V 0 11)) a 12 (V 0 12))
  rw [show (xst (xst (xst M a 10 (V 0 10)) a 11 (V 0 11)) a 12 (V 0 12)) (b + 11) 0 = (V 11 0) from ((xst_nq (by omega)).trans ((xst_nq (by omega)).trans ((xst_nq (by omega)).trans (congrFun (hV 11 (by decide) (by decide) (by decide)) 0))))]
  refine x_iast G (st_n hS 11 (by decide)) (st_k hS 11 (by decide)) (show _ = 4 from st_l hS 11 (by decide)) (by omega) (by omega) dX3_copyFrom_42 ?_
  show xX Γ 0 0 n T 43 [(2, xI 0), (0, xR a), (1, xR b)] [] (xst (xst (xst (xst M a 10 (V 0 10)) a 11 (V 0 11)) a 12 (V 0 12)) (a + 11) 0 (V 11 0))
  refine x_aload_n G 1 rfl rfl dX3_copyFrom_43 ?_
  refine x_get G (xR (a + 12)) xf3_9 lk_X3_44 (st_n hS 0 (by decide)) (st_k hS 0 (by decide)) (Or.inr ⟨rfl, _, (st_r hS 0 9 (by decide) (by decide)), rfl⟩) dX3_copyFrom_44 ?_
  refine x_iload_n G 0 rfl rfl dX3_copyFrom_47 ?_
  refine x_aload_n G 2 rfl rfl dX3_copyFrom_48 ?_
  refine x_get G (xR (b + 12)) xf3_9 lk_X3_44 (st_n hSb 0 (by decide)) (st_k hSb 0 (by decide)) (Or.inr ⟨rfl, _, (st_r hSb 0 9 (by decide) (by decide)), rfl⟩) dX3_copyFrom_49 ?_
  refine x_iload_n G 0 rfl rfl dX3_copyFrom_52 ?_
  refine x_iald G (st_n hSb 12 (by decide)) (st_k hSb 12 (by decide)) (show _ = 4 from st_l hSb 12 (by decide)) (by omega) (by omega) dX3_copyFrom_53 ?_
  show xX Γ 0 0 n T 54 [(2, xI 0), (0, xR a), (1, xR b)] [xI ((xst (xst (xst (xst M a 10 (V 0 10)) a 11 (V 0 11)) a 12 (V 0 12)) (a + 11) 0 (V 11 0)) (b + 12) 0), xI 0, xR (a + 12)] (xst (xst (xst (xst M a 10 (V 0 10)) a 11 (V 0 11)) a 12 (V 0 12)) (a + 11) 0 (V 11 0))
  rw [show (xst (xst (xst (xst M a 10 (V 0 10)) a 11 (V 0 11)) a 12 (V 0 12)) (a + 11) 0 (V 11 0)) (b + 12) 0 = (V 12 0) from ((xst_nq (by omega)).trans ((xst_nq (by omega)).trans ((xst_nq (by omega)).trans ((xst_nq (by omega)).trans (congrFun (hV 12 (by decide) (by decide) (by decide)) 0)))))]
  refine x_iast G (st_n hS 12 (by decide)) (st_k hS 12 (by decide)) (show _ = 4 from st_l hS 12 (by decide)) (by omega) (by omega) dX3_copyFrom_54 ?_
  show xX Γ 0 0 n T 55 [(2, xI 0), (0, xR a), (1, xR b)] [] (xst (xst (xst (xst (xst M a 10 (V 0 10)) a 11 (V 0 11)) a 12 (V 0 12)) (a + 11) 0 (V 11 0)) (a + 12) 0 (V 12 0))
  refine x_iinc G [(2, xI 1), (0, xR a), (1, xR b)] 0 rfl (by decide) (by omega) rfl dX3_copyFrom_55 ?_
  refine x_goto G 26 (by decide) dX3_copyFrom_58 ?_
  refine x_iload_n G 0 rfl rfl dX3_copyFrom_26 ?_
  refine x_iconst G (by decide) dX3_copyFrom_27 ?_
  refine x_icmp_ge G 61 (by decide) dX3_copyFrom_28 (fun c28 => absurd c28 (by decide)) (fun _ => ?_)
  refine x_aload_n G 1 rfl rfl dX3_copyFrom_31 ?_
  refine x_get G (xR (a + 11)) xf3_8 lk_X3_41 (st_n hS 0 (by decide)) (st_k hS 0 (by decide)) (Or.inr ⟨rfl, _, (st_r hS 0 8 (by decide) (by decide)), rfl⟩) dX3_copyFrom_32 ?_
  refine x_iload_n G 0 rfl rfl dX3_copyFrom_35 ?_
  refine x_aload_n G 2 rfl rfl dX3_copyFrom_36 ?_
  refine x_get G (xR (b + 11)) xf3_8 lk_X3_41 (st_n hSb 0 (by decide)) (st_k hSb 0 (by decide)) (Or.inr ⟨rfl, _, (st_r hSb 0 8 (by decide) (by decide)), rfl⟩) dX3_copyFrom_37 ?_
  refine x_iload_n G 0 rfl rfl dX3_copyFrom_40 ?_
  refine x_iald G (st_n hSb 11 (by decide)) (st_k hSb 11 (by decide)) (show _ = 4 from st_l hSb 11 (by decide)) (by omega) (by omega) dX3_copyFrom_41 ?_
  show xX Γ 0 0 n T 42 [(2, xI 1), (0, xR a), (1, xR b)] [xI ((xst (xst (xst (xst (xst M a 10 (V 0 10)) a 11 (V 0 11)) a 12 (V 0 12)) (a + 11) 0 (V 11 0)) (a + 12) 0 (V 12 0)) (b + 11) 1), xI 1, xR (a + 11)] (xst (xst (xst (xst (xst M a 10 (V 0 10)) a 11 (V 0 11)) a 12 (V 0 12)) (a + 11) 0 (V 11 0)) (a + 12) 0 (V 12 0))
  rw [show (xst (xst (xst (xst (xst M a 10 (V 0 10)) a 11 (V 0 11)) a 12 (V 0 12)) (a + 11) 0 (V 11 0)) (a + 12) 0 (V 12 0)) (b + 11) 1 = (V 11 1) from ((xst_nq (by omega)).trans ((xst_nq (by omega)).trans ((xst_nq (by omega)).trans ((xst_nq (by omega)).trans ((xst_nq (by omega)).trans (congrFun (hV 11 (by decide) (by decide) (by decide)) 1))))))]
  refine x_iast G (st_n hS 11 (by decide)) (st_k hS 11 (by decide)) (show _ = 4 from st_l hS 11 (by decide)) (by omega) (by omega) dX3_copyFrom_42 ?_
  show xX Γ 0 0 n T 43 [(2, xI 1), (0, xR a), (1, xR b)] [] (xst (xst (xst (xst (xst (xst M a 10 (V 0 10)) a 11 (V 0 11)) a 12 (V 0 12)) (a + 11) 0 (V 11 0)) (a + 12) 0 (V 12 0)) (a + 11) 1 (V 11 1))
  refine x_aload_n G 1 rfl rfl dX3_copyFrom_43 ?_
  refine x_get G (xR (a + 12)) xf3_9 lk_X3_44 (st_n hS 0 (by decide)) (st_k hS 0 (by decide)) (Or.inr ⟨rfl, _, (st_r hS 0 9 (by decide) (by decide)), rfl⟩) dX3_copyFrom_44 ?_
  refine x_iload_n G 0 rfl rfl dX3_copyFrom_47 ?_
  refine x_aload_n G 2 rfl rfl dX3_copyFrom_48 ?_
  refine x_get G (xR (b + 12)) xf3_9 lk_X3_44 (st_n hSb 0 (by decide)) (st_k hSb 0 (by decide)) (Or.inr ⟨rfl, _, (st_r hSb 0 9 (by decide) (by decide)), rfl⟩) dX3_copyFrom_49 ?_
  refine x_iload_n G 0 rfl rfl dX3_copyFrom_52 ?_
  refine x_iald G (st_n hSb 12 (by decide)) (st_k hSb 12 (by decide)) (show _ = 4 from st_l hSb 12 (by decide)) (by omega) (by omega) dX3_copyFrom_53 ?_
  show xX Γ 0 0 n T 54 [(2, xI 1), (0, xR a), (1, xR b)] [xI ((xst (xst (xst (xst (xst (xst M a 10 (V 0 10)) a 11 (V 0 11)) a 12 (V 0 12)) (a + 11) 0 (V 11 0)) (a + 12) 0 (V 12 0)) (a + 11) 1 (V 11 1)) (b + 12) 1), xI 1, xR (a + 12)] (xst (xst (xst (xst (xst (xst M a 10 (V 0 10)) a 11 (V 0 11)) a 12 (V 0 12)) (a + 11) 0 (V 11 0)) (a + 12) 0 (V 12 0)) (a + 11) 1 (V 11 1))
  rw [show (xst (xst (xst (xst (xst (xst M a 10 (V 0 10)) a 11 (V 0 11)) a 12 (V 0 12)) (a + 11) 0 (V 11 0)) (a + 12) 0 (V 12 0)) (a + 11) 1 (V 11 1)) (b + 12) 1 = (V 12 1) from ((xst_nq (by omega)).trans ((xst_nq (by omega)).trans ((xst_nq (by omega)).trans ((xst_nq (by omega)).trans ((xst_nq (by omega)).trans ((xst_nq (by omega)).trans (congrFun (hV 12 (by decide) (by decide) (by decide)) 1)))))))]
  refine x_iast G (st_n hS 12 (by decide)) (st_k hS 12 (by decide)) (show _ = 4 from st_l hS 12 (by decide)) (by omega) (by omega) dX3_copyFrom_54 ?_
  show xX Γ 0 0 n T 55 [(2, xI 1), (0, xR a), (1, xR b)] [] (xst (xst (xst (xst (xst (xst (xst M a 10 (V 0 10)) a 11 (V 0 11)) a 12 (V 0 12)) (a + 11) 0 (V 11 0)) (a + 12) 0 (V 12 0)) (a + 11) 1 (V 11 1)) (a + 12) 1 (V 12 1))
  refine x_iinc G [(2, xI 2), (0, xR a), (1, xR b)] 0 rfl (by decide) (by omega) rfl dX3_copyFrom_55 ?_
  refine x_goto G 26 (by decide) dX3_copyFrom_58 ?_
  refine x_iload_n G 0 rfl rfl dX3_copyFrom_26 ?_
  refine x_iconst G (by decide) dX3_copyFrom_27 ?_
  refine x_icmp_ge G 61 (by decide) dX3_copyFrom_28 (fun c28 => absurd c28 (by decide)) (fun _ => ?_)
  refine x_aload_n G 1 rfl rfl dX3_copyFrom_31 ?_
  refine x_get G (xR (a + 11)) xf3_8 lk_X3_41 (st_n hS 0 (by decide)) (st_k hS 0 (by decide)) (Or.inr ⟨rfl, _, (st_r hS 0 8 (by decide) (by decide)), rfl⟩) dX3_copyFrom_32 ?_
  refine x_iload_n G 0 rfl rfl dX3_copyFrom_35 ?_
  refine x_aload_n G 2 rfl rfl dX3_copyFrom_36 ?_
  refine x_get G (xR (b + 11)) xf3_8 lk_X3_41 (st_n hSb 0 (by decide)) (st_k hSb 0 (by decide)) (Or.inr ⟨rfl, _, (st_r hSb 0 8 (by decide) (by decide)), rfl⟩) dX3_copyFrom_37 ?_
  refine x_iload_n G 0 rfl rfl dX3_copyFrom_40 ?_
  refine x_iald G (st_n hSb 11 (by decide)) (st_k hSb 11 (by decide)) (show _ = 4 from st_l hSb 11 (by decide)) (by omega) (by omega) dX3_copyFrom_41 ?_
  show xX Γ 0 0 n T 42 [(2, xI 2), (0, xR a), (1, xR b)] [xI ((xst (xst (xst (xst (xst (xst (xst M a 10 (V 0 10)) a 11 (V 0 11)) a 12 (V 0 12)) (a + 11) 0 (V 11 0)) (a + 12) 0 (V 12 0)) (a + 11) 1 (V 11 1)) (a + 12) 1 (V 12 1)) (b + 11) 2), xI 2, xR (a + 11)] (xst (xst (xst (xst (xst (xst (xst M a 10 (V 0 10)) a 11 (V 0 11)) a 12 (V 0 12)) (a + 11) 0 (V 11 0)) (a + 12) 0 (V 12 0)) (a + 11) 1 (V 11 1)) (a + 12) 1 (V 12 1))
  rw [show (xst (xst (xst (xst (xst (xst (xst M a 10 (V 0 10)) a 11 (V 0 11)) a 12 (V 0 12)) (a + 11) 0 (V 11 0)) (a + 12) 0 (V 12 0)) (a + 11) 1 (V 11 1)) (a + 12) 1 (V 12 1)) (b + 11) 2 = (V 11 2) from ((xst_nq (by omega)).trans ((xst_nq (by omega)).trans ((xst_nq (by omega)).trans ((xst_nq (by omega)).trans ((xst_nq (by omega)).trans ((xst_nq (by omega)).trans ((xst_nq (by omega)).trans (congrFun (hV 11 (by decide) (by decide) (by decide)) 2))))))))]
  refine x_iast G (st_n hS 11 (by decide)) (st_k hS 11 (by decide)) (show _ = 4 from st_l hS 11 (by decide)) (by omega) (by omega) dX3_copyFrom_42 ?_
  show xX Γ 0 0 n T 43 [(2, xI 2), (0, xR a), (1, xR b)] [] (xst (xst (xst (xst (xst (xst (xst (xst M a 10 (V 0 10)) a 11 (V 0 11)) a 12 (V 0 12)) (a + 11) 0 (V 11 0)) (a + 12) 0 (V 12 0)) (a + 11) 1 (V 11 1)) (a + 12) 1 (V 12 1)) (a + 11) 2 (V 11 2))
  refine x_aload_n G 1 rfl rfl dX3_copyFrom_43 ?_
  refine x_get G (xR (a + 12)) xf3_9 lk_X3_44 (st_n hS 0 (by decide)) (st_k hS 0 (by decide)) (Or.inr ⟨rfl, _, (st_r hS 0 9 (by decide) (by decide)), rfl⟩) dX3_copyFrom_44 ?_
  refine x_iload_n G 0 rfl rfl dX3_copyFrom_47 ?_
  refine x_aload_n G 2 rfl rfl dX3_copyFrom_48 ?_
  refine x_get G (xR (b + 12)) xf3_9 lk_X3_44 (st_n hSb 0 (by decide)) (st_k hSb 0 (by decide)) (Or.inr ⟨rfl, _, (st_r hSb 0 9 (by decide) (by decide)), rfl⟩) dX3_copyFrom_49 ?_
  refine x_iload_n G 0 rfl rfl dX3_copyFrom_52 ?_
  refine x_iald G (st_n hSb 12 (by decide)) (st_k hSb 12 (by decide)) (show _ = 4 from st_l hSb 12 (by decide)) (by omega) (by omega) dX3_copyFrom_53 ?_
  show xX Γ 0 0 n T 54 [(2, xI 2), (0, xR a), (1, xR b)] [xI ((xst (xst (xst (xst (xst (xst (xst (xst M a 10 (V 0 10)) a 11 (V 0 11)) a 12 (V 0 12)) (a + 11) 0 (V 11 0)) (a + 12) 0 (V 12 0)) (a + 11) 1 (V 11 1)) (a + 12) 1 (V 12 1)) (a + 11) 2 (V 11 2)) (b + 12) 2), xI 2, xR (a + 12)] (xst (xst (xst (xst (xst (xst (xst (xst M a 10 (V 0 10)) a 11 (V 0 11)) a 12 (V 0 12)) (a + 11) 0 (V 11 0)) (a + 12) 0 (V 12 0)) (a + 11) 1 (V 11 1)) (a + 12) 1 (V 12 1)) (a + 11) 2 (V 11 2))
  rw [show (xst (xst (xst (xst (xst (xst (xst (xst M a 10 (V 0 10)) a 11 (V 0 11)) a 12 (V 0 12)) (a + 11) 0 (V 11 0)) (a + 12) 0 (V 12 0)) (a + 11) 1 (V 11 1)) (a + 12) 1 (V 12 1)) (a + 11) 2 (V 11 2)) (b + 12) 2 = (V 12 2) from ((xst_nq (by omega)).trans ((xst_nq (by omega)).trans ((xst_nq (by omega)).trans ((xst_nq (by omega)).trans ((xst_nq (by omega)).trans ((xst_nq (by omega)).trans ((xst_nq (by omega)).trans ((xst_nq (by omega)).trans (congrFun (hV 12 (by decide) (by decide) (by decide)) 2)))))))))]
  refine x_iast G (st_n hS 12 (by decide)) (st_k hS 12 (by decide)) (show _ = 4 from st_l hS 12 (by decide)) (by omega) (by omega) dX3_copyFrom_54 ?_
  show xX Γ 0 0 n T 55 [(2, xI 2), (0, xR a), (1, xR b)] [] (xst (xst (xst (xst (xst (xst (xst (xst (xst M a 10 (V 0 10)) a 11 (V 0 11)) a 12 (V 0 12)) (a + 11) 0 (V 11 0)) (a + 12) 0 (V 12 0)) (a + 11) 1 (V 11 1)) (a + 12) 1 (V 12 1)) (a + 11) 2 (V 11 2)) (a + 12) 2 (V 12 2))
  refine x_iinc G [(2, xI 3), (0, xR a), (1, xR b)] 0 rfl (by decide) (by omega) rfl dX3_copyFrom_55 ?_
  refine x_goto G 26 (by decide) dX3_copyFrom_58 ?_
  refine x_iload_n G 0 rfl rfl dX3_copyFrom_26 ?_
  refine x_iconst G (by decide) dX3_copyFrom_27 ?_
  refine x_icmp_ge G 61 (by decide) dX3_copyFrom_28 (fun c28 => absurd c28 (by decide)) (fun _ => ?_)
  refine x_aload_n G 1 rfl rfl dX3_copyFrom_31 ?_
  refine x_get G (xR (a + 11)) xf3_8 lk_X3_41 (st_n hS 0 (by decide)) (st_k hS 0 (by decide)) (Or.inr ⟨rfl, _, (st_r hS 0 8 (by decide) (by decide)), rfl⟩) dX3_copyFrom_32 ?_
  refine x_iload_n G 0 rfl rfl dX3_copyFrom_35 ?_
  refine x_aload_n G 2 rfl rfl dX3_copyFrom_36 ?_
  refine x_get G (xR (b + 11)) xf3_8 lk_X3_41 (st_n hSb 0 (by decide)) (st_k hSb 0 (by decide)) (Or.inr ⟨rfl, _, (st_r hSb 0 8 (by decide) (by decide)), rfl⟩) dX3_copyFrom_37 ?_
  refine x_iload_n G 0 rfl rfl dX3_copyFrom_40 ?_
  refine x_iald G (st_n hSb 11 (by decide)) (st_k hSb 11 (by decide)) (show _ = 4 from st_l hSb 11 (by decide)) (by omega) (by omega) dX3_copyFrom_41 ?_
  show xX Γ 0 0 n T 42 [(2, xI 3), (0, xR a), (1, xR b)] [xI ((xst (xst (xst (xst (xst (xst (xst (xst (xst M a 10 (V 0 10)) a 11 (V 0 11)) a 12 (V 0 12)) (a + 11) 0 (V 11 0)) (a + 12) 0 (V 12 0)) (a + 11) 1 (V 11 1)) (a + 12) 1 (V 12 1)) (a + 11) 2 (V 11 2)) (a + 12) 2 (V 12 2)) (b + 11) 3), xI 3, xR (a + 11)] (xst (xst (xst (xst (xst (xst (xst (xst (xst M a 10 (V 0 10)) a 11 (V 0 11)) a 12 (V 0 12)) (a + 11) 0 (V 11 0)) (a + 12) 0 (V 12 0)) (a + 11) 1 (V 11 1)) (a + 12) 1 (V 12 1)) (a + 11) 2 (V 11 2)) (a + 12) 2 (V 12 2))
  rw [show (xst (xst (xst (xst (xst (xst (xst (xst (xst M a 10 (V 0 10)) a 11 (V 0 11)) a 12 (V 0 12)) (a + 11) 0 (V 11 0)) (a + 12) 0 (V 12 0)) (a + 11) 1 (V 11 1)) (a + 12) 1 (V 12 1)) (a + 11) 2 (V 11 2)) (a + 12) 2 (V 12 2)) (b + 11) 3 = (V 11 3) from ((xst_nq (by omega)).trans ((xst_nq (by omega)).trans ((xst_nq (by omega)).trans ((xst_nq (by omega)).trans ((xst_nq (by omega)).trans ((xst_nq (by omega)).trans ((xst_nq (by omega)).trans ((xst_nq (by omega)).trans ((xst_nq (by omega)).trans (congrFun (hV 11 (by decide) (by decide) (by decide)) 3))))))))))]
  refine x_iast G (st_n hS 11 (by decide)) (st_k hS 11 (by decide)) (show _ = 4 from st_l hS 11 (by decide)) (by omega) (by omega) dX3_copyFrom_42 ?_
  show xX Γ 0 0 n T 43 [(2, xI 3), (0, xR a), (1, xR b)] [] (xst (xst (xst (xst (xst (xst (xst (xst (xst (xst M a 10 (V 0 10)) a 11 (V 0 11)) a 12 (V 0 12)) (a + 11) 0 (V 11 0)) (a + 12) 0 (V 12 0)) (a + 11) 1 (V 11 1)) (a + 12) 1 (V 12 1)) (a + 11) 2 (V 11 2)) (a + 12) 2 (V 12 2)) (a + 11) 3 (V 11 3))
  refine x_aload_n G 1 rfl rfl dX3_copyFrom_43 ?_
  refine x_get G (xR (a + 12)) xf3_9 lk_X3_44 (st_n hS 0 (by decide)) (st_k hS 0 (by decide)) (Or.inr ⟨rfl, _, (st_r hS 0 9 (by decide) (by decide)), rfl⟩) dX3_copyFrom_44 ?_
  refine x_iload_n G 0 rfl rfl dX3_copyFrom_47 ?_
  refine x_aload_n G 2 rfl rfl dX3_copyFrom_48 ?_
  refine x_get G (xR (b + 12)) xf3_9 lk_X3_44 (st_n hSb 0 (by decide)) (st_k hSb 0 (by decide)) (Or.inr ⟨rfl, _, (st_r hSb 0 9 (by decide) (by decide)), rfl⟩) dX3_copyFrom_49 ?_
  refine x_iload_n G 0 rfl rfl dX3_copyFrom_52 ?_
  refine x_iald G (st_n hSb 12 (by decide)) (st_k hSb 12 (by decide)) (show _ = 4 from st_l hSb 12 (by decide)) (by omega) (by omega) dX3_copyFrom_53 ?_
  show xX Γ 0 0 n T 54 [(2, xI 3), (0, xR a), (1, xR b)] [xI ((xst (xst (xst (xst (xst (xst (xst (xst (xst (xst M a 10 (V 0 10)) a 11 (V 0 11)) a 12 (V 0 12)) (a + 11) 0 (V 11 0)) (a + 12) 0 (V 12 0)) (a + 11) 1 (V 11 1)) (a + 12) 1 (V 12 1)) (a + 11) 2 (V 11 2)) (a + 12) 2 (V 12 2)) (a + 11) 3 (V 11 3)) (b + 12) 3), xI 3, xR (a + 12)] (xst (xst (xst (xst (xst (xst (xst (xst (xst (xst M a 10 (V 0 10)) a 11 (V 0 11)) a 12 (V 0 12)) (a + 11) 0 (V 11 0)) (a + 12) 0 (V 12 0)) (a + 11) 1 (V 11 1)) (a + 12) 1 (V 12 1)) (a + 11) 2 (V 11 2)) (a + 12) 2 (V 12 2)) (a + 11) 3 (V 11 3))
  rw [show (xst (xst (xst (xst (xst (xst (xst (xst (xst (xst M a 10 (V 0 10)) a 11 (V 0 11)) a 12 (V 0 12)) (a + 11) 0 (V 11 0)) (a + 12) 0 (V 12 0)) (a + 11) 1 (V 11 1)) (a + 12) 1 (V 12 1)) (a + 11) 2 (V 11 2)) (a + 12) 2 (V 12 2)) (a + 11) 3 (V 11 3)) (b + 12) 3 = (V 12 3) from ((xst_nq (by omega)).trans ((xst_nq (by omega)).trans ((xst_nq (by omega)).trans ((xst_nq (by omega)).trans ((xst_nq (by omega)).trans ((xst_nq (by omega)).trans ((xst_nq (by omega)).trans ((xst_nq (by omega)).trans ((xst_nq (by omega)).trans ((xst_nq (by omega)).trans (congrFun (hV 12 (by decide) (by decide) (by decide)) 3)))))))))))]
  refine x_iast G (st_n hS 12 (by decide)) (st_k hS 12 (by decide)) (show _ = 4 from st_l hS 12 (by decide)) (by omega) (by omega) dX3_copyFrom_54 ?_
  show xX Γ 0 0 n T 55 [(2, xI 3), (0, xR a), (1, xR b)] [] (xst (xst (xst (xst (xst (xst (xst (xst (xst (xst (xst M a 10 (V 0 10)) a 11 (V 0 11)) a 12 (V 0 12)) (a + 11) 0 (V 11 0)) (a + 12) 0 (V 12 0)) (a + 11) 1 (V 11 1)) (a + 12) 1 (V 12 1)) (a + 11) 2 (V 11 2)) (a + 12) 2 (V 12 2)) (a + 11) 3 (V 11 3)) (a + 12) 3 (V 12 3))
  refine x_iinc G [(2, xI 4), (0, xR a), (1, xR b)] 0 rfl (by decide) (by omega) rfl dX3_copyFrom_55 ?_
  refine x_goto G 26 (by decide) dX3_copyFrom_58 ?_
  refine x_iload_n G 0 rfl rfl dX3_copyFrom_26 ?_
  refine x_iconst G (by decide) dX3_copyFrom_27 ?_
  refine x_icmp_ge G 61 (by decide) dX3_copyFrom_28 (fun _ => ?_) (fun c28 => absurd c28 (by decide))
  refine x_iconst G (by decide) dX3_copyFrom_61 ?_
  refine x_istore_n G [(2, xI 0), (0, xR a), (1, xR b)] rfl (by decide) rfl dX3_copyFrom_62 ?_
  have loop63 : ∀ (d : Nat) (k : Int) (M1 : xM), (V 0 10 - k).toNat = d → (0 ≤ k ∧ k ≤ V 0 10) → (shw M1 b V) → (M1 a 10 = V 0 10 ∧ M1 a 11 = V 0 11 ∧ M1 a 12 = V 0 12) → (∀ s, s < 4 → M1 (a + 11) s = V 11 s ∧ M1 (a + 12) s = V 12 s) → (∀ i : Nat, (i : Int) < k → M1 (a + 4) i = V 4 i ∧ M1 (a + 5) i = V 5 i ∧ M1 (a + 6) i = V 6 i ∧ M1 (a + 7) i = V 7 i ∧ M1 (a + 8) i = V 8 i ∧ M1 (a + 9) i = V 9 i ∧ M1 (a + 10) i = V 10 i) → (fro a M M1) → xX Γ 0 0 n T 63 [(0, xR a), (1, xR b), (2, xI k)] [] M1 := by
    intro d
    induction d using Nat.strongRecOn with
    | ind d ih63 =>
    intro k M1 hd63 hk hVb h1 h2 h3 h4
    refine x_iload_n G 2 rfl rfl dX3_copyFrom_63 ?_
    refine x_aload_n G 0 rfl rfl dX3_copyFrom_64 ?_
    refine x_get G (xI (M1 a 10)) xf3_10 lk_X3_50 (st_n hS 0 (by decide)) (st_k hS 0 (by decide)) (Or.inl ⟨rfl, rfl⟩) dX3_copyFrom_65 ?_
    refine x_icmp_ge G 161 (by decide) dX3_copyFrom_68 (fun c68 => ?_) (fun c68 => ?_)
    · skip
      exact x_vret G Rt dX3_copyFrom_161 ⟨rfl, rfl, rfl, ⟨⟨⟨h1, h2, fun i hi => by have := h3 i (by omega); exact ⟨this.1, this.2.1, this.2.2.1, this.2.2.2.1, this.2.2.2.2.1, this.2.2.2.2.2.1⟩⟩, fun i hi => (h3 i (by omega)).2.2.2.2.2.2⟩, h4⟩⟩
    · skip
      have hit := ok_i hv hk.1 (by omega)
      refine x_aload_n G 0 rfl rfl dX3_copyFrom_71 ?_
      refine x_get G (xR (a + 4)) xf3_1 lk_X3_18 (st_n hS 0 (by decide)) (st_k hS 0 (by decide)) (Or.inr ⟨rfl, _, (st_r hS 0 1 (by decide) (by decide)), rfl⟩) dX3_copyFrom_72 ?_
      refine x_iload_n G 2 rfl rfl dX3_copyFrom_75 ?_
      refine x_aload_n G 1 rfl rfl dX3_copyFrom_76 ?_
      refine x_get G (xR (b + 4)) xf3_1 lk_X3_18 (st_n hSb 0 (by decide)) (st_k hSb 0 (by decide)) (Or.inr ⟨rfl, _, (st_r hSb 0 1 (by decide) (by decide)), rfl⟩) dX3_copyFrom_77 ?_
      refine x_iload_n G 2 rfl rfl dX3_copyFrom_80 ?_
      refine x_iald G (st_n hSb 4 (by decide)) (st_k hSb 4 (by decide)) (show _ = 100 from st_l hSb 4 (by decide)) (by omega) (by omega) dX3_copyFrom_81 ?_
      rw [show M1 (b + 4) k.toNat = (V 4 k.toNat) from (congrFun (hVb 4 (by decide) (by decide) (by decide)) k.toNat)]
      refine x_iast G (st_n hS 4 (by decide)) (st_k hS 4 (by decide)) (show _ = 100 from st_l hS 4 (by decide)) (by omega) (by omega) dX3_copyFrom_82 ?_
      refine x_aload_n G 0 rfl rfl dX3_copyFrom_83 ?_
      refine x_get G (xR (a + 5)) xf3_2 lk_X3_22 (st_n hS 0 (by decide)) (st_k hS 0 (by decide)) (Or.inr ⟨rfl, _, (st_r hS 0 2 (by decide) (by decide)), rfl⟩) dX3_copyFrom_84 ?_
      refine x_iload_n G 2 rfl rfl dX3_copyFrom_87 ?_
      refine x_aload_n G 1 rfl rfl dX3_copyFrom_88 ?_
      refine x_get G (xR (b + 5)) xf3_2 lk_X3_22 (st_n hSb 0 (by decide)) (st_k hSb 0 (by decide)) (Or.inr ⟨rfl, _, (st_r hSb 0 2 (by decide) (by decide)), rfl⟩) dX3_copyFrom_89 ?_
      refine x_iload_n G 2 rfl rfl dX3_copyFrom_92 ?_
      refine x_iald G (st_n hSb 5 (by decide)) (st_k hSb 5 (by decide)) (show _ = 100 from st_l hSb 5 (by decide)) (by omega) (by omega) dX3_copyFrom_93 ?_
      rw [show (xst M1 (a + 4) k.toNat (V 4 k.toNat)) (b + 5) k.toNat = (V 5 k.toNat) from ((xst_nq (by omega)).trans (congrFun (hVb 5 (by decide) (by decide) (by decide)) k.toNat))]
      refine x_iast G (st_n hS 5 (by decide)) (st_k hS 5 (by decide)) (show _ = 100 from st_l hS 5 (by decide)) (by omega) (by omega) dX3_copyFrom_94 ?_
      refine x_aload_n G 0 rfl rfl dX3_copyFrom_95 ?_
      refine x_get G (xR (a + 6)) xf3_3 lk_X3_25 (st_n hS 0 (by decide)) (st_k hS 0 (by decide)) (Or.inr ⟨rfl, _, (st_r hS 0 3 (by decide) (by decide)), rfl⟩) dX3_copyFrom_96 ?_
      refine x_iload_n G 2 rfl rfl dX3_copyFrom_99 ?_
      refine x_aload_n G 1 rfl rfl dX3_copyFrom_100 ?_
      refine x_get G (xR (b + 6)) xf3_3 lk_X3_25 (st_n hSb 0 (by decide)) (st_k hSb 0 (by decide)) (Or.inr ⟨rfl, _, (st_r hSb 0 3 (by decide) (by decide)), rfl⟩) dX3_copyFrom_101 ?_
      refine x_iload_n G 2 rfl rfl dX3_copyFrom_104 ?_
      refine x_iald G (st_n hSb 6 (by decide)) (st_k hSb 6 (by decide)) (show _ = 100 from st_l hSb 6 (by decide)) (by omega) (by omega) dX3_copyFrom_105 ?_
      rw [show (xst (xst M1 (a + 4) k.toNat (V 4 k.toNat)) (a + 5) k.toNat (V 5 k.toNat)) (b + 6) k.toNat = (V 6 k.toNat) from ((xst_nq (by omega)).trans ((xst_nq (by omega)).trans (congrFun (hVb 6 (by decide) (by decide) (by decide)) k.toNat)))]
      refine x_iast G (st_n hS 6 (by decide)) (st_k hS 6 (by decide)) (show _ = 100 from st_l hS 6 (by decide)) (by omega) (by omega) dX3_copyFrom_106 ?_
      refine x_aload_n G 0 rfl rfl dX3_copyFrom_107 ?_
      refine x_get G (xR (a + 7)) xf3_4 lk_X3_28 (st_n hS 0 (by decide)) (st_k hS 0 (by decide)) (Or.inr ⟨rfl, _, (st_r hS 0 4 (by decide) (by decide)), rfl⟩) dX3_copyFrom_108 ?_
      refine x_iload_n G 2 rfl rfl dX3_copyFrom_111 ?_
      refine x_aload_n G 1 rfl rfl dX3_copyFrom_112 ?_
      refine x_get G (xR (b + 7)) xf3_4 lk_X3_28 (st_n hSb 0 (by decide)) (st_k hSb 0 (by decide)) (Or.inr ⟨rfl, _, (st_r hSb 0 4 (by decide) (by decide)), rfl⟩) dX3_copyFrom_113 ?_
      refine x_iload_n G 2 rfl rfl dX3_copyFrom_116 ?_
      refine x_iald G (st_n hSb 7 (by decide)) (st_k hSb 7 (by decide)) (show _ = 100 from st_l hSb 7 (by decide)) (by omega) (by omega) dX3_copyFrom_117 ?_
      rw [show (xst (xst (xst M1 (a + 4) k.toNat (V 4 k.toNat)) (a + 5) k.toNat (V 5 k.toNat)) (a + 6) k.toNat (V 6 k.toNat)) (b + 7) k.toNat = (V 7 k.toNat) from ((xst_nq (by omega)).trans ((xst_nq (by omega)).trans ((xst_nq (by omega)).trans (congrFun (hVb 7 (by decide) (by decide) (by decide)) k.toNat))))]
      refine x_iast G (st_n hS 7 (by decide)) (st_k hS 7 (by decide)) (show _ = 100 from st_l hS 7 (by decide)) (by omega) (by omega) dX3_copyFrom_118 ?_
      refine x_aload_n G 0 rfl rfl dX3_copyFrom_119 ?_
      refine x_get G (xR (a + 8)) xf3_5 lk_X3_31 (st_n hS 0 (by decide)) (st_k hS 0 (by decide)) (Or.inr ⟨rfl, _, (st_r hS 0 5 (by decide) (by decide)), rfl⟩) dX3_copyFrom_120 ?_
      refine x_iload_n G 2 rfl rfl dX3_copyFrom_123 ?_
      refine x_aload_n G 1 rfl rfl dX3_copyFrom_124 ?_
      refine x_get G (xR (b + 8)) xf3_5 lk_X3_31 (st_n hSb 0 (by decide)) (st_k hSb 0 (by decide)) (Or.inr ⟨rfl, _, (st_r hSb 0 5 (by decide) (by decide)), rfl⟩) dX3_copyFrom_125 ?_
      refine x_iload_n G 2 rfl rfl dX3_copyFrom_128 ?_
      refine x_iald G (st_n hSb 8 (by decide)) (st_k hSb 8 (by decide)) (show _ = 100 from st_l hSb 8 (by decide)) (by omega) (by omega) dX3_copyFrom_129 ?_
      rw [show (xst (xst (xst (xst M1 (a + 4) k.toNat (V 4 k.toNat)) (a + 5) k.toNat (V 5 k.toNat)) (a + 6) k.toNat (V 6 k.toNat)) (a + 7) k.toNat (V 7 k.toNat)) (b + 8) k.toNat = (V 8 k.toNat) from ((xst_nq (by omega)).trans ((xst_nq (by omega)).trans ((xst_nq (by omega)).trans ((xst_nq (by omega)).trans (congrFun (hVb 8 (by decide) (by decide) (by decide)) k.toNat)))))]
      refine x_iast G (st_n hS 8 (by decide)) (st_k hS 8 (by decide)) (show _ = 100 from st_l hS 8 (by decide)) (by omega) (by omega) dX3_copyFrom_130 ?_
      refine x_aload_n G 0 rfl rfl dX3_copyFrom_131 ?_
      refine x_get G (xR (a + 9)) xf3_6 lk_X3_34 (st_n hS 0 (by decide)) (st_k hS 0 (by decide)) (Or.inr ⟨rfl, _, (st_r hS 0 6 (by decide) (by decide)), rfl⟩) dX3_copyFrom_132 ?_
      refine x_iload_n G 2 rfl rfl dX3_copyFrom_135 ?_
      refine x_aload_n G 1 rfl rfl dX3_copyFrom_136 ?_
      refine x_get G (xR (b + 9)) xf3_6 lk_X3_34 (st_n hSb 0 (by decide)) (st_k hSb 0 (by decide)) (Or.inr ⟨rfl, _, (st_r hSb 0 6 (by decide) (by decide)), rfl⟩) dX3_copyFrom_137 ?_
      refine x_iload_n G 2 rfl rfl dX3_copyFrom_140 ?_
      refine x_zald G (st_n hSb 9 (by decide)) (st_k hSb 9 (by decide)) (show _ = 100 from st_l hSb 9 (by decide)) (by omega) (by omega) dX3_copyFrom_141 ?_
      rw [show (xst (xst (xst (xst (xst M1 (a + 4) k.toNat (V 4 k.toNat)) (a + 5) k.toNat (V 5 k.toNat)) (a + 6) k.toNat (V 6 k.toNat)) (a + 7) k.toNat (V 7 k.toNat)) (a + 8) k.toNat (V 8 k.toNat)) (b + 9) k.toNat = (V 9 k.toNat) from ((xst_nq (by omega)).trans ((xst_nq (by omega)).trans ((xst_nq (by omega)).trans ((xst_nq (by omega)).trans ((xst_nq (by omega)).trans (congrFun (hVb 9 (by decide) (by decide) (by decide)) k.toNat))))))]
      refine x_zast G (by omega) (st_n hS 9 (by decide)) (st_k hS 9 (by decide)) (show _ = 100 from st_l hS 9 (by decide)) (by omega) (by omega) dX3_copyFrom_142 ?_
      refine x_aload_n G 0 rfl rfl dX3_copyFrom_143 ?_
      refine x_get G (xR (a + 10)) xf3_7 lk_X3_38 (st_n hS 0 (by decide)) (st_k hS 0 (by decide)) (Or.inr ⟨rfl, _, (st_r hS 0 7 (by decide) (by decide)), rfl⟩) dX3_copyFrom_144 ?_
      refine x_iload_n G 2 rfl rfl dX3_copyFrom_147 ?_
      refine x_aload_n G 1 rfl rfl dX3_copyFrom_148 ?_
      refine x_get G (xR (b + 10)) xf3_7 lk_X3_38 (st_n hSb 0 (by decide)) (st_k hSb 0 (by decide)) (Or.inr ⟨rfl, _, (st_r hSb 0 7 (by decide) (by decide)), rfl⟩) dX3_copyFrom_149 ?_
      refine x_iload_n G 2 rfl rfl dX3_copyFrom_152 ?_
      refine x_iald G (st_n hSb 10 (by decide)) (st_k hSb 10 (by decide)) (show _ = 100 from st_l hSb 10 (by decide)) (by omega) (by omega) dX3_copyFrom_153 ?_
      rw [show (xst (xst (xst (xst (xst (xst M1 (a + 4) k.toNat (V 4 k.toNat)) (a + 5) k.toNat (V 5 k.toNat)) (a + 6) k.toNat (V 6 k.toNat)) (a + 7) k.toNat (V 7 k.toNat)) (a + 8) k.toNat (V 8 k.toNat)) (a + 9) k.toNat (V 9 k.toNat)) (b + 10) k.toNat = (V 10 k.toNat) from ((xst_nq (by omega)).trans ((xst_nq (by omega)).trans ((xst_nq (by omega)).trans ((xst_nq (by omega)).trans ((xst_nq (by omega)).trans ((xst_nq (by omega)).trans (congrFun (hVb 10 (by decide) (by decide) (by decide)) k.toNat)))))))]
      refine x_iast G (st_n hS 10 (by decide)) (st_k hS 10 (by decide)) (show _ = 100 from st_l hS 10 (by decide)) (by omega) (by omega) dX3_copyFrom_154 ?_
      refine x_iinc G [(2, xI (k + 1)), (0, xR a), (1, xR b)] 2 rfl (by decide) (by omega) rfl dX3_copyFrom_155 ?_
      refine x_goto G 63 (by decide) dX3_copyFrom_158 ?_
      refine x_sub [(0, xR a), (1, xR b), (2, xI (k + 1))] [1, 2, 0] rfl ?_
      exact ih63 _ (by omega) (k + 1) (xst (xst (xst (xst (xst (xst (xst M1 (a + 4) k.toNat (V 4 k.toNat)) (a + 5) k.toNat (V 5 k.toNat)) (a + 6) k.toNat (V 6 k.toNat)) (a + 7) k.toNat (V 7 k.toNat)) (a + 8) k.toNat (V 8 k.toNat)) (a + 9) k.toNat (V 9 k.toNat)) (a + 10) k.toNat (V 10 k.toNat)) rfl (by omega) ((shw_st (shw_st (shw_st (shw_st (shw_st (shw_st (shw_st hVb (by omega)) (by omega)) (by omega)) (by omega)) (by omega)) (by omega)) (by omega))) (by simp [xst_eq]; exact h1) (by simp [xst_eq]; exact h2) (by
        intro i hi
        by_cases e : i = k.toNat
        · subst e; simp [xst_eq]
        · have := h3 i (by omega)
          simp [xst_eq, e]; omega) (fun q hq => by simp (disch := omega) only [xst_row]; exact h4 q hq)
  refine x_sub [(0, xR a), (1, xR b), (2, xI 0)] [1, 2, 0] rfl ?_
  exact loop63 _ 0 (xst (xst (xst (xst (xst (xst (xst (xst (xst (xst (xst M a 10 (V 0 10)) a 11 (V 0 11)) a 12 (V 0 12)) (a + 11) 0 (V 11 0)) (a + 12) 0 (V 12 0)) (a + 11) 1 (V 11 1)) (a + 12) 1 (V 12 1)) (a + 11) 2 (V 11 2)) (a + 12) 2 (V 12 2)) (a + 11) 3 (V 11 3)) (a + 12) 3 (V 12 3)) rfl (by omega) ((shw_st (shw_st (shw_st (shw_st (shw_st (shw_st (shw_st (shw_st (shw_st (shw_st (shw_st hV (by omega)) (by omega)) (by omega)) (by omega)) (by omega)) (by omega)) (by omega)) (by omega)) (by omega)) (by omega)) (by omega))) (by simp [xst_eq]) (four (by simp [xst_eq]) (by simp [xst_eq]) (by simp [xst_eq]) (by simp [xst_eq])) (by intro i hi; omega) (fun q hq => by simp (disch := omega) only [xst_row])
set_option maxRecDepth 100000 in
set_option maxHeartbeats 4000000 in
theorem kX3_drawLot (D : xD) (l : Launch) {n : Nat} {T : xT} {M : xM} (a : Nat) (V : xM) (hS : StL n T a) (hV : shw M a V) (hv : VOK V) : xC D l uX3_drawLot 2 42 0 0 [xR a] n T M (xPI n T (fun z M2 => z = drw (V 0 12) / 64 ∧ M2 = xst M a 12 (drw (V 0 12)))) := by
  refine x_met uX3_drawLot (by decide) (Nat.le_of_ble_eq_true rfl) ?_
  intro Γ G Rt _
  have G : xG Γ RX3 cX3_drawLot 1 2 42 0 0 := G
  have Rt : xRt Γ (xPI n T (fun z M2 => z = drw (V 0 12) / 64 ∧ M2 = xst M a 12 (drw (V 0 12)))) (some .int) 0 0 := Rt
  show xX Γ 0 0 n T 0 [(0, xR a)] [] M
  have hsc := hv.1
  have hd := drw_b (V 0 12)
  refine x_aload_n G 0 rfl rfl dX3_drawLot_0 ?_
  refine x_aload_n G 0 rfl rfl dX3_drawLot_1 ?_
  refine x_get G (xI (M a 12)) xf3_12 lk_X3_57 (st_n hS 0 (by decide)) (st_k hS 0 (by decide)) (Or.inl ⟨rfl, rfl⟩) dX3_drawLot_2 ?_
  rw [show M a 12 = (V 0 12) from (congrFun (hV 0 (by decide) (by decide) (by decide)) 12)]
  refine x_callSp G [xR a] [xI (V 0 12)] hy_X6_seedOfNextLot ht_X6_seedOfNextLot ml_X3_68 rfl rfl (kX6_seedOfNextLot _ _ (V 0 12) (by omega)) (by decide) (by decide) (Nat.le_of_ble_eq_true rfl) dX3_drawLot_5 ?_
  refine x_put G  xf3_12 lk_X3_57 (st_n hS 0 (by decide)) (st_k hS 0 (by decide)) rfl dX3_drawLot_8 ?_
  refine x_aload_n G 0 rfl rfl dX3_drawLot_11 ?_
  refine x_get G (xI ((xst M a 12 (drw (V 0 12))) a 12)) xf3_12 lk_X3_57 (st_n hS 0 (by decide)) (st_k hS 0 (by decide)) (Or.inl ⟨rfl, rfl⟩) dX3_drawLot_12 ?_
  rw [show (xst M a 12 (drw (V 0 12))) a 12 = (drw (V 0 12)) from (xst_same ..)]
  refine x_callSp G [] [xI (drw (V 0 12))] hy_X6_lotOfSeed ht_X6_lotOfSeed ml_X3_72 rfl rfl (kX6_lotOfSeed _ _ (drw (V 0 12)) (by omega)) (by decide) (by decide) (Nat.le_of_ble_eq_true rfl) dX3_drawLot_15 ?_
  exact x_iret G Rt dX3_drawLot_18 ⟨rfl, rfl, _, rfl, ⟨rfl, rfl⟩⟩
abbrev addV (V : xM) (sh lab w lo : Int) : xM := xst (xst (xst (xst (xst (xst (xst V 4 (V 0 10).toNat sh) 5 (V 0 10).toNat lab) 6 (V 0 10).toNat w) 7 (V 0 10).toNat lo) 8 (V 0 10).toNat (V 0 11)) 9 (V 0 10).toNat 0) 0 10 (V 0 10 + 1)
theorem addV_ok {V : xM} (hv : VOK V) (h : V 0 10 < 100) {sh lab w lo : Int} (h1 : 0 ≤ sh ∧ sh ≤ 3) (h2 : 0 ≤ lab ∧ lab ≤ 25) (h3 : 1 ≤ w ∧ w ≤ 20) (h4 : 1 ≤ lo ∧ lo ≤ 1023) : VOK (addV V sh lab w lo) := by
  obtain ⟨g1, g2, g3, g4⟩ := hv
  have hc : 0 ≤ V 0 10 := g1.1.1
  refine ⟨?_, fun s hs => ?_, fun i hi => ?_, fun i j hij hj => ?_⟩
  · simp [xst_eq, scl]; omega
  · have := g2 s hs
    simp [xst_eq, swd]; omega
  · simp [xst_eq] at hi
    by_cases e : i = (V 0 10).toNat
    · subst e; simp [xst_eq, itm]; omega
    · have := g3 i (by omega)
      simp [xst_eq, itm, e]; omega
  · simp [xst_eq] at hj
    by_cases e : j = (V 0 10).toNat
    · subst e
      by_cases e2 : i = (V 0 10).toNat
      · subst e2; simp [xst_eq]
      · have := g3 i (by omega)
        simp [xst_eq, e2]; omega
    · have := g4 i j hij (by omega)
      have e2 : i ≠ (V 0 10).toNat := by omega
      simp [xst_eq, e, e2]; exact this
set_option maxRecDepth 100000 in
set_option maxHeartbeats 4000000 in
theorem kX3_add (D : xD) (l : Launch) {n : Nat} {T : xT} {M : xM} (a : Nat) (V : xM) (sh lab w lo : Int) (hS : StL n T a) (hV : shw M a V) (hv : VOK V) (hlt : V 0 10 < 100) : xC D l uX3_add 0 0 0 0 [xR a, xI sh, xI lab, xI w, xI lo] n T M (xPI n T (fun z M2 => z = V 0 10 ∧ shw M2 a (addV V sh lab w lo) ∧ fro a M M2)) := by
  refine x_met uX3_add (by decide) (Nat.le_of_ble_eq_true rfl) ?_
  intro Γ G Rt _
  have G : xG Γ RX3 cX3_add 6 0 0 0 0 := G
  have Rt : xRt Γ (xPI n T (fun z M2 => z = V 0 10 ∧ shw M2 a (addV V sh lab w lo) ∧ fro a M M2)) (some .int) 0 0 := Rt
  show xX Γ 0 0 n T 0 [(0, xR a), (1, xI sh), (2, xI lab), (3, xI w), (4, xI lo)] [] M
  have hc := ok_c hv
  refine x_aload_n G 0 rfl rfl dX3_add_0 ?_
  refine x_get G (xI (M a 10)) xf3_10 lk_X3_50 (st_n hS 0 (by decide)) (st_k hS 0 (by decide)) (Or.inl ⟨rfl, rfl⟩) dX3_add_1 ?_
  rw [show M a 10 = (V 0 10) from (congrFun (hV 0 (by decide) (by decide) (by decide)) 10)]
  refine x_istore G [(5, xI (V 0 10)), (0, xR a), (1, xI sh), (2, xI lab), (3, xI w), (4, xI lo)] (by decide) rfl dX3_add_4 ?_
  refine x_aload_n G 1 rfl rfl dX3_add_6 ?_
  refine x_get G (xR (a + 4)) xf3_1 lk_X3_18 (st_n hS 0 (by decide)) (st_k hS 0 (by decide)) (Or.inr ⟨rfl, _, (st_r hS 0 1 (by decide) (by decide)), rfl⟩) dX3_add_7 ?_
  refine x_iload G 0 rfl dX3_add_10 ?_
  refine x_iload_n G 2 rfl rfl dX3_add_12 ?_
  refine x_iast G (st_n hS 4 (by decide)) (st_k hS 4 (by decide)) (show _ = 100 from st_l hS 4 (by decide)) (by omega) (by omega) dX3_add_13 ?_
  refine x_aload_n G 1 rfl rfl dX3_add_14 ?_
  refine x_get G (xR (a + 5)) xf3_2 lk_X3_22 (st_n hS 0 (by decide)) (st_k hS 0 (by decide)) (Or.inr ⟨rfl, _, (st_r hS 0 2 (by decide) (by decide)), rfl⟩) dX3_add_15 ?_
  refine x_iload G 0 rfl dX3_add_18 ?_
  refine x_iload_n G 3 rfl rfl dX3_add_20 ?_
  refine x_iast G (st_n hS 5 (by decide)) (st_k hS 5 (by decide)) (show _ = 100 from st_l hS 5 (by decide)) (by omega) (by omega) dX3_add_21 ?_
  refine x_aload_n G 1 rfl rfl dX3_add_22 ?_
  refine x_get G (xR (a + 6)) xf3_3 lk_X3_25 (st_n hS 0 (by decide)) (st_k hS 0 (by decide)) (Or.inr ⟨rfl, _, (st_r hS 0 3 (by decide) (by decide)), rfl⟩) dX3_add_23 ?_
  refine x_iload G 0 rfl dX3_add_26 ?_
  refine x_iload_n G 4 rfl rfl dX3_add_28 ?_
  refine x_iast G (st_n hS 6 (by decide)) (st_k hS 6 (by decide)) (show _ = 100 from st_l hS 6 (by decide)) (by omega) (by omega) dX3_add_29 ?_
  refine x_aload_n G 1 rfl rfl dX3_add_30 ?_
  refine x_get G (xR (a + 7)) xf3_4 lk_X3_28 (st_n hS 0 (by decide)) (st_k hS 0 (by decide)) (Or.inr ⟨rfl, _, (st_r hS 0 4 (by decide) (by decide)), rfl⟩) dX3_add_31 ?_
  refine x_iload G 0 rfl dX3_add_34 ?_
  refine x_iload G 5 rfl dX3_add_36 ?_
  refine x_iast G (st_n hS 7 (by decide)) (st_k hS 7 (by decide)) (show _ = 100 from st_l hS 7 (by decide)) (by omega) (by omega) dX3_add_38 ?_
  refine x_aload_n G 1 rfl rfl dX3_add_39 ?_
  refine x_get G (xR (a + 8)) xf3_5 lk_X3_31 (st_n hS 0 (by decide)) (st_k hS 0 (by decide)) (Or.inr ⟨rfl, _, (st_r hS 0 5 (by decide) (by decide)), rfl⟩) dX3_add_40 ?_
  refine x_iload G 0 rfl dX3_add_43 ?_
  refine x_aload_n G 1 rfl rfl dX3_add_45 ?_
  refine x_get G (xI ((xst (xst (xst (xst M (a + 4) (V 0 10).toNat sh) (a + 5) (V 0 10).toNat lab) (a + 6) (V 0 10).toNat w) (a + 7) (V 0 10).toNat lo) a 11)) xf3_11 lk_X3_54 (st_n hS 0 (by decide)) (st_k hS 0 (by decide)) (Or.inl ⟨rfl, rfl⟩) dX3_add_46 ?_
  rw [show (xst (xst (xst (xst M (a + 4) (V 0 10).toNat sh) (a + 5) (V 0 10).toNat lab) (a + 6) (V 0 10).toNat w) (a + 7) (V 0 10).toNat lo) a 11 = (V 0 11) from ((xst_nq (by omega)).trans ((xst_nq (by omega)).trans ((xst_nq (by omega)).trans ((xst_nq (by omega)).trans (congrFun (hV 0 (by decide) (by decide) (by decide)) 11)))))]
  refine x_iast G (st_n hS 8 (by decide)) (st_k hS 8 (by decide)) (show _ = 100 from st_l hS 8 (by decide)) (by omega) (by omega) dX3_add_49 ?_
  refine x_aload_n G 1 rfl rfl dX3_add_50 ?_
  refine x_get G (xR (a + 9)) xf3_6 lk_X3_34 (st_n hS 0 (by decide)) (st_k hS 0 (by decide)) (Or.inr ⟨rfl, _, (st_r hS 0 6 (by decide) (by decide)), rfl⟩) dX3_add_51 ?_
  refine x_iload G 0 rfl dX3_add_54 ?_
  refine x_iconst G (by decide) dX3_add_56 ?_
  refine x_zast G (by omega) (st_n hS 9 (by decide)) (st_k hS 9 (by decide)) (show _ = 100 from st_l hS 9 (by decide)) (by omega) (by omega) dX3_add_57 ?_
  refine x_aload_n G 1 rfl rfl dX3_add_58 ?_
  refine x_dup G rfl dX3_add_59 ?_
  refine x_get G (xI ((xst (xst (xst (xst (xst (xst M (a + 4) (V 0 10).toNat sh) (a + 5) (V 0 10).toNat lab) (a + 6) (V 0 10).toNat w) (a + 7) (V 0 10).toNat lo) (a + 8) (V 0 10).toNat (V 0 11)) (a + 9) (V 0 10).toNat 0) a 10)) xf3_10 lk_X3_50 (st_n hS 0 (by decide)) (st_k hS 0 (by decide)) (Or.inl ⟨rfl, rfl⟩) dX3_add_60 ?_
  rw [show (xst (xst (xst (xst (xst (xst M (a + 4) (V 0 10).toNat sh) (a + 5) (V 0 10).toNat lab) (a + 6) (V 0 10).toNat w) (a + 7) (V 0 10).toNat lo) (a + 8) (V 0 10).toNat (V 0 11)) (a + 9) (V 0 10).toNat 0) a 10 = (V 0 10) from ((xst_nq (by omega)).trans ((xst_nq (by omega)).trans ((xst_nq (by omega)).trans ((xst_nq (by omega)).trans ((xst_nq (by omega)).trans ((xst_nq (by omega)).trans (congrFun (hV 0 (by decide) (by decide) (by decide)) 10)))))))]
  refine x_iconst G (by decide) dX3_add_63 ?_
  refine x_iadd G (by omega) dX3_add_64 ?_
  refine x_put G  xf3_10 lk_X3_50 (st_n hS 0 (by decide)) (st_k hS 0 (by decide)) rfl dX3_add_65 ?_
  refine x_iload G 0 rfl dX3_add_68 ?_
  exact x_iret G Rt dX3_add_70 ⟨rfl, rfl, _, rfl, ⟨rfl, (shw_xst (shw_xst (shw_xst (shw_xst (shw_xst (shw_xst (shw_xst hV (k := 4) (by decide)) (k := 5) (by decide)) (k := 6) (by decide)) (k := 7) (by decide)) (k := 8) (by decide)) (k := 9) (by decide)) (k := 0) (by decide)), fun q hq => by simp (disch := omega) only [xst_row]⟩⟩
theorem shw_row {M M2 : xM} {a k : Nat} {V : xM} (h : shw M a V) (h2 : ∀ q, q ≠ a + 2 → q ≠ a + 3 → q ≠ a + k → M2 q = M q) : shw M2 a (xsr V k (M2 (a + k))) := fun q g1 g2 g3 => by
  unfold xsr
  by_cases e : q = k
  · subst e; rw [if_pos rfl]
  · rw [if_neg e, h2 _ (by omega) (by omega) (by omega)]; exact h q g1 g2 g3
set_option maxRecDepth 100000 in
set_option maxHeartbeats 4000000 in
theorem kX3_rank (D : xD) (l : Launch) {n : Nat} {T : xT} {M : xM} (a : Nat) (V : xM) (i : Int) (hS : StL n T a) (hV : shw M a V) (hv : VOK V) (hi : 0 ≤ i ∧ i < V 0 10) (hs : Srt V (V 10) i.toNat) : xC D l uX3_rank 5 115 0 0 [xR a, xI i] n T M (xPV n T (fun M2 => Srt V (M2 (a + 10)) (i.toNat + 1) ∧ xof [a + 2, a + 3, a + 10] M M2)) := by
  refine x_met uX3_rank (by decide) (Nat.le_of_ble_eq_true rfl) ?_
  intro Γ G Rt _
  have G : xG Γ RX3 cX3_rank 4 5 115 0 0 := G
  have Rt : xRt Γ (xPV n T (fun M2 => Srt V (M2 (a + 10)) (i.toNat + 1) ∧ xof [a + 2, a + 3, a + 10] M M2)) none 0 0 := Rt
  show xX Γ 0 0 n T 0 [(0, xR a), (1, xI i)] [] M
  have hc := ok_c hv
  obtain ⟨c, hc0, hc1, hc2⟩ := srt_cut hv hs (by omega) hi
  refine x_iconst G (by decide) dX3_rank_0 ?_
  refine x_istore_n G [(2, xI 0), (0, xR a), (1, xI i)] rfl (by decide) rfl dX3_rank_1 ?_
  refine x_bipush G (by decide) dX3_rank_2 ?_
  refine x_istore_n G [(3, xI 64), (2, xI 0), (0, xR a), (1, xI i)] rfl (by decide) rfl dX3_rank_4 ?_
  have loop5 : ∀ (d : Nat) (h : Int) (st : Int) (M1 : xM), st.toNat = d → ((st = 0 ∧ h = c) ∨ ((st = 1 ∨ st = 2 ∨ st = 4 ∨ st = 8 ∨ st = 16 ∨ st = 32 ∨ st = 64) ∧ 0 ≤ h ∧ h ≤ c ∧ c < h + 2 * st)) → (shw M1 a V) → (xof [a + 2, a + 3] M M1) → xX Γ 0 0 n T 5 [(0, xR a), (1, xI i), (2, xI h), (3, xI st)] [] M1 := by
    intro d
    induction d using Nat.strongRecOn with
    | ind d ih5 =>
    intro h st M1 hd5 hst hV1 hx1
    refine x_iload_n G 3 rfl rfl dX3_rank_5 ?_
    refine x_if_le G 45 (by decide) dX3_rank_6 (fun c6 => ?_) (fun c6 => ?_)
    · skip
      refine x_iload_n G 1 rfl rfl dX3_rank_45 ?_
      refine x_istore_n G [(3, xI i), (0, xR a), (1, xI i), (2, xI h)] rfl (by decide) rfl dX3_rank_46 ?_
      have loop47 : ∀ (d : Nat) (k : Int) (M3 : xM), k.toNat = d → (h ≤ k ∧ k ≤ i) → (∀ p : Nat, M3 (a + 10) p = if k.toNat < p ∧ p ≤ i.toNat then V 10 (p - 1) else V 10 p) → (xof [a + 2, a + 3, a + 10] M M3) → xX Γ 0 0 n T 47 [(0, xR a), (1, xI i), (2, xI h), (3, xI k)] [] M3 := by
        intro d
        induction d using Nat.strongRecOn with
        | ind d ih47 =>
        intro k M3 hd47 hk hR hx3
        have hh : 0 ≤ h := by omega
        refine x_iload_n G 3 rfl rfl dX3_rank_47 ?_
        refine x_iload_n G 2 rfl rfl dX3_rank_48 ?_
        refine x_icmp_le G 72 (by decide) dX3_rank_49 (fun c49 => ?_) (fun c49 => ?_)
        · skip
          refine x_aload_n G 0 rfl rfl dX3_rank_72 ?_
          refine x_get G (xR (a + 10)) xf3_7 lk_X3_38 (st_n hS 0 (by decide)) (st_k hS 0 (by decide)) (Or.inr ⟨rfl, _, (st_r hS 0 7 (by decide) (by decide)), rfl⟩) dX3_rank_73 ?_
          refine x_iload_n G 2 rfl rfl dX3_rank_76 ?_
          refine x_iload_n G 1 rfl rfl dX3_rank_77 ?_
          refine x_iast G (st_n hS 10 (by decide)) (st_k hS 10 (by decide)) (show _ = 100 from st_l hS 10 (by decide)) (by omega) (by omega) dX3_rank_78 ?_
          exact x_vret G Rt dX3_rank_79 ⟨rfl, rfl, rfl, by
      have e9 : i = ((i.toNat : Nat) : Int) := by omega
      have hkc : k = h := by omega
      have hhc : h = (c : Int) := by omega
      refine ⟨?_, fun q hq => by rw [xst_row (by intro e; subst e; simp at hq)]; exact hx3 q hq⟩
      refine srt_cg (R := insR (V 10) c i.toNat) (fun p hp => ?_) (srt_ins hv hs hc0 (fun p hp => by rw [← e9]; exact hc1 p hp) (fun p h1 h2 => by rw [← e9]; exact hc2 p h1 h2))
      rw [xst_eq, hR]
      unfold insR
      by_cases g : p < c
      · rw [if_neg (by omega), if_neg (by omega), if_pos g]
      · by_cases g2 : p = c
        · rw [if_pos ⟨rfl, by omega⟩, if_neg g, if_pos g2]; exact e9
        · rw [if_neg (by omega), if_neg g, if_neg g2, if_pos (by omega), if_pos (by omega)]⟩
        · skip
          refine x_aload_n G 0 rfl rfl dX3_rank_52 ?_
          refine x_get G (xR (a + 10)) xf3_7 lk_X3_38 (st_n hS 0 (by decide)) (st_k hS 0 (by decide)) (Or.inr ⟨rfl, _, (st_r hS 0 7 (by decide) (by decide)), rfl⟩) dX3_rank_53 ?_
          refine x_iload_n G 3 rfl rfl dX3_rank_56 ?_
          refine x_aload_n G 0 rfl rfl dX3_rank_57 ?_
          refine x_get G (xR (a + 10)) xf3_7 lk_X3_38 (st_n hS 0 (by decide)) (st_k hS 0 (by decide)) (Or.inr ⟨rfl, _, (st_r hS 0 7 (by decide) (by decide)), rfl⟩) dX3_rank_58 ?_
          refine x_iload_n G 3 rfl rfl dX3_rank_61 ?_
          refine x_iconst G (by decide) dX3_rank_62 ?_
          refine x_isub G (by omega) dX3_rank_63 ?_
          refine x_iald G (st_n hS 10 (by decide)) (st_k hS 10 (by decide)) (show _ = 100 from st_l hS 10 (by decide)) (by omega) (by omega) dX3_rank_64 ?_
          refine x_iast G (st_n hS 10 (by decide)) (st_k hS 10 (by decide)) (show _ = 100 from st_l hS 10 (by decide)) (by omega) (by omega) dX3_rank_65 ?_
          refine x_iinc G [(3, xI (k + (-1))), (0, xR a), (1, xI i), (2, xI h)] 3 rfl (by decide) (by omega) rfl dX3_rank_66 ?_
          refine x_goto G 47 (by decide) dX3_rank_69 ?_
          refine x_sub [(0, xR a), (1, xI i), (2, xI h), (3, xI (k + (-1)))] [1, 2, 3, 0] rfl ?_
          exact ih47 _ (by omega) (k + (-1)) (xst M3 (a + 10) k.toNat (M3 (a + 10) (k - 1).toNat)) rfl (by omega) (by
        intro p
        rw [xst_eq]
        by_cases e : p = k.toNat
        · rw [if_pos ⟨rfl, e⟩, hR, if_neg (by omega), if_pos (by omega), e]; congr 1; omega
        · rw [if_neg (fun h9 => e h9.2), hR]
          by_cases e2 : k.toNat < p ∧ p ≤ i.toNat
          · rw [if_pos e2, if_pos (by omega)]
          · rw [if_neg e2, if_neg (by omega)]) (fun q hq => by rw [xst_row (by intro e; subst e; simp at hq)]; exact hx3 q hq)
      refine x_sub [(0, xR a), (1, xI i), (2, xI h), (3, xI i)] [1, 2, 3, 0] rfl ?_
      exact loop47 _ i M1 rfl (by omega) (fun p => by rw [if_neg (by omega), hV1 10 (by decide) (by decide) (by decide)]) (xof_mono hx1 (by simp))
    · skip
      refine x_iload_n G 2 rfl rfl dX3_rank_9 ?_
      refine x_iload_n G 3 rfl rfl dX3_rank_10 ?_
      refine x_iadd G (by omega) dX3_rank_11 ?_
      refine x_iload_n G 1 rfl rfl dX3_rank_12 ?_
      refine x_icmp_gt G 38 (by decide) dX3_rank_13 (fun c13 => ?_) (fun c13 => ?_)
      · skip
        refine x_iload_n G 3 rfl rfl dX3_rank_38 ?_
        refine x_iconst G (by decide) dX3_rank_39 ?_
        refine x_ishr G (st / 2) (by have := x_shr' (x := st) (k := 1) (by omega) (by omega) (by decide) (by decide); exact this) (by omega) dX3_rank_40 ?_
        refine x_istore_n G [(3, xI (st / 2)), (0, xR a), (1, xI i), (2, xI h)] rfl (by decide) rfl dX3_rank_41 ?_
        refine x_goto G 5 (by decide) dX3_rank_42 ?_
        refine x_sub [(0, xR a), (1, xI i), (2, xI h), (3, xI (st / 2))] [1, 2, 3, 0] rfl ?_
        exact ih5 _ (by omega) h (st / 2) M1 rfl (by omega) (hV1) (hx1)
      · skip
        have hr := hs.1 ((h + st) - 1).toNat (by omega)
        refine x_aload_n G 0 rfl rfl dX3_rank_16 ?_
        refine x_aload_n G 0 rfl rfl dX3_rank_17 ?_
        refine x_get G (xR (a + 10)) xf3_7 lk_X3_38 (st_n hS 0 (by decide)) (st_k hS 0 (by decide)) (Or.inr ⟨rfl, _, (st_r hS 0 7 (by decide) (by decide)), rfl⟩) dX3_rank_18 ?_
        refine x_iload_n G 2 rfl rfl dX3_rank_21 ?_
        refine x_iload_n G 3 rfl rfl dX3_rank_22 ?_
        refine x_iadd G (by omega) dX3_rank_23 ?_
        refine x_iconst G (by decide) dX3_rank_24 ?_
        refine x_isub G (by omega) dX3_rank_25 ?_
        refine x_iald G (st_n hS 10 (by decide)) (st_k hS 10 (by decide)) (show _ = 100 from st_l hS 10 (by decide)) (by omega) (by omega) dX3_rank_26 ?_
        rw [show M1 (a + 10) ((h + st) - 1).toNat = (V 10 ((h + st) - 1).toNat) from (congrFun (hV1 10 (by decide) (by decide) (by decide)) ((h + st) - 1).toNat)]
        refine x_iload_n G 1 rfl rfl dX3_rank_27 ?_
        refine x_callVI G [] [xI (V 10 ((h + st) - 1).toNat), xI i] rfl (by decide) (st_n hS 0 (by decide)) (st_k hS 0 (by decide)) hy_X3_isAhead hi_X3_isAhead hs_X3_isAhead ml_X3_83 rfl rfl (kX3_isAhead _ _ a V (V 10 ((h + st) - 1).toNat) i hS hV1 hv (by omega) (by omega)) (by decide) (by decide) (Nat.le_of_ble_eq_true rfl) dX3_rank_28 (fun z28 M28 h28 => ?_)
        rw [h28.1]
        refine x_if_eq G 38 (by decide) dX3_rank_31 (fun c31 => ?_) (fun c31 => ?_)
        · skip
          have c31 := b2i_eq0.mp c31
          have hcc : (c : Int) < h + st := by (rcases Nat.lt_or_ge ((h + st) - 1).toNat c with g | g; exact absurd (hc1 _ g) c31; omega)
          refine x_iload_n G 3 rfl rfl dX3_rank_38 ?_
          refine x_iconst G (by decide) dX3_rank_39 ?_
          refine x_ishr G (st / 2) (by have := x_shr' (x := st) (k := 1) (by omega) (by omega) (by decide) (by decide); exact this) (by omega) dX3_rank_40 ?_
          refine x_istore_n G [(3, xI (st / 2)), (0, xR a), (1, xI i), (2, xI h)] rfl (by decide) rfl dX3_rank_41 ?_
          refine x_goto G 5 (by decide) dX3_rank_42 ?_
          refine x_sub [(0, xR a), (1, xI i), (2, xI h), (3, xI (st / 2))] [1, 2, 3, 0] rfl ?_
          exact ih5 _ (by omega) h (st / 2) M28 rfl (by omega) ((shw_xof hV1 h28.2 (by intro k9 h1 h2 h3; simp <;> omega))) (xof_trans hx1 h28.2)
        · skip
          have c31 := b2i_ne0.mp c31
          have hcc : h + st ≤ c := by (rcases Nat.lt_or_ge ((h + st) - 1).toNat c with g | g; omega; exact absurd c31 (hc2 _ g (by omega)))
          refine x_iload_n G 2 rfl rfl dX3_rank_34 ?_
          refine x_iload_n G 3 rfl rfl dX3_rank_35 ?_
          refine x_iadd G (by omega) dX3_rank_36 ?_
          refine x_istore_n G [(2, xI (h + st)), (0, xR a), (1, xI i), (3, xI st)] rfl (by decide) rfl dX3_rank_37 ?_
          refine x_iload_n G 3 rfl rfl dX3_rank_38 ?_
          refine x_iconst G (by decide) dX3_rank_39 ?_
          refine x_ishr G (st / 2) (by have := x_shr' (x := st) (k := 1) (by omega) (by omega) (by decide) (by decide); exact this) (by omega) dX3_rank_40 ?_
          refine x_istore_n G [(3, xI (st / 2)), (2, xI (h + st)), (0, xR a), (1, xI i)] rfl (by decide) rfl dX3_rank_41 ?_
          refine x_goto G 5 (by decide) dX3_rank_42 ?_
          refine x_sub [(0, xR a), (1, xI i), (2, xI (h + st)), (3, xI (st / 2))] [2, 3, 1, 0] rfl ?_
          exact ih5 _ (by omega) (h + st) (st / 2) M28 rfl (by omega) ((shw_xof hV1 h28.2 (by intro k9 h1 h2 h3; simp <;> omega))) (xof_trans hx1 h28.2)
  refine x_sub [(0, xR a), (1, xI i), (2, xI 0), (3, xI 64)] [2, 3, 1, 0] rfl ?_
  exact loop5 _ 0 64 M rfl (by omega) (hV) (xof_refl _ _)
theorem seqr_row {V W : xM} {R : Nat → Int} (h : seq V W) : seq (xsr V 10 R) W := by
  obtain ⟨h1, h2, h3⟩ := h
  exact ⟨h1, h2, h3⟩
theorem vok_row {V : xM} {R : Nat → Int} (h : VOK V) : VOK (xsr V 10 R) := h
set_option maxRecDepth 100000 in
set_option maxHeartbeats 4000000 in
theorem kX3_rankAll (D : xD) (l : Launch) {n : Nat} {T : xT} {M : xM} (a : Nat) (V : xM) (hS : StL n T a) (hV : shw M a V) (hv : VOK V) : xC D l uX3_rankAll 6 138 0 0 [xR a] n T M (xPV n T (fun M2 => Srt V (M2 (a + 10)) (V 0 10).toNat ∧ xof [a + 2, a + 3, a + 10] M M2)) := by
  refine x_met uX3_rankAll (by decide) (Nat.le_of_ble_eq_true rfl) ?_
  intro Γ G Rt _
  have G : xG Γ RX3 cX3_rankAll 2 6 138 0 0 := G
  have Rt : xRt Γ (xPV n T (fun M2 => Srt V (M2 (a + 10)) (V 0 10).toNat ∧ xof [a + 2, a + 3, a + 10] M M2)) none 0 0 := Rt
  show xX Γ 0 0 n T 0 [(0, xR a)] [] M
  have hc := ok_c hv
  refine x_iconst G (by decide) dX3_rankAll_0 ?_
  refine x_istore_n G [(1, xI 0), (0, xR a)] rfl (by decide) rfl dX3_rankAll_1 ?_
  have loop2 : ∀ (d : Nat) (k : Int) (M1 : xM), (V 0 10 - k).toNat = d → (0 ≤ k ∧ k ≤ V 0 10) → (Srt V (M1 (a + 10)) k.toNat) → (xof [a + 2, a + 3, a + 10] M M1) → xX Γ 0 0 n T 2 [(0, xR a), (1, xI k)] [] M1 := by
    intro d
    induction d using Nat.strongRecOn with
    | ind d ih2 =>
    intro k M1 hd2 hk hs1 hx1
    have hV1 : shw M1 a (xsr V 10 (M1 (a + 10))) := shw_row hV (fun q g1 g2 g3 => hx1 q (by simp <;> omega))
    have hv1 : VOK (xsr V 10 (M1 (a + 10))) := vok_row hv
    have hx10 : xsr V 10 (M1 (a + 10)) 0 10 = V 0 10 := rfl
    refine x_iload_n G 1 rfl rfl dX3_rankAll_2 ?_
    refine x_aload_n G 0 rfl rfl dX3_rankAll_3 ?_
    refine x_get G (xI (M1 a 10)) xf3_10 lk_X3_50 (st_n hS 0 (by decide)) (st_k hS 0 (by decide)) (Or.inl ⟨rfl, rfl⟩) dX3_rankAll_4 ?_
    rw [show M1 a 10 = ((xsr V 10 (M1 (a + 10))) 0 10) from (congrFun (hV1 0 (by decide) (by decide) (by decide)) 10)]
    refine x_icmp_ge G 21 (by decide) dX3_rankAll_7 (fun c7 => ?_) (fun c7 => ?_)
    · skip
      exact x_vret G Rt dX3_rankAll_21 ⟨rfl, rfl, rfl, ⟨by have e : k = V 0 10 := (by omega); rw [← e]; exact hs1, hx1⟩⟩
    · skip
      refine x_aload_n G 0 rfl rfl dX3_rankAll_10 ?_
      refine x_iload_n G 1 rfl rfl dX3_rankAll_11 ?_
      refine x_callVV G [] [xI k] rfl (by decide) (st_n hS 0 (by decide)) (st_k hS 0 (by decide)) hy_X3_rank hi_X3_rank hs_X3_rank ml_X3_79 rfl rfl (kX3_rank _ _ a (xsr V 10 (M1 (a + 10))) k hS hV1 hv1 (show 0 ≤ k ∧ k < V 0 10 by omega) hs1) (by decide) (by decide) (Nat.le_of_ble_eq_true rfl) dX3_rankAll_12 (fun M12 h12 => ?_)
      refine x_iinc G [(1, xI (k + 1)), (0, xR a)] 1 rfl (by decide) (by omega) rfl dX3_rankAll_15 ?_
      refine x_goto G 2 (by decide) dX3_rankAll_18 ?_
      refine x_sub [(0, xR a), (1, xI (k + 1))] [1, 0] rfl ?_
      exact ih2 _ (by omega) (k + 1) M12 rfl (by omega) (by rw [show (k + 1).toNat = k.toNat + 1 by omega]; exact h12.1) (xof_trans hx1 h12.2)
  refine x_sub [(0, xR a), (1, xI 0)] [1, 0] rfl ?_
  exact loop2 _ 0 M rfl (by omega) (⟨fun p hp => by omega, fun p q hpq hq => by omega⟩) (xof_refl _ _)
theorem srt_add {V : xM} {sh lab w lo : Int} {m : Nat} (hm : (m : Int) ≤ V 0 10) (h : Srt V (V 10) m) : Srt (addV V sh lab w lo) (addV V sh lab w lo 10) m := by
  refine ⟨fun p hp => by simp [xst_eq]; exact h.1 p hp, fun p q hpq hq => ?_⟩
  have a := h.1 p (by omega)
  have b := h.1 q hq
  have e1 : (V 10 p).toNat ≠ (V 0 10).toNat := by omega
  have e2 : (V 10 q).toNat ≠ (V 0 10).toNat := by omega
  have := h.2 p q hpq hq
  simp [xst_eq, ahd, ahw, e1, e2] at this ⊢
  exact this
set_option maxRecDepth 100000 in
set_option maxHeartbeats 4000000 in
theorem kX3_addRanked (D : xD) (l : Launch) {n : Nat} {T : xT} {M : xM} (a : Nat) (V : xM) (sh lab w lo : Int) (hS : StL n T a) (hV : shw M a V) (hv : VOK V) (hlt : V 0 10 < 100) (h1 : 0 ≤ sh ∧ sh ≤ 3) (h2 : 0 ≤ lab ∧ lab ≤ 25) (h3 : 1 ≤ w ∧ w ≤ 20) (h4 : 1 ≤ lo ∧ lo ≤ 1023) (hs : Srt V (V 10) (V 0 10).toNat) : xC D l uX3_addRanked 6 138 0 0 [xR a, xI sh, xI lab, xI w, xI lo] n T M (xPI n T (fun z M2 => z = V 0 10 ∧ seq (vw M2 a) (addV V sh lab w lo) ∧ Srt (addV V sh lab w lo) (M2 (a + 10)) (V 0 10 + 1).toNat ∧ fro a M M2)) := by
  refine x_met uX3_addRanked (by decide) (Nat.le_of_ble_eq_true rfl) ?_
  intro Γ G Rt _
  have G : xG Γ RX3 cX3_addRanked 6 6 138 0 0 := G
  have Rt : xRt Γ (xPI n T (fun z M2 => z = V 0 10 ∧ seq (vw M2 a) (addV V sh lab w lo) ∧ Srt (addV V sh lab w lo) (M2 (a + 10)) (V 0 10 + 1).toNat ∧ fro a M M2)) (some .int) 0 0 := Rt
  show xX Γ 0 0 n T 0 [(0, xR a), (1, xI sh), (2, xI lab), (3, xI w), (4, xI lo)] [] M
  have hc := ok_c hv
  have hv2 := addV_ok hv hlt h1 h2 h3 h4
  refine x_aload_n G 0 rfl rfl dX3_addRanked_0 ?_
  refine x_iload_n G 1 rfl rfl dX3_addRanked_1 ?_
  refine x_iload_n G 2 rfl rfl dX3_addRanked_2 ?_
  refine x_iload_n G 3 rfl rfl dX3_addRanked_3 ?_
  refine x_iload G 4 rfl dX3_addRanked_4 ?_
  refine x_callVI G [] [xI sh, xI lab, xI w, xI lo] rfl (by decide) (st_n hS 0 (by decide)) (st_k hS 0 (by decide)) hy_X3_add hi_X3_add hs_X3_add ml_X3_75 rfl rfl (kX3_add _ _ a V sh lab w lo hS hV hv (by omega)) (by decide) (by decide) (Nat.le_of_ble_eq_true rfl) dX3_addRanked_6 (fun z6 M6 h6 => ?_)
  rw [h6.1]
  refine x_istore G [(5, xI (V 0 10)), (0, xR a), (1, xI sh), (2, xI lab), (3, xI w), (4, xI lo)] (by decide) rfl dX3_addRanked_9 ?_
  refine x_aload_n G 1 rfl rfl dX3_addRanked_11 ?_
  refine x_iload G 0 rfl dX3_addRanked_12 ?_
  refine x_callVV G [] [xI (V 0 10)] rfl (by decide) (st_n hS 0 (by decide)) (st_k hS 0 (by decide)) hy_X3_rank hi_X3_rank hs_X3_rank ml_X3_79 rfl rfl (kX3_rank _ _ a (addV V sh lab w lo) (V 0 10) hS h6.2.1 hv2 (by simp [xst_eq]; omega) (srt_add (by omega) hs)) (by decide) (by decide) (Nat.le_of_ble_eq_true rfl) dX3_addRanked_14 (fun M14 h14 => ?_)
  refine x_iload G 0 rfl dX3_addRanked_17 ?_
  exact x_iret G Rt dX3_addRanked_19 ⟨rfl, rfl, _, rfl, ⟨rfl, by
      have hg : ∀ k, k < 13 → k ≠ 2 → k ≠ 3 → k ≠ 10 → M14 (a + k) = addV V sh lab w lo k := fun k g1 g2 g3 g4 => by
        rw [h14.2 _ (by simp; omega)]; exact h6.2.1 k g1 g2 g3
      have e0 : ∀ k, k < 13 → k ≠ 2 → k ≠ 3 → k ≠ 10 → vw M14 a k = addV V sh lab w lo k := hg
      refine ⟨?_, fun s _ => ?_, fun i _ => ?_⟩
      · rw [e0 0 (by decide) (by decide) (by decide) (by decide)]; exact ⟨rfl, rfl, rfl⟩
      · rw [e0 11 (by decide) (by decide) (by decide) (by decide), e0 12 (by decide) (by decide) (by decide) (by decide)]; exact ⟨rfl, rfl⟩
      · rw [e0 4 (by decide) (by decide) (by decide) (by decide), e0 5 (by decide) (by decide) (by decide) (by decide), e0 6 (by decide) (by decide) (by decide) (by decide), e0 7 (by decide) (by decide) (by decide) (by decide), e0 8 (by decide) (by decide) (by decide) (by decide), e0 9 (by decide) (by decide) (by decide) (by decide)]
        exact ⟨rfl, rfl, rfl, rfl, rfl, rfl⟩, by
      rw [show (V 0 10 + 1).toNat = (V 0 10).toNat + 1 by omega]; exact h14.1, fun q hq => by
      rw [h14.2 _ (by simp; omega)]; exact h6.2.2 q hq⟩⟩
