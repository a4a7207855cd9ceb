theorem srt_ex {V : xM} (hv : VOK V) : ∃ R, Srt V R (V 0 10).toNat := by
  have key : ∀ m : Nat, (m : Int) ≤ V 0 10 → ∃ R, Srt V R m := by
    intro m
    induction m with
    | zero => intro _; exact ⟨fun _ => 0, fun p hp => absurd hp (Nat.not_lt_zero _), fun p q _ hq => absurd hq (Nat.not_lt_zero _)⟩
    | succ m ih =>
      intro hm
      obtain ⟨R, hR⟩ := ih (by omega)
      obtain ⟨c, h0, h1, h2⟩ := srt_cut hv hR (by omega) (i := (m : Int)) ⟨by omega, by omega⟩
      exact ⟨insR R c m, srt_ins hv hR h0 h1 h2⟩
  have := ok_c hv
  exact key _ (by omega)
theorem mr_sd {M V : xM} {z : Int} (h : mrel (M 196) V) : mrel (xst M 196 1 z 196) (xst V 0 12 z) := by
  refine ⟨⟨?_, ?_, ?_⟩, fun s hs => ⟨?_, ?_⟩, fun i hi => ⟨?_, ?_, ?_, ?_, ?_⟩⟩
  · rw [xst_nq (by omega), xst_nq (by omega)]; exact h.1.1
  · rw [xst_same, xst_same]
  · rw [xst_nq (by omega), xst_nq (by omega)]; exact h.1.2.2
  · rw [xst_nq (by omega), xst_nq (by omega)]; exact (h.2.1 s hs).1
  · rw [xst_nq (by omega), xst_nq (by omega)]; exact (h.2.1 s hs).2
  all_goals (have g := h.2.2 i hi)
  · rw [xst_nq (by omega), xst_nq (by omega), xst_nq (by omega)]; exact g.1
  · rw [xst_nq (by omega), xst_nq (by omega)]; exact g.2.1
  · rw [xst_nq (by omega), xst_nq (by omega)]; exact g.2.2.1
  · rw [xst_nq (by omega), xst_nq (by omega)]; exact g.2.2.2.1
  · rw [xst_nq (by omega), xst_nq (by omega)]; exact g.2.2.2.2
/-- one number of one item -/
theorem mr_set {M V : xM} {a w i : Nat} {z : Int} (h : mrel (M 196) V) (hw : w = 1 ∨ w = 2 ∨ w = 3 ∨ w = 4) (ha : a = 11 + 5 * i + w) : mrel (xst M 196 a z 196) (xst V (w + 4) i z) := by
  subst ha
  refine ⟨⟨?_, ?_, ?_⟩, fun s hs => ⟨?_, ?_⟩, fun j hj => ?_⟩
  · rw [xst_nq (by omega), xst_nq (by omega)]; exact h.1.1
  · rw [xst_nq (by omega), xst_nq (by omega)]; exact h.1.2.1
  · rw [xst_nq (by omega), xst_nq (by omega)]; exact h.1.2.2
  · rw [xst_nq (by omega), xst_nq (by omega)]; exact (h.2.1 s hs).1
  · rw [xst_nq (by omega), xst_nq (by omega)]; exact (h.2.1 s hs).2
  · have e0 : xst V (w + 4) i z 0 10 = V 0 10 := xst_nq (by omega)
    rw [e0] at hj
    have g := h.2.2 j hj
    have e4 : xst V (w + 4) i z 4 j = V 4 j := xst_nq (by omega)
    have e9 : xst V (w + 4) i z 9 j = V 9 j := xst_nq (by omega)
    rw [e4, e9]
    refine ⟨(xst_nq (by omega)).trans g.1, ?_, ?_, ?_, ?_⟩
    · by_cases e : w = 1 ∧ j = i
      · obtain ⟨rfl, rfl⟩ := e; rw [xst_same, xst_same]
      · rw [xst_nq (by omega), xst_nq (by omega)]; exact g.2.1
    · by_cases e : w = 2 ∧ j = i
      · obtain ⟨rfl, rfl⟩ := e; rw [xst_same, xst_same]
      · rw [xst_nq (by omega), xst_nq (by omega)]; exact g.2.2.1
    · by_cases e : w = 3 ∧ j = i
      · obtain ⟨rfl, rfl⟩ := e; rw [xst_same, xst_same]
      · rw [xst_nq (by omega), xst_nq (by omega)]; exact g.2.2.2.1
    · by_cases e : w = 4 ∧ j = i
      · obtain ⟨rfl, rfl⟩ := e; rw [xst_same, xst_same]
      · rw [xst_nq (by omega), xst_nq (by omega)]; exact g.2.2.2.2
theorem mr_row {N : Nat → Int} {V : xM} {R : Nat → Int} (h : mrel N V) : mrel N (xsr V 10 R) := h
theorem mfr_back {M N1 : xM} {a : Nat} {u s : Int} (h : mfr (xst M 196 a u) N1) (hs : M 196 a = s) : mfr M (xst N1 196 a s) := by
  refine ⟨fun q hq => ?_, ?_, ?_⟩
  · by_cases e : q = 196
    · subst e
      funext b
      rw [xst_eq]
      by_cases e2 : b = a
      · rw [if_pos ⟨rfl, e2⟩, e2]; exact hs.symm
      · rw [if_neg (fun g => e2 g.2), h.1 196 (by omega), xst_nq (Or.inr e2)]
    · rw [xst_row e, h.1 q hq, xst_row e]
  · rw [xst_nq (by omega), h.2.1, xst_nq (by omega)]
  · rw [xst_nq (by omega), h.2.2, xst_nq (by omega)]
theorem mfr_more {M N1 : xM} {a : Nat} {u z : Int} (h : mfr (xst M 196 a u) N1) : mfr (xst M 196 a z) (xst N1 196 a z) := by
  refine ⟨fun q hq => ?_, ?_, ?_⟩
  · by_cases e : q = 196
    · subst e
      funext b
      rw [xst_eq, xst_eq]
      by_cases e2 : b = a
      · rw [if_pos ⟨rfl, e2⟩, if_pos ⟨rfl, e2⟩]
      · rw [if_neg (fun g => e2 g.2), if_neg (fun g => e2 g.2), h.1 196 (by omega), xst_nq (Or.inr e2)]
    · rw [xst_row e, xst_row e, h.1 q hq, xst_row e]
  · rw [xst_nq (by omega), xst_nq (by omega), h.2.1, xst_nq (by omega)]
  · rw [xst_nq (by omega), xst_nq (by omega), h.2.2, xst_nq (by omega)]
theorem smL_sd (V : xM) (z sh : Int) : smL (xst V 0 12 z) sh = smL V sh := rfl
theorem wbi_sd (V : xM) (z sh lo w : Int) : wbi (xst V 0 12 z) sh lo w ↔ wbi V sh lo w := Iff.rfl
set_option maxRecDepth 100000 in
set_option maxHeartbeats 4000000 in
theorem kX7_needs (D : xD) (l : Launch) {n : Nat} {T : xT} {M : xM} (V : xM) (sh w : Int) (hY : LayOK n T) (hN : mrel (M 196) V) (hv : VOK V) (hs : Srt V (V 10) (V 0 10).toNat) (hR : Rk M V) : xC D l uX7_needs 9 212 0 0 [xR 195, xI sh, xI w] n T M (xPI n T (fun z M2 => (qNeeds V sh w z) ∧ mfr M M2 ∧ Rk M2 V)) := by
  refine x_met uX7_needs (by decide) (Nat.le_of_ble_eq_true rfl) ?_
  intro Γ G Rt _
  have G : xG Γ RX7 cX7_needs 4 9 212 0 0 := G
  have Rt : xRt Γ (xPI n T (fun z M2 => (qNeeds V sh w z) ∧ mfr M M2 ∧ Rk M2 V)) (some .int) 0 0 := Rt
  show xX Γ 0 0 n T 0 [(0, xR 195), (1, xI sh), (2, xI w)] [] M
  have hc := ok_c hv
  refine x_iload_n G 1 rfl rfl dX7_needs_0 ?_
  refine x_callSp G [] [xI sh] hy_X7_isShard ht_X7_isShard ml_X7_143 rfl rfl (kX7_isShard _ _ sh) (by decide) (by decide) (Nat.le_of_ble_eq_true rfl) dX7_needs_1 ?_
  refine x_if_eq G 19 (by decide) dX7_needs_4 (fun c4 => ?_) (fun c4 => ?_)
  · skip
    have c4 := b2i_eq0.mp c4
    refine x_iconst G (by decide) dX7_needs_19 ?_
    exact x_iret G Rt dX7_needs_20 ⟨rfl, rfl, _, rfl, ⟨Or.inr ⟨by omega, rfl⟩, (mfr_refl _), hR⟩⟩
  · skip
    have c4 := b2i_ne0.mp c4
    refine x_iload_n G 2 rfl rfl dX7_needs_7 ?_
    refine x_i2l G dX7_needs_8 ?_
    refine x_lconst G dX7_needs_9 ?_
    show xX Γ 0 0 n T 10 [(0, xR 195), (1, xI sh), (2, xI w)] [xL 1, xL w] M
    refine x_ldc2 G (z := 20) (by decide) kc_X7_161 dX7_needs_10 ?_
    refine x_callSp G [] [xL w, xL 1, xL 20] hy_X7_in ht_X7_in ml_X7_54 rfl rfl (kX7_in _ _ w 1 20) (by decide) (by decide) (Nat.le_of_ble_eq_true rfl) dX7_needs_13 ?_
    refine x_if_ne G 21 (by decide) dX7_needs_16 (fun c16 => ?_) (fun c16 => ?_)
    · skip
      have c16 := b2i_ne0.mp c16
      refine x_aload_n G 0 rfl rfl dX7_needs_21 ?_
      refine x_iload_n G 1 rfl rfl dX7_needs_22 ?_
      refine x_callVV G [] [xI sh] rfl (by decide) (ly_n hY 195 (by decide)) (ly_k hY 195 (by decide)) hy_X7_laysSample hi_X7_laysSample hs_X7_laysSample ml_X7_137 rfl rfl (kX7_laysSample _ _ V sh hY hN hv hs hR (by omega)) (by decide) (by decide) (Nat.le_of_ble_eq_true rfl) dX7_needs_23 (fun M23 h23 => ?_)
      have hn23 := h23.1.1
      have hl23 : (smL V sh).length ≤ 100 := take_len (alL_len hv _ _ _ _)
      refine x_iconst G (by decide) dX7_needs_26 ?_
      refine x_istore_n G [(3, xI 1), (0, xR 195), (1, xI sh), (2, xI w)] rfl (by decide) rfl dX7_needs_27 ?_
      have loop28 : ∀ (d : Nat) (k : Int) (N1 : xM), (1024 - k).toNat = d → (1 ≤ k ∧ k ≤ 1024) → (mfr M N1) → (Rk N1 V) → (Rw N1 (smL V sh)) → (∀ x, 1 ≤ x → x < k → ¬ wbi V sh x w) → xX Γ 0 0 n T 28 [(0, xR 195), (1, xI sh), (2, xI w), (3, xI k)] [] N1 := by
        intro d
        induction d using Nat.strongRecOn with
        | ind d ih28 =>
        intro k N1 hd28 hk hf1 hR1 hw1 hno
        skip
        refine x_iload_n G 3 rfl rfl dX7_needs_28 ?_
        refine x_sipush G (by decide) dX7_needs_29 ?_
        refine x_icmp_gt G 53 (by decide) dX7_needs_32 (fun c32 => ?_) (fun c32 => ?_)
        · skip
          refine x_bipush G (by decide) dX7_needs_53 ?_
          exact x_iret G Rt dX7_needs_55 ⟨rfl, rfl, _, rfl, ⟨Or.inl ⟨by omega, by omega, Or.inr ⟨rfl, fun x a b => hno x a (by omega)⟩⟩, hf1, hR1⟩⟩
        · skip
          refine x_aload_n G 0 rfl rfl dX7_needs_35 ?_
          refine x_iload_n G 1 rfl rfl dX7_needs_36 ?_
          refine x_iload_n G 3 rfl rfl dX7_needs_37 ?_
          refine x_iload_n G 2 rfl rfl dX7_needs_38 ?_
          refine x_callVI G [] [xI sh, xI k, xI w] rfl (by decide) (ly_n hY 195 (by decide)) (ly_k hY 195 (by decide)) hy_X7_wouldBeIn hi_X7_wouldBeIn hs_X7_wouldBeIn ml_X7_163 rfl rfl (kX7_wouldBeIn _ _ V sh k w hY (mr_cg hN (hf1.1 196 (by omega))) hv hs hw1 (by omega) (by omega) (by omega) (by omega)) (by decide) (by decide) (Nat.le_of_ble_eq_true rfl) dX7_needs_39 (fun z39 M39 h39 => ?_)
          rw [h39.1]
          refine x_if_eq G 47 (by decide) dX7_needs_42 (fun c42 => ?_) (fun c42 => ?_)
          · skip
            have c42 := b2i_eq0.mp c42
            refine x_iinc G [(3, xI (k + 1)), (0, xR 195), (1, xI sh), (2, xI w)] 3 rfl (by decide) (by omega) rfl dX7_needs_47 ?_
            refine x_goto G 28 (by decide) dX7_needs_50 ?_
            refine x_sub [(0, xR 195), (1, xI sh), (2, xI w), (3, xI (k + 1))] [1, 2, 3, 0] rfl ?_
            exact ih28 _ (by omega) (k + 1) M39 rfl (by omega) ((mfr_of hf1 h39.2 (by decide))) ((rk_cg hR1 (congrFun (h39.2 195 (by simp)) 10) (h39.2 203 (by simp)))) ((rw_cg hw1 (congrFun (h39.2 195 (by simp)) 8) (h39.2 202 (by simp)))) (by intro x a b; rcases Int.lt_or_le x k with g | g; exact hno x a g; have e : x = k := (by omega); rw [e]; exact c42)
          · skip
            have c42 := b2i_ne0.mp c42
            refine x_iload_n G 3 rfl rfl dX7_needs_45 ?_
            exact x_iret G Rt dX7_needs_46 ⟨rfl, rfl, _, rfl, ⟨Or.inl ⟨by omega, by omega, Or.inl ⟨by omega, c42, hno⟩⟩, (mfr_of hf1 h39.2 (by decide)), (rk_cg hR1 (congrFun (h39.2 195 (by simp)) 10) (h39.2 203 (by simp)))⟩⟩
      refine x_sub [(0, xR 195), (1, xI sh), (2, xI w), (3, xI 1)] [1, 2, 3, 0] rfl ?_
      exact loop28 _ 1 M23 rfl (by omega) ((mfr_tr (mfr_refl _) (mfx_w 207 h23.2.1 (by decide)))) (h23.2.2) (h23.1) (by intro x a b; omega)
    · skip
      have c16 := b2i_eq0.mp c16
      refine x_iconst G (by decide) dX7_needs_19 ?_
      exact x_iret G Rt dX7_needs_20 ⟨rfl, rfl, _, rfl, ⟨Or.inr ⟨by omega, rfl⟩, (mfr_refl _), hR⟩⟩
set_option maxRecDepth 100000 in
set_option maxHeartbeats 4000000 in
theorem kX7_heavy (D : xD) (l : Launch) {n : Nat} {T : xT} {M : xM} (V : xM) (sh lo : Int) (hY : LayOK n T) (hN : mrel (M 196) V) (hv : VOK V) (hs : Srt V (V 10) (V 0 10).toNat) (hR : Rk M V) : xC D l uX7_heavy 9 212 0 0 [xR 195, xI sh, xI lo] n T M (xPI n T (fun z M2 => (qHeavy V sh lo z) ∧ mfr M M2 ∧ Rk M2 V)) := by
  refine x_met uX7_heavy (by decide) (Nat.le_of_ble_eq_true rfl) ?_
  intro Γ G Rt _
  have G : xG Γ RX7 cX7_heavy 4 9 212 0 0 := G
  have Rt : xRt Γ (xPI n T (fun z M2 => (qHeavy V sh lo z) ∧ mfr M M2 ∧ Rk M2 V)) (some .int) 0 0 := Rt
  show xX Γ 0 0 n T 0 [(0, xR 195), (1, xI sh), (2, xI lo)] [] M
  have hc := ok_c hv
  refine x_iload_n G 1 rfl rfl dX7_heavy_0 ?_
  refine x_callSp G [] [xI sh] hy_X7_isShard ht_X7_isShard ml_X7_143 rfl rfl (kX7_isShard _ _ sh) (by decide) (by decide) (Nat.le_of_ble_eq_true rfl) dX7_heavy_1 ?_
  refine x_if_eq G 19 (by decide) dX7_heavy_4 (fun c4 => ?_) (fun c4 => ?_)
  · skip
    have c4 := b2i_eq0.mp c4
    refine x_iconst G (by decide) dX7_heavy_19 ?_
    exact x_iret G Rt dX7_heavy_20 ⟨rfl, rfl, _, rfl, ⟨Or.inr ⟨by omega, rfl⟩, (mfr_refl _), hR⟩⟩
  · skip
    have c4 := b2i_ne0.mp c4
    refine x_iload_n G 2 rfl rfl dX7_heavy_7 ?_
    refine x_i2l G dX7_heavy_8 ?_
    refine x_lconst G dX7_heavy_9 ?_
    show xX Γ 0 0 n T 10 [(0, xR 195), (1, xI sh), (2, xI lo)] [xL 1, xL lo] M
    refine x_ldc2 G (z := 1023) (by decide) kc_X7_166 dX7_heavy_10 ?_
    refine x_callSp G [] [xL lo, xL 1, xL 1023] hy_X7_in ht_X7_in ml_X7_54 rfl rfl (kX7_in _ _ lo 1 1023) (by decide) (by decide) (Nat.le_of_ble_eq_true rfl) dX7_heavy_13 ?_
    refine x_if_ne G 21 (by decide) dX7_heavy_16 (fun c16 => ?_) (fun c16 => ?_)
    · skip
      have c16 := b2i_ne0.mp c16
      refine x_aload_n G 0 rfl rfl dX7_heavy_21 ?_
      refine x_iload_n G 1 rfl rfl dX7_heavy_22 ?_
      refine x_callVV G [] [xI sh] rfl (by decide) (ly_n hY 195 (by decide)) (ly_k hY 195 (by decide)) hy_X7_laysSample hi_X7_laysSample hs_X7_laysSample ml_X7_137 rfl rfl (kX7_laysSample _ _ V sh hY hN hv hs hR (by omega)) (by decide) (by decide) (Nat.le_of_ble_eq_true rfl) dX7_heavy_23 (fun M23 h23 => ?_)
      have hn23 := h23.1.1
      have hl23 : (smL V sh).length ≤ 100 := take_len (alL_len hv _ _ _ _)
      refine x_iconst G (by decide) dX7_heavy_26 ?_
      refine x_istore_n G [(3, xI 1), (0, xR 195), (1, xI sh), (2, xI lo)] rfl (by decide) rfl dX7_heavy_27 ?_
      have loop28 : ∀ (d : Nat) (k : Int) (N1 : xM), (21 - k).toNat = d → (1 ≤ k ∧ k ≤ 21) → (mfr M N1) → (Rk N1 V) → (Rw N1 (smL V sh)) → (∀ x, 1 ≤ x → x < k → ¬ wbi V sh lo x) → xX Γ 0 0 n T 28 [(0, xR 195), (1, xI sh), (2, xI lo), (3, xI k)] [] N1 := by
        intro d
        induction d using Nat.strongRecOn with
        | ind d ih28 =>
        intro k N1 hd28 hk hf1 hR1 hw1 hno
        skip
        refine x_iload_n G 3 rfl rfl dX7_heavy_28 ?_
        refine x_bipush G (by decide) dX7_heavy_29 ?_
        refine x_icmp_gt G 52 (by decide) dX7_heavy_31 (fun c31 => ?_) (fun c31 => ?_)
        · skip
          refine x_bipush G (by decide) dX7_heavy_52 ?_
          exact x_iret G Rt dX7_heavy_54 ⟨rfl, rfl, _, rfl, ⟨Or.inl ⟨by omega, by omega, Or.inr ⟨rfl, fun x a b => hno x a (by omega)⟩⟩, hf1, hR1⟩⟩
        · skip
          refine x_aload_n G 0 rfl rfl dX7_heavy_34 ?_
          refine x_iload_n G 1 rfl rfl dX7_heavy_35 ?_
          refine x_iload_n G 2 rfl rfl dX7_heavy_36 ?_
          refine x_iload_n G 3 rfl rfl dX7_heavy_37 ?_
          refine x_callVI G [] [xI sh, xI lo, xI k] rfl (by decide) (ly_n hY 195 (by decide)) (ly_k hY 195 (by decide)) hy_X7_wouldBeIn hi_X7_wouldBeIn hs_X7_wouldBeIn ml_X7_163 rfl rfl (kX7_wouldBeIn _ _ V sh lo k hY (mr_cg hN (hf1.1 196 (by omega))) hv hs hw1 (by omega) (by omega) (by omega) (by omega)) (by decide) (by decide) (Nat.le_of_ble_eq_true rfl) dX7_heavy_38 (fun z38 M38 h38 => ?_)
          rw [h38.1]
          refine x_if_eq G 46 (by decide) dX7_heavy_41 (fun c41 => ?_) (fun c41 => ?_)
          · skip
            have c41 := b2i_eq0.mp c41
            refine x_iinc G [(3, xI (k + 1)), (0, xR 195), (1, xI sh), (2, xI lo)] 3 rfl (by decide) (by omega) rfl dX7_heavy_46 ?_
            refine x_goto G 28 (by decide) dX7_heavy_49 ?_
            refine x_sub [(0, xR 195), (1, xI sh), (2, xI lo), (3, xI (k + 1))] [1, 2, 3, 0] rfl ?_
            exact ih28 _ (by omega) (k + 1) M38 rfl (by omega) ((mfr_of hf1 h38.2 (by decide))) ((rk_cg hR1 (congrFun (h38.2 195 (by simp)) 10) (h38.2 203 (by simp)))) ((rw_cg hw1 (congrFun (h38.2 195 (by simp)) 8) (h38.2 202 (by simp)))) (by intro x a b; rcases Int.lt_or_le x k with g | g; exact hno x a g; have e : x = k := (by omega); rw [e]; exact c41)
          · skip
            have c41 := b2i_ne0.mp c41
            refine x_iload_n G 3 rfl rfl dX7_heavy_44 ?_
            exact x_iret G Rt dX7_heavy_45 ⟨rfl, rfl, _, rfl, ⟨Or.inl ⟨by omega, by omega, Or.inl ⟨by omega, c41, hno⟩⟩, (mfr_of hf1 h38.2 (by decide)), (rk_cg hR1 (congrFun (h38.2 195 (by simp)) 10) (h38.2 203 (by simp)))⟩⟩
      refine x_sub [(0, xR 195), (1, xI sh), (2, xI lo), (3, xI 1)] [1, 2, 3, 0] rfl ?_
      exact loop28 _ 1 M23 rfl (by omega) ((mfr_tr (mfr_refl _) (mfx_w 207 h23.2.1 (by decide)))) (h23.2.2) (h23.1) (by intro x a b; omega)
    · skip
      have c16 := b2i_eq0.mp c16
      refine x_iconst G (by decide) dX7_heavy_19 ?_
      exact x_iret G Rt dX7_heavy_20 ⟨rfl, rfl, _, rfl, ⟨Or.inr ⟨by omega, rfl⟩, (mfr_refl _), hR⟩⟩
theorem x_divL {x y : Int} (h0 : 0 ≤ x) (hx : i64 x) (hy0 : 0 < y) (hy : i64 y) : Int64.ofInt x / Int64.ofInt y = Int64.ofInt (x / y) := by
  have hd : 0 ≤ x / y ∧ x / y ≤ x := ⟨Int.ediv_nonneg h0 (by omega), Int.ediv_le_self y h0⟩
  apply Int64.toInt_inj.mp
  rw [Int64.toInt_div, x_toInt64 hx, x_toInt64 hy, x_toInt64 ⟨by omega, by omega⟩, Int.tdiv_eq_ediv_of_nonneg h0]
  exact Int.bmod_eq_of_le (by omega) (by omega)
theorem x_remL {x y : Int} (h0 : 0 ≤ x) (hx : i64 x) (hy0 : 0 < y) (hy : i64 y) : Int64.ofInt x - Int64.ofInt x / Int64.ofInt y * Int64.ofInt y = Int64.ofInt (x % y) := by
  rw [x_divL h0 hx hy0 hy, ← Int64.ofInt_mul, ← Int64.ofInt_sub, Int.emod_def, Int.mul_comm]
theorem x_nzL {y : Int} (h : 0 < y) (hy : i64 y) : ¬ Int64.ofInt y = 0 := by
  intro h9
  have : (Int64.ofInt y).toInt = 0 := by rw [h9]; rfl
  rw [x_toInt64 hy] at this
  omega
abbrev drj (j : Nat) (lo q sd : Int) : Prop := (j = 2 ∧ lo = 0 ∧ q = sd) ∨ (j = 1 ∧ lo = 0 ∧ q = nxt sd ∧ q < 64) ∨ (j = 0 ∧ lo = q / 64 ∧ q = drw sd ∧ 64 ≤ q)
theorem drw_inv {j : Nat} {lo q sd : Int} (hj : drj j lo q sd) (c : lo = 0) : drj (if 64 ≤ nxt q then 0 else j - 1) (nxt q / 64) (nxt q) sd := by
  rcases hj with ⟨g1, g2, g3⟩ | ⟨g1, g2, g3, g4⟩ | ⟨g1, g2, g3, g4⟩
  · by_cases g : 64 ≤ nxt q
    · rw [if_pos g]; exact Or.inr (Or.inr ⟨rfl, rfl, by unfold drw; rw [← g3, if_pos g], g⟩)
    · have := nxt_b q
      rw [if_neg g]; exact Or.inr (Or.inl ⟨by omega, by omega, by rw [g3], by omega⟩)
  · have g5 : 64 ≤ nxt q := nxt_two (by rw [g3]; exact (nxt_b sd).1) g4
    rw [if_pos g5]; exact Or.inr (Or.inr ⟨rfl, rfl, by unfold drw; rw [if_neg (by omega), g3], g5⟩)
  · omega
set_option maxRecDepth 100000 in
set_option maxHeartbeats 4000000 in
theorem kX7_drawn (D : xD) (l : Launch) {n : Nat} {T : xT} {M : xM} (sd : Int) (hY : LayOK n T) (hsd : M 196 1 = sd) (hsb : 0 ≤ sd ∧ sd ≤ 65535) : xC D l uX7_drawn 0 0 0 0 [xR 195, xR 196] n T M (xPI n T (fun z M2 => z = drw sd / 64 ∧ M2 = xst M 196 1 (drw sd))) := by
  refine x_met uX7_drawn (by decide) (Nat.le_of_ble_eq_true rfl) ?_
  intro Γ G Rt _
  have G : xG Γ RX7 cX7_drawn 3 0 0 0 0 := G
  have Rt : xRt Γ (xPI n T (fun z M2 => z = drw sd / 64 ∧ M2 = xst M 196 1 (drw sd))) (some .int) 0 0 := Rt
  show xX Γ 0 0 n T 0 [(0, xR 195), (1, xR 196)] [] M
  have hd1 := drw_b sd
  have hnb := nxt_b sd
  have hnb2 := nxt_b (nxt sd)
  have hn64 : nxt sd < 64 → 64 ≤ nxt (nxt sd) := fun h => nxt_two hnb.1 h
  refine x_iconst G (by decide) dX7_drawn_0 ?_
  refine x_istore_n G [(2, xI 0), (0, xR 195), (1, xR 196)] rfl (by decide) rfl dX7_drawn_1 ?_
  have loop2 : ∀ (d : Nat) (j : Nat) (q : Int) (lo : Int) (M1 : xM), j = d → (M1 = xst M 196 1 q) → (drj j lo q sd) → xX Γ 0 0 n T 2 [(0, xR 195), (1, xR 196), (2, xI lo)] [] M1 := by
    intro d
    induction d using Nat.strongRecOn with
    | ind d ih2 =>
    intro j q lo M1 hd2 hM1 hj
    have hqb : 0 ≤ q ∧ q ≤ 65535 := by (rcases hj with h | h | h <;> omega)
    have hrd : M1 196 1 = q := by rw [hM1, xst_same]
    have hnq := nxt_b q
    refine x_iload_n G 2 rfl rfl dX7_drawn_2 ?_
    refine x_if_ne G 36 (by decide) dX7_drawn_3 (fun c3 => ?_) (fun c3 => ?_)
    · skip
      refine x_iload_n G 2 rfl rfl dX7_drawn_36 ?_
      exact x_iret G Rt dX7_drawn_37 ⟨rfl, rfl, _, rfl, by rcases hj with h | h | h; omega; omega; exact ⟨by rw [h.2.1, h.2.2.1], by rw [hM1, h.2.2.1]⟩⟩
    · skip
      refine x_aload_n G 1 rfl rfl dX7_drawn_6 ?_
      refine x_iconst G (by decide) dX7_drawn_7 ?_
      refine x_ldc2 G (z := 25173) (by decide) kc_X7_168 dX7_drawn_8 ?_
      refine x_aload_n G 1 rfl rfl dX7_drawn_11 ?_
      refine x_iconst G (by decide) dX7_drawn_12 ?_
      refine x_iald G (ly_n hY 196 (by decide)) (ly_k hY 196 (by decide)) (show _ = 511 from ly_l hY 196 (by decide)) (by omega) (by omega) dX7_drawn_13 ?_
      show xX Γ 0 0 n T 14 [(0, xR 195), (1, xR 196), (2, xI lo)] [xI (M1 196 1), xL 25173, xI 1, xR 196] M1
      rw [hrd]
      skip
      refine x_i2l G dX7_drawn_14 ?_
      refine x_lmul G (by omega) dX7_drawn_15 ?_
      refine x_ldc2 G (z := 13849) (by decide) kc_X7_170 dX7_drawn_16 ?_
      refine x_ladd G (by omega) dX7_drawn_19 ?_
      refine x_ldc2 G (z := 65536) (by decide) kc_X7_172 dX7_drawn_20 ?_
      refine x_lrem G (nxt q) (x_nzL (by decide) ⟨by decide, by decide⟩) (x_remL (by omega) ⟨by omega, by omega⟩ (by decide) ⟨by decide, by decide⟩) (by omega) dX7_drawn_23 ?_
      refine x_l2i G (by omega) dX7_drawn_24 ?_
      refine x_iast G (ly_n hY 196 (by decide)) (ly_k hY 196 (by decide)) (show _ = 511 from ly_l hY 196 (by decide)) (by omega) (by omega) dX7_drawn_25 ?_
      show xX Γ 0 0 n T 26 [(0, xR 195), (1, xR 196), (2, xI lo)] [] (xst M1 196 1 (nxt q))
      refine x_aload_n G 1 rfl rfl dX7_drawn_26 ?_
      refine x_iconst G (by decide) dX7_drawn_27 ?_
      refine x_iald G (ly_n hY 196 (by decide)) (ly_k hY 196 (by decide)) (show _ = 511 from ly_l hY 196 (by decide)) (by omega) (by omega) dX7_drawn_28 ?_
      show xX Γ 0 0 n T 29 [(0, xR 195), (1, xR 196), (2, xI lo)] [xI ((xst M1 196 1 (nxt q)) 196 1)] (xst M1 196 1 (nxt q))
      rw [show (xst M1 196 1 (nxt q)) 196 1 = (nxt q) from (xst_same ..)]
      refine x_bipush G (by decide) dX7_drawn_29 ?_
      refine x_idiv G (nxt q / 64) (x_nz (by decide) (by decide)) (x_div' hnq.1 ⟨by omega, by omega⟩ (by decide) (by decide)) (by omega) dX7_drawn_31 ?_
      refine x_istore_n G [(2, xI (nxt q / 64)), (0, xR 195), (1, xR 196)] rfl (by decide) rfl dX7_drawn_32 ?_
      refine x_goto G 2 (by decide) dX7_drawn_33 ?_
      refine x_sub [(0, xR 195), (1, xR 196), (2, xI (nxt q / 64))] [1, 2, 0] rfl ?_
      exact ih2 _ (by (have hj2 : j = 2 ∨ j = 1 := by (rcases hj with h | h | h <;> omega)); split <;> omega) (if 64 ≤ nxt q then 0 else j - 1) (nxt q) (nxt q / 64) (xst M1 196 1 (nxt q)) rfl (by rw [hM1, xst_xst]) (drw_inv hj (by omega))
  refine x_sub [(0, xR 195), (1, xR 196), (2, xI 0)] [1, 2, 0] rfl ?_
  exact loop2 _ 2 sd 0 M rfl ((xst_id hsd).symm) (Or.inl ⟨rfl, rfl, rfl⟩)
set_option maxRecDepth 100000 in
set_option maxHeartbeats 4000000 in
theorem kX7_skip (D : xD) (l : Launch) {n : Nat} {T : xT} {M : xM} (V : xM) (sh w : Int) (hY : LayOK n T) (hN : mrel (M 196) V) (hv : VOK V) (hs : Srt V (V 10) (V 0 10).toNat) (hR : Rk M V) : xC D l uX7_skip 9 212 0 0 [xR 195, xI sh, xI w] n T M (xPI n T (fun z M2 => (qSkip V sh w z) ∧ mfr M M2 ∧ Rk M2 V)) := by
  refine x_met uX7_skip (by decide) (Nat.le_of_ble_eq_true rfl) ?_
  intro Γ G Rt _
  have G : xG Γ RX7 cX7_skip 5 9 212 0 0 := G
  have Rt : xRt Γ (xPI n T (fun z M2 => (qSkip V sh w z) ∧ mfr M M2 ∧ Rk M2 V)) (some .int) 0 0 := Rt
  show xX Γ 0 0 n T 0 [(0, xR 195), (1, xI sh), (2, xI w)] [] M
  have hc := ok_c hv
  have hsc := hv.1
  refine x_iload_n G 1 rfl rfl dX7_skip_0 ?_
  refine x_callSp G [] [xI sh] hy_X7_isShard ht_X7_isShard ml_X7_143 rfl rfl (kX7_isShard _ _ sh) (by decide) (by decide) (Nat.le_of_ble_eq_true rfl) dX7_skip_1 ?_
  refine x_if_eq G 19 (by decide) dX7_skip_4 (fun c4 => ?_) (fun c4 => ?_)
  · skip
    have c4 := b2i_eq0.mp c4
    refine x_iconst G (by decide) dX7_skip_19 ?_
    exact x_iret G Rt dX7_skip_20 ⟨rfl, rfl, _, rfl, ⟨Or.inr ⟨by omega, rfl⟩, (mfr_refl _), hR⟩⟩
  · skip
    have c4 := b2i_ne0.mp c4
    refine x_iload_n G 2 rfl rfl dX7_skip_7 ?_
    refine x_i2l G dX7_skip_8 ?_
    refine x_lconst G dX7_skip_9 ?_
    show xX Γ 0 0 n T 10 [(0, xR 195), (1, xI sh), (2, xI w)] [xL 1, xL w] M
    refine x_ldc2 G (z := 20) (by decide) kc_X7_161 dX7_skip_10 ?_
    refine x_callSp G [] [xL w, xL 1, xL 20] hy_X7_in ht_X7_in ml_X7_54 rfl rfl (kX7_in _ _ w 1 20) (by decide) (by decide) (Nat.le_of_ble_eq_true rfl) dX7_skip_13 ?_
    refine x_if_ne G 21 (by decide) dX7_skip_16 (fun c16 => ?_) (fun c16 => ?_)
    · skip
      have c16 := b2i_ne0.mp c16
      refine x_aload_n G 0 rfl rfl dX7_skip_21 ?_
      refine x_iload_n G 1 rfl rfl dX7_skip_22 ?_
      refine x_callVV G [] [xI sh] rfl (by decide) (ly_n hY 195 (by decide)) (ly_k hY 195 (by decide)) hy_X7_laysSample hi_X7_laysSample hs_X7_laysSample ml_X7_137 rfl rfl (kX7_laysSample _ _ V sh hY hN hv hs hR (by omega)) (by decide) (by decide) (Nat.le_of_ble_eq_true rfl) dX7_skip_23 (fun M23 h23 => ?_)
      have hn23 := h23.1.1
      have hl23 : (smL V sh).length ≤ 100 := take_len (alL_len hv _ _ _ _)
      refine x_aload_n G 0 rfl rfl dX7_skip_26 ?_
      refine x_get G (xR 196) xf7_0 lk_X7_7 (ly_n hY 195 (by decide)) (ly_k hY 195 (by decide)) (Or.inr ⟨rfl, _, (ly_r hY 195 0 (by decide) (by decide)), rfl⟩) dX7_skip_27 ?_
      refine x_iconst G (by decide) dX7_skip_30 ?_
      refine x_iald G (ly_n hY 196 (by decide)) (ly_k hY 196 (by decide)) (show _ = 511 from ly_l hY 196 (by decide)) (by omega) (by omega) dX7_skip_31 ?_
      show xX Γ 0 0 n T 32 [(0, xR 195), (1, xI sh), (2, xI w)] [xI (M23 196 1)] M23
      rw [show M23 196 1 = (V 0 12) from (mr_cg hN (h23.2.1.1 196 (by omega))).1.2.1]
      refine x_istore_n G [(3, xI (V 0 12)), (0, xR 195), (1, xI sh), (2, xI w)] rfl (by decide) rfl dX7_skip_32 ?_
      refine x_iconst G (by decide) dX7_skip_33 ?_
      refine x_istore G [(4, xI 0), (3, xI (V 0 12)), (0, xR 195), (1, xI sh), (2, xI w)] (by decide) rfl dX7_skip_34 ?_
      have loop36 : ∀ (d : Nat) (k : Int) (sd : Int) (N1 : xM), (1000 - k).toNat = d → (0 ≤ k ∧ k ≤ 1000) → (sd = itd k.toNat (V 0 12)) → (0 ≤ sd ∧ sd < 65536) → (mfr (xst M 196 1 sd) N1) → (Rk N1 V) → (Rw N1 (smL V sh)) → (∀ x, 0 ≤ x → x < k → ¬ wbi V sh (itd (x.toNat + 1) (V 0 12) / 64) w) → xX Γ 0 0 n T 36 [(0, xR 195), (1, xI sh), (2, xI w), (3, xI (V 0 12)), (4, xI k)] [] N1 := by
        intro d
        induction d using Nat.strongRecOn with
        | ind d ih36 =>
        intro k sd N1 hd36 hk hsd hsb hf1 hR1 hw1 hno
        have hsdb : (xst V 0 12 sd) 0 12 = sd := xst_same ..
        refine x_iload G 4 rfl dX7_skip_36 ?_
        refine x_sipush G (by decide) dX7_skip_38 ?_
        refine x_icmp_ge G 67 (by decide) dX7_skip_41 (fun c41 => ?_) (fun c41 => ?_)
        · skip
          refine x_aload_n G 0 rfl rfl dX7_skip_67 ?_
          refine x_get G (xR 196) xf7_0 lk_X7_7 (ly_n hY 195 (by decide)) (ly_k hY 195 (by decide)) (Or.inr ⟨rfl, _, (ly_r hY 195 0 (by decide) (by decide)), rfl⟩) dX7_skip_68 ?_
          refine x_iconst G (by decide) dX7_skip_71 ?_
          refine x_iload_n G 3 rfl rfl dX7_skip_72 ?_
          refine x_iast G (ly_n hY 196 (by decide)) (ly_k hY 196 (by decide)) (show _ = 511 from ly_l hY 196 (by decide)) (by omega) (by omega) dX7_skip_73 ?_
          show xX Γ 0 0 n T 74 [(0, xR 195), (1, xI sh), (2, xI w), (3, xI (V 0 12)), (4, xI k)] [] (xst N1 196 1 (V 0 12))
          skip
          refine x_iload G 4 rfl dX7_skip_74 ?_
          refine x_sipush G (by decide) dX7_skip_76 ?_
          refine x_icmp_ge G 87 (by decide) dX7_skip_79 (fun c79 => ?_) (fun c79 => ?_)
          · skip
            refine x_bipush G (by decide) dX7_skip_87 ?_
            exact x_iret G Rt dX7_skip_89 ⟨rfl, rfl, _, rfl, ⟨Or.inl ⟨by omega, by omega, Or.inr ⟨rfl, fun x a b => hno x a (by omega)⟩⟩, (mfr_back hf1 hN.1.2.1), (rk_cg hR1 (xst_nq (by omega)) (xst_row (by omega)))⟩⟩
          · skip
            refine x_iload G 4 rfl dX7_skip_82 ?_
            refine x_goto G 89 (by decide) dX7_skip_84 ?_
            exact x_iret G Rt dX7_skip_89 ⟨rfl, rfl, _, rfl, ⟨Or.inl ⟨by omega, by omega, Or.inl ⟨by omega, (by first | omega | (show wbi V sh (itd (k.toNat + 1) (V 0 12) / 64) w; rw [hit1]; exact c58)), hno⟩⟩, (mfr_back hf1 hN.1.2.1), (rk_cg hR1 (xst_nq (by omega)) (xst_row (by omega)))⟩⟩
        · skip
          refine x_aload_n G 0 rfl rfl dX7_skip_44 ?_
          refine x_iload_n G 1 rfl rfl dX7_skip_45 ?_
          refine x_aload_n G 0 rfl rfl dX7_skip_46 ?_
          refine x_aload_n G 0 rfl rfl dX7_skip_47 ?_
          refine x_get G (xR 196) xf7_0 lk_X7_7 (ly_n hY 195 (by decide)) (ly_k hY 195 (by decide)) (Or.inr ⟨rfl, _, (ly_r hY 195 0 (by decide) (by decide)), rfl⟩) dX7_skip_48 ?_
          refine x_callVI G [xI sh, xR 195] [xR 196] rfl (by decide) (ly_n hY 195 (by decide)) (ly_k hY 195 (by decide)) hy_X7_drawn hi_X7_drawn hs_X7_drawn ml_X7_174 rfl rfl (kX7_drawn _ _ sd hY ((mr_cg (mr_sd hN) (hf1.1 196 (by omega))).1.2.1.trans hsdb) (by omega)) (by decide) (by decide) (Nat.le_of_ble_eq_true rfl) dX7_skip_51 (fun z51 M51 h51 => ?_)
          obtain ⟨hz51, rfl⟩ := h51
          have hdb := drw_b sd
          have hf2 : mfr (xst M 196 1 (drw sd)) (xst N1 196 1 (drw sd)) := mfr_more hf1
          rw [hz51]
          refine x_iload_n G 2 rfl rfl dX7_skip_54 ?_
          refine x_callVI G [] [xI sh, xI (drw sd / 64), xI w] rfl (by decide) (ly_n hY 195 (by decide)) (ly_k hY 195 (by decide)) hy_X7_wouldBeIn hi_X7_wouldBeIn hs_X7_wouldBeIn ml_X7_163 rfl rfl (kX7_wouldBeIn _ _ (xst V 0 12 (drw sd)) sh (drw sd / 64) w hY (mr_cg (N := xst M 196 1 (drw sd) 196) (mr_sd hN) (hf2.1 196 (by omega))) (ok_seed hv (by omega)) hs (show Rw _ (smL V sh) from (rw_cg hw1 (xst_nq (by omega)) (xst_row (by omega)))) hl23 (by omega) (by omega) (by omega)) (by decide) (by decide) (Nat.le_of_ble_eq_true rfl) dX7_skip_55 (fun z55 M55 h55 => ?_)
          rw [h55.1]
          have hit1 : itd (k.toNat + 1) (V 0 12) = drw sd := (by rw [hsd]; rfl)
          refine x_if_ne G 67 (by decide) dX7_skip_58 (fun c58 => ?_) (fun c58 => ?_)
          · skip
            have c58 := b2i_ne0.mp c58
            have c58 : wbi V sh (drw sd / 64) w := c58
            refine x_aload_n G 0 rfl rfl dX7_skip_67 ?_
            refine x_get G (xR 196) xf7_0 lk_X7_7 (ly_n hY 195 (by decide)) (ly_k hY 195 (by decide)) (Or.inr ⟨rfl, _, (ly_r hY 195 0 (by decide) (by decide)), rfl⟩) dX7_skip_68 ?_
            refine x_iconst G (by decide) dX7_skip_71 ?_
            refine x_iload_n G 3 rfl rfl dX7_skip_72 ?_
            refine x_iast G (ly_n hY 196 (by decide)) (ly_k hY 196 (by decide)) (show _ = 511 from ly_l hY 196 (by decide)) (by omega) (by omega) dX7_skip_73 ?_
            show xX Γ 0 0 n T 74 [(0, xR 195), (1, xI sh), (2, xI w), (3, xI (V 0 12)), (4, xI k)] [] (xst M55 196 1 (V 0 12))
            skip
            refine x_iload G 4 rfl dX7_skip_74 ?_
            refine x_sipush G (by decide) dX7_skip_76 ?_
            refine x_icmp_ge G 87 (by decide) dX7_skip_79 (fun c79 => ?_) (fun c79 => ?_)
            · skip
              refine x_bipush G (by decide) dX7_skip_87 ?_
              exact x_iret G Rt dX7_skip_89 ⟨rfl, rfl, _, rfl, ⟨Or.inl ⟨by omega, by omega, Or.inr ⟨rfl, fun x a b => hno x a (by omega)⟩⟩, (mfr_back (mfr_of hf2 h55.2 (by decide)) hN.1.2.1), (rk_cg (rk_cg (rk_cg hR1 (xst_nq (by omega)) (xst_row (by omega))) (congrFun (h55.2 195 (by simp)) 10) (h55.2 203 (by simp))) (xst_nq (by omega)) (xst_row (by omega)))⟩⟩
            · skip
              refine x_iload G 4 rfl dX7_skip_82 ?_
              refine x_goto G 89 (by decide) dX7_skip_84 ?_
              exact x_iret G Rt dX7_skip_89 ⟨rfl, rfl, _, rfl, ⟨Or.inl ⟨by omega, by omega, Or.inl ⟨by omega, (by first | omega | (show wbi V sh (itd (k.toNat + 1) (V 0 12) / 64) w; rw [hit1]; exact c58)), hno⟩⟩, (mfr_back (mfr_of hf2 h55.2 (by decide)) hN.1.2.1), (rk_cg (rk_cg (rk_cg hR1 (xst_nq (by omega)) (xst_row (by omega))) (congrFun (h55.2 195 (by simp)) 10) (h55.2 203 (by simp))) (xst_nq (by omega)) (xst_row (by omega)))⟩⟩
          · skip
            have c58 := b2i_eq0.mp c58
            have c58 : ¬ wbi V sh (drw sd / 64) w := c58
            refine x_iinc G [(4, xI (k + 1)), (0, xR 195), (1, xI sh), (2, xI w), (3, xI (V 0 12))] 4 rfl (by decide) (by omega) rfl dX7_skip_61 ?_
            refine x_goto G 36 (by decide) dX7_skip_64 ?_
            refine x_sub [(0, xR 195), (1, xI sh), (2, xI w), (3, xI (V 0 12)), (4, xI (k + 1))] [1, 2, 3, 4, 0] rfl ?_
            exact ih36 _ (by omega) (k + 1) (drw sd) M55 rfl (by omega) (by rw [show (k + 1).toNat = k.toNat + 1 by omega]; unfold itd; rw [← hsd]) (by omega) ((mfr_of hf2 h55.2 (by decide))) ((rk_cg (rk_cg hR1 (xst_nq (by omega)) (xst_row (by omega))) (congrFun (h55.2 195 (by simp)) 10) (h55.2 203 (by simp)))) ((rw_cg (rw_cg hw1 (xst_nq (by omega)) (xst_row (by omega))) (congrFun (h55.2 195 (by simp)) 8) (h55.2 202 (by simp)))) (by intro x a b; rcases Int.lt_or_le x k with g | g; exact hno x a g; have e : x = k := (by omega); rw [e, hit1]; exact c58)
      refine x_sub [(0, xR 195), (1, xI sh), (2, xI w), (3, xI (V 0 12)), (4, xI 0)] [2, 3, 4, 1, 0] rfl ?_
      exact loop36 _ 0 (V 0 12) M23 rfl (by omega) (rfl) (by omega) ((by rw [xst_id hN.1.2.1]; exact (mfr_tr (mfr_refl _) (mfx_w 207 h23.2.1 (by decide))))) (h23.2.2) (h23.1) (by intro x a b; omega)
    · skip
      have c16 := b2i_eq0.mp c16
      refine x_iconst G (by decide) dX7_skip_19 ?_
      exact x_iret G Rt dX7_skip_20 ⟨rfl, rfl, _, rfl, ⟨Or.inr ⟨by omega, rfl⟩, (mfr_refl _), hR⟩⟩
theorem alv_in {V : xM} (hs : Srt V (V 10) (V 0 10).toNat) {i : Nat} (hi : (i : Int) < V 0 10) (h : alv V i (V 0 11)) : i ∈ alN V (V 4 i) := alL_mem.mpr ⟨(rkl_iff hs i).mpr hi, hi, h.1, rfl, h.2⟩
theorem al_al {V : xM} {i : Nat} (h : i ∈ alN V (V 4 i)) : alv V i (V 0 11) := ⟨(alL_mem.mp h).2.2.1, (alL_mem.mp h).2.2.2.2⟩
theorem qpl_ge {L : List Nat} {i : Nat} : 0 ≤ qPl L i ↔ i ∈ L := by
  unfold qPl
  by_cases h : i ∈ L
  · rw [if_pos h]; exact ⟨fun _ => h, fun _ => by omega⟩
  · rw [if_neg h]; exact ⟨fun g => by omega, fun g => absurd g h⟩
theorem at_w {N : Nat → Int} {V : xM} (h : mrel N V) {i : Int} (hi : isI V i) : N ((11 + (5 * i)) + 2).toNat = V 6 i.toNat := mr_item h hi (w := 2) (by decide)
theorem would_in {V : xM} (hv : VOK V) {i : Nat} {w : Int} {R : Nat → Int} (hi : (i : Int) < V 0 10) (ha : alv V i (V 0 11)) (hw : 1 ≤ w ∧ w ≤ 20) (hs : Srt (xsr (xst V 6 i w) 10 R) R (V 0 10).toNat) : i ∈ smL (xsr (xst V 6 i w) 10 R) (V 4 i) ↔ wouldW V i w := by
  have e6 : ∀ j, j ≠ i → xst V 6 i w 6 j = V 6 j := fun j hj => xst_nq (Or.inr hj)
  have hsw := ok_s hv (hv.2.2.1 i hi).1.1 (hv.2.2.1 i hi).1.2
  have key := in_take (V := xsr (xst V 6 i w) 10 R) hs (fun j : Nat => (j : Int) < V 0 10 ∧ V 9 j = 0 ∧ V 4 j = V 4 i ∧ (V 12 (V 4 i).toNat = 0 ∨ V 0 11 - V 12 (V 4 i).toNat < V 8 j)) (V 11 (V 4 i).toNat).toNat i
  have hah : ∀ j : Nat, j < (V 0 10).toNat → (((j : Int) < V 0 10 ∧ V 9 j = 0 ∧ V 4 j = V 4 i ∧ (V 12 (V 4 i).toNat = 0 ∨ V 0 11 - V 12 (V 4 i).toNat < V 8 j)) ∧ ahd (xsr (xst V 6 i w) 10 R) j i ↔ (V 9 j = 0 ∧ V 4 j = V 4 i ∧ alv V j (V 0 11)) ∧ j ≠ i ∧ ¬ ahw V i w j) := by
    intro j hj
    have hsw := kc_swap (V 7 i) w (V 7 j) (V 6 j)
    by_cases e : j = i
    · subst e
      exact ⟨fun g => (ahd_asym g.2 g.2).elim, fun g => absurd rfl g.2.1⟩
    · have ea : ahd (xsr (xst V 6 i w) 10 R) j i ↔ ¬ ahw V i w j := by
        show (0 < kc (V 7 j) (xst V 6 i w 6 j) (V 7 i) (xst V 6 i w 6 i) ∨ (kc (V 7 j) (xst V 6 i w 6 j) (V 7 i) (xst V 6 i w 6 i) = 0 ∧ (j : Int) < i)) ↔ ¬ (0 < kc (V 7 i) w (V 7 j) (V 6 j) ∨ (kc (V 7 i) w (V 7 j) (V 6 j) = 0 ∧ (i : Int) < j))
        rw [e6 j e, xst_same]
        omega
      rw [ea]
      constructor
      · rintro ⟨⟨g1, g2, g3, g4⟩, g5⟩
        refine ⟨⟨g2, g3, g2, ?_⟩, e, g5⟩
        rw [g3]; exact g4
      · rintro ⟨⟨g2, g3, g4⟩, _, g5⟩
        have g6 := g4.2
        rw [g3] at g6
        exact ⟨⟨by omega, g2, g3, g6⟩, g5⟩
  have e := si_cg (P := fun j : Nat => ((j : Int) < V 0 10 ∧ V 9 j = 0 ∧ V 4 j = V 4 i ∧ (V 12 (V 4 i).toNat = 0 ∨ V 0 11 - V 12 (V 4 i).toNat < V 8 j)) ∧ ahd (xsr (xst V 6 i w) 10 R) j i) (Q := fun j : Nat => (V 9 j = 0 ∧ V 4 j = V 4 i ∧ alv V j (V 0 11)) ∧ j ≠ i ∧ ¬ ahw V i w j) (n := (V 0 10).toNat) hah
  unfold wouldW
  rw [← e]
  refine Iff.trans (show i ∈ smL (xsr (xst V 6 i w) 10 R) (V 4 i) ↔ _ from key) ?_
  constructor
  · rintro ⟨_, _, g⟩
    show fb_si _ (V 0 10).toNat < V 11 (V 4 i).toNat
    have g2 : fb_si (fun j : Nat => b2i (((j : Int) < V 0 10 ∧ V 9 j = 0 ∧ V 4 j = V 4 i ∧ (V 12 (V 4 i).toNat = 0 ∨ V 0 11 - V 12 (V 4 i).toNat < V 8 j)) ∧ ahd (xsr (xst V 6 i w) 10 R) j i)) (V 0 10).toNat < ((V 11 (V 4 i).toNat).toNat : Int) := g
    omega
  · intro g
    refine ⟨hi, ⟨hi, ha.1, rfl, ha.2⟩, ?_⟩
    show fb_si (fun j : Nat => b2i (((j : Int) < V 0 10 ∧ V 9 j = 0 ∧ V 4 j = V 4 i ∧ (V 12 (V 4 i).toNat = 0 ∨ V 0 11 - V 12 (V 4 i).toNat < V 8 j)) ∧ ahd (xsr (xst V 6 i w) 10 R) j i)) (V 0 10).toNat < ((V 11 (V 4 i).toNat).toNat : Int)
    omega
set_option maxRecDepth 100000 in
set_option maxHeartbeats 4000000 in
theorem kX7_weightFor (D : xD) (l : Launch) {n : Nat} {T : xT} {M : xM} (V : xM) (i : Int) (hY : LayOK n T) (hN : mrel (M 196) V) (hv : VOK V) (hs : Srt V (V 10) (V 0 10).toNat) (hR : Rk M V) : xC D l uX7_weightFor 9 212 0 0 [xR 195, xI i] n T M (xPI n T (fun z M2 => (qWeightFor V i z) ∧ mfr M M2 ∧ Rk M2 V)) := by
  refine x_met uX7_weightFor (by decide) (Nat.le_of_ble_eq_true rfl) ?_
  intro Γ G Rt _
  have G : xG Γ RX7 cX7_weightFor 6 9 212 0 0 := G
  have Rt : xRt Γ (xPI n T (fun z M2 => (qWeightFor V i z) ∧ mfr M M2 ∧ Rk M2 V)) (some .int) 0 0 := Rt
  show xX Γ 0 0 n T 0 [(0, xR 195), (1, xI i)] [] M
  have hc := ok_c hv
  refine x_aload_n G 0 rfl rfl dX7_weightFor_0 ?_
  refine x_iload_n G 1 rfl rfl dX7_weightFor_1 ?_
  refine x_callVp G [] [xI i] rfl (by decide) (ly_n hY 195 (by decide)) (ly_k hY 195 (by decide)) hy_X7_isItem hi_X7_isItem hs_X7_isItem ml_X7_66 rfl rfl (kX7_isItem _ _ V i hY hN hv) (by decide) (by decide) (Nat.le_of_ble_eq_true rfl) dX7_weightFor_2 ?_
  refine x_if_ne G 10 (by decide) dX7_weightFor_5 (fun c5 => ?_) (fun c5 => ?_)
  · skip
    have c5 := b2i_ne0.mp c5
    refine x_aload_n G 0 rfl rfl dX7_weightFor_10 ?_
    refine x_iload_n G 1 rfl rfl dX7_weightFor_11 ?_
    refine x_callVp G [] [xI i] rfl (by decide) (ly_n hY 195 (by decide)) (ly_k hY 195 (by decide)) hy_X7_isAlive hi_X7_isAlive hs_X7_isAlive ml_X7_134 rfl rfl (kX7_isAlive _ _ V i hY hN hv (by omega)) (by decide) (by decide) (Nat.le_of_ble_eq_true rfl) dX7_weightFor_12 ?_
    refine x_if_ne G 21 (by decide) dX7_weightFor_15 (fun c15 => ?_) (fun c15 => ?_)
    · skip
      have c15 := b2i_ne0.mp c15
      have hi9 : isI V i := c5
      have hit := ok_i hv hi9.1 hi9.2
      refine x_bipush G (by decide) dX7_weightFor_21 ?_
      refine x_iconst G (by decide) dX7_weightFor_23 ?_
      refine x_iload_n G 1 rfl rfl dX7_weightFor_24 ?_
      refine x_imul G (by omega) dX7_weightFor_25 ?_
      refine x_iadd G (by omega) dX7_weightFor_26 ?_
      refine x_iconst G (by decide) dX7_weightFor_27 ?_
      refine x_iadd G (by omega) dX7_weightFor_28 ?_
      refine x_istore_n G [(2, xI ((11 + (5 * i)) + 2)), (0, xR 195), (1, xI i)] rfl (by decide) rfl dX7_weightFor_29 ?_
      refine x_aload_n G 1 rfl rfl dX7_weightFor_30 ?_
      refine x_get G (xR 196) xf7_0 lk_X7_7 (ly_n hY 195 (by decide)) (ly_k hY 195 (by decide)) (Or.inr ⟨rfl, _, (ly_r hY 195 0 (by decide) (by decide)), rfl⟩) dX7_weightFor_31 ?_
      refine x_iload_n G 0 rfl rfl dX7_weightFor_34 ?_
      refine x_iald G (ly_n hY 196 (by decide)) (ly_k hY 196 (by decide)) (show _ = 511 from ly_l hY 196 (by decide)) (by omega) (by omega) dX7_weightFor_35 ?_
      rw [at_w hN hi9]
      skip
      refine x_istore_n G [(3, xI (V 6 i.toNat)), (2, xI ((11 + (5 * i)) + 2)), (0, xR 195), (1, xI i)] rfl (by decide) rfl dX7_weightFor_36 ?_
      refine x_bipush G (by decide) dX7_weightFor_37 ?_
      refine x_istore G [(4, xI (-2)), (3, xI (V 6 i.toNat)), (2, xI ((11 + (5 * i)) + 2)), (0, xR 195), (1, xI i)] (by decide) rfl dX7_weightFor_39 ?_
      refine x_iconst G (by decide) dX7_weightFor_41 ?_
      refine x_istore G [(5, xI 1), (4, xI (-2)), (3, xI (V 6 i.toNat)), (2, xI ((11 + (5 * i)) + 2)), (0, xR 195), (1, xI i)] (by decide) rfl dX7_weightFor_42 ?_
      have loop44 : ∀ (d : Nat) (k : Int) (b : Int) (u : Int) (N1 : xM), (21 - k).toNat = d → (1 ≤ k ∧ k ≤ 21) → (mfr (xst M 196 ((11 + (5 * i)) + 2).toNat u) N1) → ((b = -2 ∧ ∀ x, 1 ≤ x → x < k → ¬ wouldW V i.toNat x) ∨ ((1 ≤ b ∧ b ≤ 20) ∧ wouldW V i.toNat b ∧ ∀ x, 1 ≤ x → x < b → ¬ wouldW V i.toNat x)) → xX Γ 0 0 n T 44 [(0, xR 195), (1, xI i), (2, xI ((11 + (5 * i)) + 2)), (3, xI (V 6 i.toNat)), (4, xI b), (5, xI k)] [] N1 := by
        intro d
        induction d using Nat.strongRecOn with
        | ind d ih44 =>
        intro k b u N1 hd44 hk hf1 hb
        skip
        refine x_iload G 5 rfl dX7_weightFor_44 ?_
        refine x_bipush G (by decide) dX7_weightFor_46 ?_
        refine x_icmp_gt G 101 (by decide) dX7_weightFor_48 (fun c48 => ?_) (fun c48 => ?_)
        · skip
          refine x_aload_n G 0 rfl rfl dX7_weightFor_101 ?_
          refine x_get G (xR 196) xf7_0 lk_X7_7 (ly_n hY 195 (by decide)) (ly_k hY 195 (by decide)) (Or.inr ⟨rfl, _, (ly_r hY 195 0 (by decide) (by decide)), rfl⟩) dX7_weightFor_102 ?_
          refine x_iload_n G 2 rfl rfl dX7_weightFor_105 ?_
          refine x_iload_n G 3 rfl rfl dX7_weightFor_106 ?_
          refine x_iast G (ly_n hY 196 (by decide)) (ly_k hY 196 (by decide)) (show _ = 511 from ly_l hY 196 (by decide)) (by omega) (by omega) dX7_weightFor_107 ?_
          skip
          refine x_aload_n G 0 rfl rfl dX7_weightFor_108 ?_
          refine x_iconst G (by decide) dX7_weightFor_109 ?_
          refine x_putz G (by omega) xf7_10 lk_X7_107 (ly_n hY 195 (by decide)) (ly_k hY 195 (by decide)) rfl dX7_weightFor_110 ?_
          skip
          refine x_iload G 4 rfl dX7_weightFor_113 ?_
          exact x_iret G Rt dX7_weightFor_115 ⟨rfl, rfl, _, rfl, ⟨Or.inr (Or.inr ⟨by omega, c15, by rcases hb with ⟨g1, g2⟩ | ⟨g1, g2, g3⟩; exact Or.inr ⟨g1, fun x a b => g2 x a (by omega)⟩; exact Or.inl ⟨by omega, g2, g3⟩⟩), (mfr_st (mfr_back hf1 (at_w hN hi9)) (by omega)), (Or.inl (xst_same ..))⟩⟩
        · skip
          refine x_iload G 4 rfl dX7_weightFor_51 ?_
          refine x_if_ge G 101 (by decide) dX7_weightFor_53 (fun c53 => ?_) (fun c53 => ?_)
          · skip
            refine x_aload_n G 0 rfl rfl dX7_weightFor_101 ?_
            refine x_get G (xR 196) xf7_0 lk_X7_7 (ly_n hY 195 (by decide)) (ly_k hY 195 (by decide)) (Or.inr ⟨rfl, _, (ly_r hY 195 0 (by decide) (by decide)), rfl⟩) dX7_weightFor_102 ?_
            refine x_iload_n G 2 rfl rfl dX7_weightFor_105 ?_
            refine x_iload_n G 3 rfl rfl dX7_weightFor_106 ?_
            refine x_iast G (ly_n hY 196 (by decide)) (ly_k hY 196 (by decide)) (show _ = 511 from ly_l hY 196 (by decide)) (by omega) (by omega) dX7_weightFor_107 ?_
            skip
            refine x_aload_n G 0 rfl rfl dX7_weightFor_108 ?_
            refine x_iconst G (by decide) dX7_weightFor_109 ?_
            refine x_putz G (by omega) xf7_10 lk_X7_107 (ly_n hY 195 (by decide)) (ly_k hY 195 (by decide)) rfl dX7_weightFor_110 ?_
            skip
            refine x_iload G 4 rfl dX7_weightFor_113 ?_
            exact x_iret G Rt dX7_weightFor_115 ⟨rfl, rfl, _, rfl, ⟨Or.inr (Or.inr ⟨by omega, c15, by rcases hb with ⟨g1, g2⟩ | ⟨g1, g2, g3⟩; exact Or.inr ⟨g1, fun x a b => g2 x a (by omega)⟩; exact Or.inl ⟨by omega, g2, g3⟩⟩), (mfr_st (mfr_back hf1 (at_w hN hi9)) (by omega)), (Or.inl (xst_same ..))⟩⟩
          · skip
            refine x_aload_n G 0 rfl rfl dX7_weightFor_56 ?_
            refine x_get G (xR 196) xf7_0 lk_X7_7 (ly_n hY 195 (by decide)) (ly_k hY 195 (by decide)) (Or.inr ⟨rfl, _, (ly_r hY 195 0 (by decide) (by decide)), rfl⟩) dX7_weightFor_57 ?_
            refine x_iload_n G 2 rfl rfl dX7_weightFor_60 ?_
            refine x_iload G 5 rfl dX7_weightFor_61 ?_
            refine x_iast G (ly_n hY 196 (by decide)) (ly_k hY 196 (by decide)) (show _ = 511 from ly_l hY 196 (by decide)) (by omega) (by omega) dX7_weightFor_63 ?_
            have hf2 : mfr (xst M 196 ((11 + (5 * i)) + 2).toNat k) (xst N1 196 ((11 + (5 * i)) + 2).toNat k) := mfr_more hf1
            have hvw0 : VOK (xst V 6 i.toNat k) := (ok_item hv (by omega) (fun _ => by unfold itm; rw [xst_nq (by omega), xst_nq (by omega), xst_same, xst_nq (by omega), xst_nq (by omega), xst_nq (by omega), xst_nq (by omega)]; exact ⟨hit.1, hit.2.1, by omega, hit.2.2.2.1, hit.2.2.2.2⟩))
            obtain ⟨R, hR9⟩ := srt_ex (V := (xst V 6 i.toNat k)) hvw0
            have hvw : VOK (xsr (xst V 6 i.toNat k) 10 R) := vok_row hvw0
            have hR9 : Srt (xsr (xst V 6 i.toNat k) 10 R) ((xsr (xst V 6 i.toNat k) 10 R) 10) ((xsr (xst V 6 i.toNat k) 10 R) 0 10).toNat := hR9
            skip
            refine x_aload_n G 0 rfl rfl dX7_weightFor_64 ?_
            refine x_iconst G (by decide) dX7_weightFor_65 ?_
            refine x_putz G (by omega) xf7_10 lk_X7_107 (ly_n hY 195 (by decide)) (ly_k hY 195 (by decide)) rfl dX7_weightFor_66 ?_
            skip
            refine x_aload_n G 0 rfl rfl dX7_weightFor_69 ?_
            refine x_aload_n G 0 rfl rfl dX7_weightFor_70 ?_
            refine x_iload_n G 1 rfl rfl dX7_weightFor_71 ?_
            refine x_callVp G [xR 195] [xI i] rfl (by decide) (ly_n hY 195 (by decide)) (ly_k hY 195 (by decide)) hy_X7_shardOf hi_X7_shardOf hs_X7_shardOf ml_X7_62 rfl rfl (kX7_shardOf_u _ _ (xsr (xst V 6 i.toNat k) 10 R) i hY (mr_cg (mr_cg (N := xst M 196 ((11 + (5 * i)) + 2).toNat k 196) (mr_row (mr_set (w := 2) hN (by decide) (by omega))) (hf2.1 196 (by omega))) (xst_row (by omega))) hvw hi9 c15.1) (by decide) (by decide) (Nat.le_of_ble_eq_true rfl) dX7_weightFor_72 ?_
            refine x_callVV G [] [xI (V 4 i.toNat)] rfl (by decide) (ly_n hY 195 (by decide)) (ly_k hY 195 (by decide)) hy_X7_laysSample hi_X7_laysSample hs_X7_laysSample ml_X7_137 rfl rfl (kX7_laysSample _ _ (xsr (xst V 6 i.toNat k) 10 R) (V 4 i.toNat) hY (mr_cg (mr_cg (N := xst M 196 ((11 + (5 * i)) + 2).toNat k 196) (mr_row (mr_set (w := 2) hN (by decide) (by omega))) (hf2.1 196 (by omega))) (xst_row (by omega))) hvw hR9 (Or.inl (xst_same ..)) (by omega)) (by decide) (by decide) (Nat.le_of_ble_eq_true rfl) dX7_weightFor_75 (fun M75 h75 => ?_)
            have hn75 := h75.1.1
            have hl75 : (smL (xsr (xst V 6 i.toNat k) 10 R) (V 4 i.toNat)).length ≤ 100 := take_len (alL_len hvw _ _ _ _)
            refine x_aload_n G 0 rfl rfl dX7_weightFor_78 ?_
            refine x_iload_n G 1 rfl rfl dX7_weightFor_79 ?_
            refine x_callVp G [] [xI i] rfl (by decide) (ly_n hY 195 (by decide)) (ly_k hY 195 (by decide)) hy_X7_placeOf hi_X7_placeOf hs_X7_placeOf ml_X7_140 rfl rfl (kX7_placeOf _ _ (smL (xsr (xst V 6 i.toNat k) 10 R) (V 4 i.toNat)) i hY h75.1 hl75 (by omega)) (by decide) (by decide) (Nat.le_of_ble_eq_true rfl) dX7_weightFor_80 ?_
            have hwi := would_in (R := R) (w := k) hv (i := i.toNat) (by omega) c15 (by omega) hR9
            refine x_if_lt G 91 (by decide) dX7_weightFor_83 (fun c83 => ?_) (fun c83 => ?_)
            · skip
              have c83 : ¬ wouldW V i.toNat k := fun h => by have h2 := qpl_ge.mpr (hwi.mpr h); have h3 : qPl (smL (xsr (xst V 6 i.toNat k) 10 R) (V 4 i.toNat)) i.toNat < 0 := c83; omega
              refine x_bipush G (by decide) dX7_weightFor_91 ?_
              refine x_istore G [(4, xI (-2)), (0, xR 195), (1, xI i), (2, xI ((11 + (5 * i)) + 2)), (3, xI (V 6 i.toNat)), (5, xI k)] (by decide) rfl dX7_weightFor_93 ?_
              refine x_iinc G [(5, xI (k + 1)), (4, xI (-2)), (0, xR 195), (1, xI i), (2, xI ((11 + (5 * i)) + 2)), (3, xI (V 6 i.toNat))] 5 rfl (by decide) (by omega) rfl dX7_weightFor_95 ?_
              refine x_goto G 44 (by decide) dX7_weightFor_98 ?_
              refine x_sub [(0, xR 195), (1, xI i), (2, xI ((11 + (5 * i)) + 2)), (3, xI (V 6 i.toNat)), (4, xI (-2)), (5, xI (k + 1))] [2, 3, 4, 5, 1, 0] rfl ?_
              exact ih44 _ (by omega) (k + 1) (-2) k M75 rfl (by omega) ((mfr_tr (mfr_st hf2 (by omega)) (mfx_w 207 h75.2.1 (by decide)))) (by rcases hb with ⟨g1, g2⟩ | ⟨g1, g2, g3⟩; exact Or.inl ⟨rfl, fun x a b => by rcases Int.lt_or_le x k with g | g; exact g2 x a g; have e : x = k := (by omega); rw [e]; exact c83⟩; omega)
            · skip
              have c83 : wouldW V i.toNat k := hwi.mp (qpl_ge.mp (show 0 ≤ qPl (smL (xsr (xst V 6 i.toNat k) 10 R) (V 4 i.toNat)) i.toNat from by omega))
              refine x_iload G 5 rfl dX7_weightFor_86 ?_
              refine x_goto G 93 (by decide) dX7_weightFor_88 ?_
              refine x_istore G [(4, xI k), (0, xR 195), (1, xI i), (2, xI ((11 + (5 * i)) + 2)), (3, xI (V 6 i.toNat)), (5, xI k)] (by decide) rfl dX7_weightFor_93 ?_
              refine x_iinc G [(5, xI (k + 1)), (4, xI k), (0, xR 195), (1, xI i), (2, xI ((11 + (5 * i)) + 2)), (3, xI (V 6 i.toNat))] 5 rfl (by decide) (by omega) rfl dX7_weightFor_95 ?_
              refine x_goto G 44 (by decide) dX7_weightFor_98 ?_
              refine x_sub [(0, xR 195), (1, xI i), (2, xI ((11 + (5 * i)) + 2)), (3, xI (V 6 i.toNat)), (4, xI k), (5, xI (k + 1))] [2, 3, 4, 5, 1, 0] rfl ?_
              exact ih44 _ (by omega) (k + 1) k k M75 rfl (by omega) ((mfr_tr (mfr_st hf2 (by omega)) (mfx_w 207 h75.2.1 (by decide)))) (by rcases hb with ⟨g1, g2⟩ | ⟨g1, g2, g3⟩; exact Or.inr ⟨by omega, c83, g2⟩; omega)
      refine x_sub [(0, xR 195), (1, xI i), (2, xI ((11 + (5 * i)) + 2)), (3, xI (V 6 i.toNat)), (4, xI (-2)), (5, xI 1)] [4, 5, 3, 2, 1, 0] rfl ?_
      exact loop44 _ 1 (-2) (V 6 i.toNat) M rfl (by omega) (by rw [xst_id (at_w hN hi9)]; exact mfr_refl _) (Or.inl ⟨rfl, by intro x a b; omega⟩)
    · skip
      have c15 := b2i_eq0.mp c15
      refine x_bipush G (by decide) dX7_weightFor_18 ?_
      exact x_iret G Rt dX7_weightFor_20 ⟨rfl, rfl, _, rfl, ⟨Or.inr (Or.inl ⟨by omega, c15, rfl⟩), (mfr_refl _), hR⟩⟩
  · skip
    have c5 := b2i_eq0.mp c5
    refine x_iconst G (by decide) dX7_weightFor_8 ?_
    exact x_iret G Rt dX7_weightFor_9 ⟨rfl, rfl, _, rfl, ⟨Or.inl ⟨by omega, rfl⟩, (mfr_refl _), hR⟩⟩
set_option maxRecDepth 100000 in
set_option maxHeartbeats 4000000 in
theorem kX7_sizeFor (D : xD) (l : Launch) {n : Nat} {T : xT} {M : xM} (V : xM) (i : Int) (hY : LayOK n T) (hN : mrel (M 196) V) (hv : VOK V) (hs : Srt V (V 10) (V 0 10).toNat) (hR : Rk M V) : xC D l uX7_sizeFor 8 191 0 0 [xR 195, xI i] n T M (xPI n T (fun z M2 => z = qSizeFor V i ∧ mfr M M2 ∧ Rk M2 V)) := by
  refine x_met uX7_sizeFor (by decide) (Nat.le_of_ble_eq_true rfl) ?_
  intro Γ G Rt _
  have G : xG Γ RX7 cX7_sizeFor 2 8 191 0 0 := G
  have Rt : xRt Γ (xPI n T (fun z M2 => z = qSizeFor V i ∧ mfr M M2 ∧ Rk M2 V)) (some .int) 0 0 := Rt
  show xX Γ 0 0 n T 0 [(0, xR 195), (1, xI i)] [] M
  have hc := ok_c hv
  refine x_aload_n G 0 rfl rfl dX7_sizeFor_0 ?_
  refine x_iload_n G 1 rfl rfl dX7_sizeFor_1 ?_
  refine x_callVp G [] [xI i] rfl (by decide) (ly_n hY 195 (by decide)) (ly_k hY 195 (by decide)) hy_X7_isItem hi_X7_isItem hs_X7_isItem ml_X7_66 rfl rfl (kX7_isItem _ _ V i hY hN hv) (by decide) (by decide) (Nat.le_of_ble_eq_true rfl) dX7_sizeFor_2 ?_
  refine x_if_ne G 10 (by decide) dX7_sizeFor_5 (fun c5 => ?_) (fun c5 => ?_)
  · skip
    have c5 := b2i_ne0.mp c5
    refine x_aload_n G 0 rfl rfl dX7_sizeFor_10 ?_
    refine x_iload_n G 1 rfl rfl dX7_sizeFor_11 ?_
    refine x_callVp G [] [xI i] rfl (by decide) (ly_n hY 195 (by decide)) (ly_k hY 195 (by decide)) hy_X7_isAlive hi_X7_isAlive hs_X7_isAlive ml_X7_134 rfl rfl (kX7_isAlive _ _ V i hY hN hv (by omega)) (by decide) (by decide) (Nat.le_of_ble_eq_true rfl) dX7_sizeFor_12 ?_
    refine x_if_ne G 21 (by decide) dX7_sizeFor_15 (fun c15 => ?_) (fun c15 => ?_)
    · skip
      have c15 := b2i_ne0.mp c15
      have hit := ok_i hv (i := i) (by omega) (by omega)
      have hal := qpl_ge.mpr (alv_in hs (i := i.toNat) (by omega) c15)
      refine x_aload_n G 0 rfl rfl dX7_sizeFor_21 ?_
      refine x_aload_n G 0 rfl rfl dX7_sizeFor_22 ?_
      refine x_iload_n G 1 rfl rfl dX7_sizeFor_23 ?_
      refine x_callVp G [xR 195] [xI i] rfl (by decide) (ly_n hY 195 (by decide)) (ly_k hY 195 (by decide)) hy_X7_shardOf hi_X7_shardOf hs_X7_shardOf ml_X7_62 rfl rfl (kX7_shardOf_u _ _ V i hY hN hv (by omega) (show V 9 i.toNat = 0 by omega)) (by decide) (by decide) (Nat.le_of_ble_eq_true rfl) dX7_sizeFor_24 ?_
      refine x_callVV G [] [xI (V 4 i.toNat)] rfl (by decide) (ly_n hY 195 (by decide)) (ly_k hY 195 (by decide)) hy_X7_laysAlive hi_X7_laysAlive hs_X7_laysAlive ml_X7_128 rfl rfl (kX7_laysAlive _ _ V (V 4 i.toNat) hY hN hv hs hR (by omega)) (by decide) (by decide) (Nat.le_of_ble_eq_true rfl) dX7_sizeFor_27 (fun M27 h27 => ?_)
      have hn27 := h27.1.1
      have hl27 : (alN V (V 4 i.toNat)).length ≤ 100 := alL_len hv _ _ _ _
      refine x_aload_n G 0 rfl rfl dX7_sizeFor_30 ?_
      refine x_iload_n G 1 rfl rfl dX7_sizeFor_31 ?_
      refine x_callVp G [] [xI i] rfl (by decide) (ly_n hY 195 (by decide)) (ly_k hY 195 (by decide)) hy_X7_placeOf hi_X7_placeOf hs_X7_placeOf ml_X7_140 rfl rfl (kX7_placeOf _ _ (alN V (V 4 i.toNat)) i hY h27.1 hl27 (by omega)) (by decide) (by decide) (Nat.le_of_ble_eq_true rfl) dX7_sizeFor_32 ?_
      refine x_bipush G (by decide) dX7_sizeFor_35 ?_
      refine x_icmp_ge G 50 (by decide) dX7_sizeFor_37 (fun c37 => ?_) (fun c37 => ?_)
      · skip
        refine x_bipush G (by decide) dX7_sizeFor_50 ?_
        exact x_iret G Rt dX7_sizeFor_52 ⟨rfl, rfl, _, rfl, ⟨(by unfold qSizeFor; (repeat (first | rw [if_pos (by omega)] | rw [if_neg (by omega)])) <;> try rfl), (mfr_tr (mfr_refl _) (mfx_w 207 h27.2.1 (by decide))), h27.2.2⟩⟩
      · skip
        refine x_aload_n G 0 rfl rfl dX7_sizeFor_40 ?_
        refine x_iload_n G 1 rfl rfl dX7_sizeFor_41 ?_
        refine x_callVp G [] [xI i] rfl (by decide) (ly_n hY 195 (by decide)) (ly_k hY 195 (by decide)) hy_X7_placeOf hi_X7_placeOf hs_X7_placeOf ml_X7_140 rfl rfl (kX7_placeOf _ _ (alN V (V 4 i.toNat)) i hY h27.1 hl27 (by omega)) (by decide) (by decide) (Nat.le_of_ble_eq_true rfl) dX7_sizeFor_42 ?_
        refine x_iconst G (by decide) dX7_sizeFor_45 ?_
        refine x_iadd G (by omega) dX7_sizeFor_46 ?_
        refine x_goto G 52 (by decide) dX7_sizeFor_47 ?_
        exact x_iret G Rt dX7_sizeFor_52 ⟨rfl, rfl, _, rfl, ⟨(by unfold qSizeFor; (repeat (first | rw [if_pos (by omega)] | rw [if_neg (by omega)])) <;> try rfl), (mfr_tr (mfr_refl _) (mfx_w 207 h27.2.1 (by decide))), h27.2.2⟩⟩
    · skip
      have c15 := b2i_eq0.mp c15
      refine x_bipush G (by decide) dX7_sizeFor_18 ?_
      exact x_iret G Rt dX7_sizeFor_20 ⟨rfl, rfl, _, rfl, ⟨(by unfold qSizeFor; rw [if_pos c5, if_pos (Or.inl (qpl_out (fun h => c15 (al_al h))))]), (mfr_refl _), hR⟩⟩
  · skip
    have c5 := b2i_eq0.mp c5
    refine x_iconst G (by decide) dX7_sizeFor_8 ?_
    exact x_iret G Rt dX7_sizeFor_9 ⟨rfl, rfl, _, rfl, ⟨(by unfold qSizeFor; (repeat (first | rw [if_pos (by omega)] | rw [if_neg (by omega)])) <;> try rfl), (mfr_refl _), hR⟩⟩
