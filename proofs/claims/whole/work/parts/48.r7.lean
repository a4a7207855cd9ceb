theorem si_one {Q : Nat → Prop} [DecidablePred Q] {i : Nat} : ∀ {n : Nat}, fb_si (fun j => b2i (j = i ∧ Q j)) n = if i < n then b2i (Q i) else 0 := by
  intro n
  induction n with
  | zero => rfl
  | succ n ih =>
    rw [fb_si_succ, ih]
    by_cases e : n = i
    · subst e
      rw [if_neg (by omega), if_pos (by omega), b2i_cg (p := n = n ∧ Q n) (q := Q n) ⟨fun h => h.2, fun h => ⟨rfl, h⟩⟩]
      omega
    · rw [b2i_f (p := n = i ∧ Q n) (fun h => e h.1)]
      by_cases g : i < n
      · rw [if_pos g, if_pos (by omega)]; omega
      · rw [if_neg g, if_neg (by omega)]; omega
theorem si_two {P Q : Nat → Prop} [DecidablePred P] [DecidablePred Q] (h : ∀ j, ¬ (P j ∧ Q j)) : ∀ n, fb_si (fun j => b2i (P j ∨ Q j)) n = fb_si (fun j => b2i (P j)) n + fb_si (fun j => b2i (Q j)) n := fun n => by
  induction n with
  | zero => rfl
  | succ n ih =>
    rw [fb_si_succ, fb_si_succ, fb_si_succ, ih]
    have h9 := h n
    by_cases p : P n
    · rw [b2i_t (Or.inl p), b2i_t p, b2i_f (fun q => h9 ⟨p, q⟩)]; omega
    · by_cases q : Q n
      · rw [b2i_t (Or.inr q), b2i_f p, b2i_t q]; omega
      · rw [b2i_f (fun g => g.elim p q), b2i_f p, b2i_f q]; omega
abbrev pA (V : xM) (i : Nat) (up : Int) (j : Nat) : Prop := (j : Int) < up ∧ V 9 j = 0 ∧ V 4 j = V 4 i ∧ (V 12 (V 4 i).toNat = 0 ∨ V 8 i - V 12 (V 4 i).toNat < V 8 j)
theorem th_eq (V : xM) (i : Nat) (up : Int) : thL V i up = ((rkl V).filter fun j => decide (pA V i up j)).take (V 11 (V 4 i).toNat).toNat := rfl
theorem si_more {V : xM} {i x : Nat} (hi : (i : Int) < V 0 10) (hp : pA V i (i + 1) i) : fb_si (fun j => b2i (pA V i (i + 1) j ∧ ahd V j x)) (V 0 10).toNat = fb_si (fun j => b2i (pA V i i j ∧ ahd V j x)) (V 0 10).toNat + b2i (ahd V i x) := by
  have e1 : fb_si (fun j => b2i (pA V i (i + 1) j ∧ ahd V j x)) (V 0 10).toNat = fb_si (fun j => b2i ((pA V i i j ∧ ahd V j x) ∨ (j = i ∧ ahd V j x))) (V 0 10).toNat := si_cg (fun j _ => by
    constructor
    · rintro ⟨⟨g1, g2⟩, g3⟩
      by_cases e : j = i
      · exact Or.inr ⟨e, g3⟩
      · exact Or.inl ⟨⟨by omega, g2⟩, g3⟩
    · rintro (⟨⟨g1, g2⟩, g3⟩ | ⟨g1, g3⟩)
      · exact ⟨⟨by omega, g2⟩, g3⟩
      · rw [g1] at g3 ⊢; exact ⟨hp, g3⟩)
  rw [e1, si_two (fun j h => by have h1 := h.1.1.1; have h2 := h.2.1; omega), si_one, if_pos (by omega)]
theorem idx_at {L : List Nat} (hn : L.Nodup) {x m : Nat} (hx : x ∈ L) (hm : m < L.length) : L.idxOf x = m ↔ x = L.getD m 0 := by
  have h1 := List.idxOf_lt_length_of_mem hx
  have h2 := List.getElem_idxOf h1
  have e : L.getD m 0 = L[m] := by simp [List.getD, hm]
  rw [e]
  constructor
  · intro h
    subst h
    exact h2.symm
  · intro h
    exact (List.getElem_inj (h₀ := h1) (h₁ := hm) hn).mp (h2.trans h)
/-- who is put out, who comes in -/
theorem po_key {V : xM} (hv : VOK V) (hs : Srt V (V 10) (V 0 10).toNat) {i : Nat} (hi : (i : Int) < V 0 10) (h9 : V 9 i = 0) : (∀ x, x ∈ thL V i i → (x ∉ thL V i (i + 1) ↔ (0 ≤ putO V i ∧ putO V i = x))) ∧ (i ∈ thL V i (i + 1) ↔ (0 ≤ putO V i ∨ putO V i = -2)) := by
  have hit := hv.2.2.1 i hi
  have hsw := ok_s hv hit.1.1 hit.1.2
  have hp : pA V i (i + 1) i := ⟨by omega, h9, rfl, by omega⟩
  have hA : ((rkl V).filter fun j => decide (pA V i i j)).Pairwise (fun a b : Nat => ahd V a b) := (rkl_sorted hs).filter _
  have hN : ((rkl V).filter fun j => decide (pA V i i j)).Nodup := (rkl_nodup hs).filter _
  have hmem : ∀ x, x ∈ ((rkl V).filter fun j => decide (pA V i i j)) ↔ ((x : Int) < V 0 10 ∧ pA V i i x) := fun x => by
    rw [List.mem_filter, rkl_iff hs, decide_eq_true_eq]
  have hcnt : ∀ x : Nat, (((rkl V).filter fun j => decide (pA V i i j)).countP (fun j : Nat => decide (ahd V j x)) : Int) = fb_si (fun j => b2i (pA V i i j ∧ ahd V j x)) (V 0 10).toNat := fun x => by
    rw [List.countP_filter, ← si_rkl hs (fun j => pA V i i j ∧ ahd V j x)]
    congr 1
    apply List.countP_congr
    intro j _
    simp [and_comm]
  have hS : ∀ x, x ∈ thL V i i ↔ (x : Int) < V 0 10 ∧ pA V i i x ∧ fb_si (fun j => b2i (pA V i i j ∧ ahd V j x)) (V 0 10).toNat < ((V 11 (V 4 i).toNat).toNat : Int) := fun x => in_take hs (pA V i i) _ x
  have hS2 : ∀ x, x ∈ thL V i (i + 1) ↔ (x : Int) < V 0 10 ∧ pA V i (i + 1) x ∧ fb_si (fun j => b2i (pA V i (i + 1) j ∧ ahd V j x)) (V 0 10).toNat < ((V 11 (V 4 i).toNat).toNat : Int) := fun x => in_take hs (pA V i (i + 1)) _ x
  have hself : ¬ ahd V i i := fun g => ahd_asym g g
  have hpre := pre_cnt (D := fun j : Nat => ahd V j i) (L := (rkl V).filter fun j => decide (pA V i i j)) (m := (V 11 (V 4 i).toNat).toNat) (List.Pairwise.imp_of_mem (R := fun a b : Nat => ahd V a b) (fun {a b} ha hb hab hd => ahd_trans hv ⟨by omega, ((hmem a).mp ha).1⟩ ⟨by omega, ((hmem b).mp hb).1⟩ ⟨by omega, hi⟩ hab hd) hA) (by omega)
  have hle := List.countP_le_length (p := fun j : Nat => decide (ahd V j i)) (l := (rkl V).filter fun j => decide (pA V i i j))
  have hin : i ∈ thL V i (i + 1) ↔ ((rkl V).filter fun j => decide (pA V i i j)).countP (fun j : Nat => decide (ahd V j i)) < (V 11 (V 4 i).toNat).toNat := by
    rw [hS2, si_more hi hp, b2i_f hself, ← hcnt]
    exact ⟨fun g => by omega, fun g => ⟨hi, hp, by omega⟩⟩
  have hlen : (thL V i i).length = min (V 11 (V 4 i).toNat).toNat ((rkl V).filter fun j => decide (pA V i i j)).length := List.length_take
  have hout : ∀ x, x ∈ thL V i i → (x ∉ thL V i (i + 1) ↔ (ahd V i x ∧ ((rkl V).filter fun j => decide (pA V i i j)).idxOf x + 1 = (V 11 (V 4 i).toNat).toNat)) := fun x hx => by
    have hxA := (hS x).mp hx
    have hxm := (hmem x).mpr ⟨hxA.1, hxA.2.1⟩
    have hidx := idx_cnt hA hxm
    have hc := hcnt x
    rw [hS2, si_more hi hp, ← hc, ← hidx]
    have hlt := hxA.2.2
    rw [← hc, ← hidx] at hlt
    have hxp : pA V i (i + 1) x := ⟨by have := hxA.2.1.1; omega, hxA.2.1.2⟩
    by_cases g : ahd V i x
    · rw [b2i_t g]
      constructor
      · intro h
        refine ⟨g, ?_⟩
        rcases Nat.lt_or_ge (((rkl V).filter fun j => decide (pA V i i j)).idxOf x + 1) (V 11 (V 4 i).toNat).toNat with c | c
        · exact absurd ⟨hxA.1, hxp, by omega⟩ h
        · omega
      · rintro ⟨_, h⟩ ⟨_, _, h3⟩
        omega
    · rw [b2i_f g]
      exact ⟨fun h => absurd ⟨hxA.1, hxp, by omega⟩ h, fun h => absurd h.1 g⟩
  unfold putO
  by_cases c : ((thL V i i).length : Int) < V 11 (V 4 i).toNat
  · rw [if_pos c]
    refine ⟨fun x hx => ?_, ?_⟩
    · rw [hout x hx]
      constructor
      · rintro ⟨_, h⟩
        have hxA := (hS x).mp hx
        have h1 := List.idxOf_lt_length_of_mem ((hmem x).mpr ⟨hxA.1, hxA.2.1⟩)
        omega
      · intro h; omega
    · rw [hin]
      exact ⟨fun _ => Or.inr rfl, fun _ => by omega⟩
  · rw [if_neg c]
    have hge : (V 11 (V 4 i).toNat).toNat ≤ ((rkl V).filter fun j => decide (pA V i i j)).length := by omega
    have hl : lst (thL V i i) = ((((rkl V).filter fun j => decide (pA V i i j)).getD ((V 11 (V 4 i).toNat).toNat - 1) 0 : Nat) : Int) := lst_take (by omega) hge
    have hg : (((rkl V).filter fun j => decide (pA V i i j)).getD ((V 11 (V 4 i).toNat).toNat - 1) 0) ∈ ((rkl V).filter fun j => decide (pA V i i j)) := getD_in (by omega)
    have hgi := (hmem _).mp hg
    have hix : ∀ x, x ∈ ((rkl V).filter fun j => decide (pA V i i j)) → (((rkl V).filter fun j => decide (pA V i i j)).idxOf x + 1 = (V 11 (V 4 i).toNat).toNat ↔ x = ((rkl V).filter fun j => decide (pA V i i j)).getD ((V 11 (V 4 i).toNat).toNat - 1) 0) := fun x hx => by
      rw [← idx_at hN hx (show (V 11 (V 4 i).toNat).toNat - 1 < _ by omega)]
      omega
    rw [hl]
    have htot : ¬ ahd V (((rkl V).filter fun j => decide (pA V i i j)).getD ((V 11 (V 4 i).toNat).toNat - 1) 0 : Nat) i ↔ ahd V i (((rkl V).filter fun j => decide (pA V i i j)).getD ((V 11 (V 4 i).toNat).toNat - 1) 0 : Nat) := ⟨fun h => ahd_total (by have := hgi.2.1; omega) h, fun h h2 => ahd_asym h h2⟩
    by_cases a : ahd V i (((rkl V).filter fun j => decide (pA V i i j)).getD ((V 11 (V 4 i).toNat).toNat - 1) 0 : Nat)
    · rw [if_pos a]
      refine ⟨fun x hx => ?_, ?_⟩
      · rw [hout x hx, hix x (by have h := (hS x).mp hx; exact (hmem x).mpr ⟨h.1, h.2.1⟩)]
        constructor
        · rintro ⟨_, h⟩; exact ⟨by omega, by omega⟩
        · rintro ⟨_, h⟩
          have h2 : x = ((rkl V).filter fun j => decide (pA V i i j)).getD ((V 11 (V 4 i).toNat).toNat - 1) 0 := by omega
          rw [h2]; exact ⟨a, rfl⟩
      · rw [hin, hpre]
        exact ⟨fun _ => Or.inl (by omega), fun _ => Or.inr (htot.mpr a)⟩
    · rw [if_neg a]
      refine ⟨fun x hx => ?_, ?_⟩
      · rw [hout x hx, hix x (by have h := (hS x).mp hx; exact (hmem x).mpr ⟨h.1, h.2.1⟩)]
        constructor
        · rintro ⟨h1, h⟩; rw [h] at h1; exact absurd h1 a
        · intro h; omega
      · rw [hin, hpre]
        constructor
        · rintro (h | h)
          · omega
          · exact absurd (htot.mp h) a
        · intro h; omega
theorem po_mem {V : xM} (hs : Srt V (V 10) (V 0 10).toNat) {i : Nat} (h : 0 ≤ putO V i) : (putO V i).toNat ∈ thL V i i ∧ putO V i < V 0 10 := by
  unfold putO at h ⊢
  split at h
  · omega
  · next c =>
    split at h
    · next a =>
      rw [if_neg c, if_pos a]
      have hp : 0 < (thL V i i).length := by
        rcases Nat.eq_zero_or_pos (thL V i i).length with g | g
        · unfold lst at h; rw [if_neg (by omega)] at h; omega
        · exact g
      have h1 := lst_in hp
      have h2 := th_it hs h1.1
      exact ⟨h1.1, by omega⟩
    · omega
set_option maxRecDepth 100000 in
set_option maxHeartbeats 4000000 in
theorem kX7_laysThen (D : xD) (l : Launch) {n : Nat} {T : xT} {M : xM} (V : xM) (i b up : Int) (hY : LayOK n T) (hN : mrel (M 196) V) (hv : VOK V) (hs : Srt V (V 10) (V 0 10).toNat) (hR : Rk M V) (hi : isI V i) (h9 : V 9 i.toNat = 0) (hb : (b = 0 ∧ up = i) ∨ (b = 1 ∧ up = i + 1)) : xC D l uX7_laysThen 7 170 0 0 [xR 195, xI i, xI b] n T M (xPV n T (fun M2 => (Rw M2 (thL V i.toNat up)) ∧ mfx 204 M M2 ∧ Rk M2 V)) := by
  refine x_met uX7_laysThen (by decide) (Nat.le_of_ble_eq_true rfl) ?_
  intro Γ G Rt _
  have G : xG Γ RX7 cX7_laysThen 4 7 170 0 0 := G
  have Rt : xRt Γ (xPV n T (fun M2 => (Rw M2 (thL V i.toNat up)) ∧ mfx 204 M M2 ∧ Rk M2 V)) none 0 0 := Rt
  show xX Γ 0 0 n T 0 [(0, xR 195), (1, xI i), (2, xI b)] [] M
  have hc := ok_c hv
  have hsc := hv.1
  have hit := ok_i hv hi.1 hi.2
  have hsw := ok_s hv hit.1.1 hit.1.2
  refine x_aload_n G 0 rfl rfl dX7_laysThen_0 ?_
  refine x_iload_n G 1 rfl rfl dX7_laysThen_1 ?_
  refine x_callVp G [] [xI i] rfl (by decide) (ly_n hY 195 (by decide)) (ly_k hY 195 (by decide)) hy_X7_shardOf hi_X7_shardOf hs_X7_shardOf ml_X7_62 rfl rfl (kX7_shardOf_u _ _ V i hY hN hv (by omega) (show V 9 i.toNat = 0 by omega)) (by decide) (by decide) (Nat.le_of_ble_eq_true rfl) dX7_laysThen_2 ?_
  refine x_istore_n G [(3, xI (V 4 i.toNat)), (0, xR 195), (1, xI i), (2, xI b)] rfl (by decide) rfl dX7_laysThen_5 ?_
  refine x_aload_n G 1 rfl rfl dX7_laysThen_6 ?_
  refine x_iload_n G 0 rfl rfl dX7_laysThen_7 ?_
  refine x_aload_n G 1 rfl rfl dX7_laysThen_8 ?_
  refine x_iload_n G 2 rfl rfl dX7_laysThen_9 ?_
  refine x_iconst G (by decide) dX7_laysThen_10 ?_
  refine x_callVp G [xI (V 4 i.toNat), xR 195] [xI i, xI 4] rfl (by decide) (ly_n hY 195 (by decide)) (ly_k hY 195 (by decide)) hy_X7_item hi_X7_item hs_X7_item ml_X7_58 rfl rfl (kX7_item_4 _ _ V i hY hN hv (by omega)) (by decide) (by decide) (Nat.le_of_ble_eq_true rfl) dX7_laysThen_11 ?_
  refine x_aload_n G 1 rfl rfl dX7_laysThen_14 ?_
  refine x_get G (xR 196) xf7_0 lk_X7_7 (ly_n hY 195 (by decide)) (ly_k hY 195 (by decide)) (Or.inr ⟨rfl, _, (ly_r hY 195 0 (by decide) (by decide)), rfl⟩) dX7_laysThen_15 ?_
  refine x_bipush G (by decide) dX7_laysThen_18 ?_
  refine x_iload_n G 0 rfl rfl dX7_laysThen_20 ?_
  refine x_iadd G (by omega) dX7_laysThen_21 ?_
  refine x_iald G (ly_n hY 196 (by decide)) (ly_k hY 196 (by decide)) (show _ = 511 from ly_l hY 196 (by decide)) (by omega) (by omega) dX7_laysThen_22 ?_
  rw [show M 196 (7 + (V 4 i.toNat)).toNat = (V 12 (V 4 i.toNat).toNat) from (mr_wd hN (by omega))]
  refine x_iload_n G 2 rfl rfl dX7_laysThen_23 ?_
  refine x_iload_n G 3 rfl rfl dX7_laysThen_24 ?_
  refine x_if_eq G 32 (by decide) dX7_laysThen_25 (fun c25 => ?_) (fun c25 => ?_)
  · skip
    refine x_iconst G (by decide) dX7_laysThen_32 ?_
    refine x_iadd G (by omega) dX7_laysThen_33 ?_
    refine x_callVV G [] [xI (V 4 i.toNat), xI (V 8 i.toNat), xI (V 12 (V 4 i.toNat).toNat), xI (i + 0)] rfl (by decide) (ly_n hY 195 (by decide)) (ly_k hY 195 (by decide)) hy_X7_lays hi_X7_lays hs_X7_lays ml_X7_124 rfl rfl (kX7_lays _ _ V (V 4 i.toNat) (V 8 i.toNat) (V 12 (V 4 i.toNat).toNat) (i + 0) hY hN hv hs hR (by omega) (by omega) (by omega)) (by decide) (by decide) (Nat.le_of_ble_eq_true rfl) dX7_laysThen_34 (fun M34 h34 => ?_)
    have hn34 := h34.1.1
    have hl34 : (alL V (V 4 i.toNat) (V 8 i.toNat) (V 12 (V 4 i.toNat).toNat) (i + 0)).length ≤ 100 := alL_len hv _ _ _ _
    refine x_aload_n G 1 rfl rfl dX7_laysThen_37 ?_
    refine x_aload_n G 1 rfl rfl dX7_laysThen_38 ?_
    refine x_get G (xR 196) xf7_0 lk_X7_7 (ly_n hY 195 (by decide)) (ly_k hY 195 (by decide)) (Or.inr ⟨rfl, _, (ly_r hY 195 0 (by decide) (by decide)), rfl⟩) dX7_laysThen_39 ?_
    refine x_iconst G (by decide) dX7_laysThen_42 ?_
    refine x_iload_n G 0 rfl rfl dX7_laysThen_43 ?_
    refine x_iadd G (by omega) dX7_laysThen_44 ?_
    refine x_iald G (ly_n hY 196 (by decide)) (ly_k hY 196 (by decide)) (show _ = 511 from ly_l hY 196 (by decide)) (by omega) (by omega) dX7_laysThen_45 ?_
    rw [show M34 196 (3 + (V 4 i.toNat)).toNat = (V 11 (V 4 i.toNat).toNat) from (mr_sz (mr_cg hN (h34.2.1.1 196 (by omega))) (by omega))]
    refine x_callVV G [] [xI (V 11 (V 4 i.toNat).toNat)] rfl (by decide) (ly_n hY 195 (by decide)) (ly_k hY 195 (by decide)) hy_X7_cuts hi_X7_cuts hs_X7_cuts ml_X7_131 rfl rfl (kX7_cuts _ _ (alL V (V 4 i.toNat) (V 8 i.toNat) (V 12 (V 4 i.toNat).toNat) (i + 0)) (V 11 (V 4 i.toNat).toNat) hY h34.1 hl34 (by omega)) (by decide) (by decide) (Nat.le_of_ble_eq_true rfl) dX7_laysThen_46 (fun M46 h46 => ?_)
    subst h46
    show xX Γ 0 0 n T 49 [(3, xI (V 4 i.toNat)), (0, xR 195), (1, xI i), (2, xI b)] [] (xst M34 195 8 (((alL V (V 4 i.toNat) (V 8 i.toNat) (V 12 (V 4 i.toNat).toNat) (i + 0)).take (V 11 (V 4 i.toNat).toNat).toNat).length : Int))
    exact x_vret G Rt dX7_laysThen_49 ⟨rfl, rfl, rfl, ⟨by first | (rw [show up = i + 1 by omega]; exact (rw_take h34.1 (xst_same ..) (xst_row (by decide)))) | (rw [show up = i + 0 by omega]; exact (rw_take h34.1 (xst_same ..) (xst_row (by decide)))), (mfr_st (mfr_tr (mfr_refl _) h34.2.1) (by omega)), (rk_cg h34.2.2 (xst_nq (by omega)) (xst_row (by omega)))⟩⟩
  · skip
    refine x_iconst G (by decide) dX7_laysThen_28 ?_
    refine x_goto G 33 (by decide) dX7_laysThen_29 ?_
    refine x_iadd G (by omega) dX7_laysThen_33 ?_
    refine x_callVV G [] [xI (V 4 i.toNat), xI (V 8 i.toNat), xI (V 12 (V 4 i.toNat).toNat), xI (i + 1)] rfl (by decide) (ly_n hY 195 (by decide)) (ly_k hY 195 (by decide)) hy_X7_lays hi_X7_lays hs_X7_lays ml_X7_124 rfl rfl (kX7_lays _ _ V (V 4 i.toNat) (V 8 i.toNat) (V 12 (V 4 i.toNat).toNat) (i + 1) hY hN hv hs hR (by omega) (by omega) (by omega)) (by decide) (by decide) (Nat.le_of_ble_eq_true rfl) dX7_laysThen_34 (fun M34 h34 => ?_)
    have hn34 := h34.1.1
    have hl34 : (alL V (V 4 i.toNat) (V 8 i.toNat) (V 12 (V 4 i.toNat).toNat) (i + 1)).length ≤ 100 := alL_len hv _ _ _ _
    refine x_aload_n G 1 rfl rfl dX7_laysThen_37 ?_
    refine x_aload_n G 1 rfl rfl dX7_laysThen_38 ?_
    refine x_get G (xR 196) xf7_0 lk_X7_7 (ly_n hY 195 (by decide)) (ly_k hY 195 (by decide)) (Or.inr ⟨rfl, _, (ly_r hY 195 0 (by decide) (by decide)), rfl⟩) dX7_laysThen_39 ?_
    refine x_iconst G (by decide) dX7_laysThen_42 ?_
    refine x_iload_n G 0 rfl rfl dX7_laysThen_43 ?_
    refine x_iadd G (by omega) dX7_laysThen_44 ?_
    refine x_iald G (ly_n hY 196 (by decide)) (ly_k hY 196 (by decide)) (show _ = 511 from ly_l hY 196 (by decide)) (by omega) (by omega) dX7_laysThen_45 ?_
    rw [show M34 196 (3 + (V 4 i.toNat)).toNat = (V 11 (V 4 i.toNat).toNat) from (mr_sz (mr_cg hN (h34.2.1.1 196 (by omega))) (by omega))]
    refine x_callVV G [] [xI (V 11 (V 4 i.toNat).toNat)] rfl (by decide) (ly_n hY 195 (by decide)) (ly_k hY 195 (by decide)) hy_X7_cuts hi_X7_cuts hs_X7_cuts ml_X7_131 rfl rfl (kX7_cuts _ _ (alL V (V 4 i.toNat) (V 8 i.toNat) (V 12 (V 4 i.toNat).toNat) (i + 1)) (V 11 (V 4 i.toNat).toNat) hY h34.1 hl34 (by omega)) (by decide) (by decide) (Nat.le_of_ble_eq_true rfl) dX7_laysThen_46 (fun M46 h46 => ?_)
    subst h46
    show xX Γ 0 0 n T 49 [(3, xI (V 4 i.toNat)), (0, xR 195), (1, xI i), (2, xI b)] [] (xst M34 195 8 (((alL V (V 4 i.toNat) (V 8 i.toNat) (V 12 (V 4 i.toNat).toNat) (i + 1)).take (V 11 (V 4 i.toNat).toNat).toNat).length : Int))
    exact x_vret G Rt dX7_laysThen_49 ⟨rfl, rfl, rfl, ⟨by first | (rw [show up = i + 1 by omega]; exact (rw_take h34.1 (xst_same ..) (xst_row (by decide)))) | (rw [show up = i + 0 by omega]; exact (rw_take h34.1 (xst_same ..) (xst_row (by decide)))), (mfr_st (mfr_tr (mfr_refl _) h34.2.1) (by omega)), (rk_cg h34.2.2 (xst_nq (by omega)) (xst_row (by omega)))⟩⟩
set_option maxRecDepth 100000 in
set_option maxHeartbeats 4000000 in
theorem kX7_then (D : xD) (l : Launch) {n : Nat} {T : xT} {M : xM} (V : xM) (i k : Int) (hY : LayOK n T) (hN : mrel (M 196) V) (hv : VOK V) (hs : Srt V (V 10) (V 0 10).toNat) (hR : Rk M V) : xC D l uX7_then 8 193 0 0 [xR 195, xI i, xI k] n T M (xPI n T (fun z M2 => z = qThen V i k ∧ mfr M M2 ∧ Rk M2 V)) := by
  refine x_met uX7_then (by decide) (Nat.le_of_ble_eq_true rfl) ?_
  intro Γ G Rt _
  have G : xG Γ RX7 cX7_then 3 8 193 0 0 := G
  have Rt : xRt Γ (xPI n T (fun z M2 => z = qThen V i k ∧ mfr M M2 ∧ Rk M2 V)) (some .int) 0 0 := Rt
  show xX Γ 0 0 n T 0 [(0, xR 195), (1, xI i), (2, xI k)] [] M
  have hc := ok_c hv
  refine x_aload_n G 0 rfl rfl dX7_then_0 ?_
  refine x_iload_n G 1 rfl rfl dX7_then_1 ?_
  refine x_callVp G [] [xI i] rfl (by decide) (ly_n hY 195 (by decide)) (ly_k hY 195 (by decide)) hy_X7_isItem hi_X7_isItem hs_X7_isItem ml_X7_66 rfl rfl (kX7_isItem _ _ V i hY hN hv) (by decide) (by decide) (Nat.le_of_ble_eq_true rfl) dX7_then_2 ?_
  refine x_if_eq G 13 (by decide) dX7_then_5 (fun c5 => ?_) (fun c5 => ?_)
  · skip
    have c5 := b2i_eq0.mp c5
    refine x_iconst G (by decide) dX7_then_13 ?_
    exact x_iret G Rt dX7_then_14 ⟨rfl, rfl, _, rfl, ⟨(by unfold qThen; (repeat (first | rw [if_pos (by omega)] | rw [if_neg (by omega)])) <;> try rfl), (mfr_refl _), hR⟩⟩
  · skip
    have c5 := b2i_ne0.mp c5
    refine x_iload_n G 2 rfl rfl dX7_then_8 ?_
    refine x_iconst G (by decide) dX7_then_9 ?_
    refine x_icmp_ge G 15 (by decide) dX7_then_10 (fun c10 => ?_) (fun c10 => ?_)
    · skip
      refine x_aload_n G 0 rfl rfl dX7_then_15 ?_
      refine x_iload_n G 1 rfl rfl dX7_then_16 ?_
      refine x_callVp G [] [xI i] rfl (by decide) (ly_n hY 195 (by decide)) (ly_k hY 195 (by decide)) hy_X7_isDropped hi_X7_isDropped hs_X7_isDropped ml_X7_70 rfl rfl (kX7_isDropped _ _ V i hY hN hv (by omega)) (by decide) (by decide) (Nat.le_of_ble_eq_true rfl) dX7_then_17 ?_
      refine x_if_eq G 26 (by decide) dX7_then_20 (fun c20 => ?_) (fun c20 => ?_)
      · skip
        have c20 := b2i_eq0.mp c20
        refine x_aload_n G 0 rfl rfl dX7_then_26 ?_
        refine x_iload_n G 1 rfl rfl dX7_then_27 ?_
        refine x_iconst G (by decide) dX7_then_28 ?_
        refine x_callVV G [] [xI i, xI 1] rfl (by decide) (ly_n hY 195 (by decide)) (ly_k hY 195 (by decide)) hy_X7_laysThen hi_X7_laysThen hs_X7_laysThen ml_X7_187 rfl rfl (kX7_laysThen _ _ V i 1 (i + 1) hY hN hv hs hR (by omega) (show V 9 i.toNat = 0 by omega) (by omega)) (by decide) (by decide) (Nat.le_of_ble_eq_true rfl) dX7_then_29 (fun M29 h29 => ?_)
        have hn29 := h29.1.1
        have hl29 : (thL V i.toNat (i + 1)).length ≤ 100 := th_len hv _ _
        refine x_aload_n G 0 rfl rfl dX7_then_32 ?_
        refine x_iload_n G 2 rfl rfl dX7_then_33 ?_
        refine x_callVp G [] [xI k] rfl (by decide) (ly_n hY 195 (by decide)) (ly_k hY 195 (by decide)) hy_X7_toldOf hi_X7_toldOf hs_X7_toldOf ml_X7_146 rfl rfl (kX7_toldOf _ _ (thL V i.toNat (i + 1)) k hY h29.1 hl29 (by omega)) (by decide) (by decide) (Nat.le_of_ble_eq_true rfl) dX7_then_34 ?_
        exact x_iret G Rt dX7_then_37 ⟨rfl, rfl, _, rfl, ⟨(by unfold qThen; (repeat (first | rw [if_pos (by omega)] | rw [if_neg (by omega)])) <;> try rfl), (mfr_tr (mfr_refl _) (mfx_w 207 h29.2.1 (by decide))), h29.2.2⟩⟩
      · skip
        have c20 := b2i_ne0.mp c20
        refine x_bipush G (by decide) dX7_then_23 ?_
        exact x_iret G Rt dX7_then_25 ⟨rfl, rfl, _, rfl, ⟨(by unfold qThen; (repeat (first | rw [if_pos (by omega)] | rw [if_neg (by omega)])) <;> try rfl), (mfr_refl _), hR⟩⟩
    · skip
      refine x_iconst G (by decide) dX7_then_13 ?_
      exact x_iret G Rt dX7_then_14 ⟨rfl, rfl, _, rfl, ⟨(by unfold qThen; (repeat (first | rw [if_pos (by omega)] | rw [if_neg (by omega)])) <;> try rfl), (mfr_refl _), hR⟩⟩
theorem th_12 {V : xM} (hv : VOK V) {i : Nat} {up : Int} (hi : (i : Int) < V 0 10) : (thL V i up).length ≤ 12 := by
  have hit := hv.2.2.1 i hi
  have hw := ok_s hv hit.1.1 hit.1.2
  unfold thL
  rw [List.length_take]
  omega
set_option maxRecDepth 100000 in
set_option maxHeartbeats 4000000 in
theorem kX7_putsOut (D : xD) (l : Launch) {n : Nat} {T : xT} {M : xM} (V : xM) (i wh : Int) (hY : LayOK n T) (hN : mrel (M 196) V) (hv : VOK V) (hs : Srt V (V 10) (V 0 10).toNat) (hR : Rk M V) (hi : isI V i) (h9 : V 9 i.toNat = 0) : xC D l uX7_putsOut 8 193 0 0 [xR 195, xI i, xI wh] n T M (xPI n T (fun z M2 => z = b2i (0 ≤ putO V i.toNat ∧ (wh = -1 ∨ putO V i.toNat = wh)) ∧ mfr M M2 ∧ Rk M2 V)) := by
  refine x_met uX7_putsOut (by decide) (Nat.le_of_ble_eq_true rfl) ?_
  intro Γ G Rt _
  have G : xG Γ RX7 cX7_putsOut 5 8 193 0 0 := G
  have Rt : xRt Γ (xPI n T (fun z M2 => z = b2i (0 ≤ putO V i.toNat ∧ (wh = -1 ∨ putO V i.toNat = wh)) ∧ mfr M M2 ∧ Rk M2 V)) (some .boolean) 0 0 := Rt
  show xX Γ 0 0 n T 0 [(0, xR 195), (1, xI i), (2, xI wh)] [] M
  have hc := ok_c hv
  have hit := ok_i hv hi.1 hi.2
  have h12 := th_12 hv (up := i) (show (i.toNat : Int) < V 0 10 by omega)
  have hpo := po_key hv hs (i := i.toNat) (by omega) h9
  rw [show ((i.toNat : Nat) : Int) = i by omega] at hpo
  refine x_aload_n G 0 rfl rfl dX7_putsOut_0 ?_
  refine x_iload_n G 1 rfl rfl dX7_putsOut_1 ?_
  refine x_iconst G (by decide) dX7_putsOut_2 ?_
  refine x_callVV G [] [xI i, xI 0] rfl (by decide) (ly_n hY 195 (by decide)) (ly_k hY 195 (by decide)) hy_X7_laysThen hi_X7_laysThen hs_X7_laysThen ml_X7_187 rfl rfl (kX7_laysThen _ _ V i 0 i hY hN hv hs hR (by omega) (show V 9 i.toNat = 0 by omega) (by omega)) (by decide) (by decide) (Nat.le_of_ble_eq_true rfl) dX7_putsOut_3 (fun M3 h3 => ?_)
  have hn3 := h3.1.1
  have hl3 : (thL V i.toNat i).length ≤ 100 := th_len hv _ _
  refine x_aload_n G 0 rfl rfl dX7_putsOut_6 ?_
  refine x_get G (xI (M3 195 8)) xf7_8 lk_X7_103 (ly_n hY 195 (by decide)) (ly_k hY 195 (by decide)) (Or.inl ⟨rfl, rfl⟩) dX7_putsOut_7 ?_
  rw [show M3 195 8 = ((thL V i.toNat i).length : Int) from h3.1.1]
  refine x_istore_n G [(3, xI ((thL V i.toNat i).length : Int)), (0, xR 195), (1, xI i), (2, xI wh)] rfl (by decide) rfl dX7_putsOut_10 ?_
  refine x_iconst G (by decide) dX7_putsOut_11 ?_
  refine x_istore G [(4, xI 0), (3, xI ((thL V i.toNat i).length : Int)), (0, xR 195), (1, xI i), (2, xI wh)] (by decide) rfl dX7_putsOut_12 ?_
  have loop14 : ∀ (d : Nat) (k : Int) (N1 : xM), ((thL V i.toNat i).length - k).toNat = d → (0 ≤ k ∧ k ≤ (thL V i.toNat i).length) → (mfr M N1) → (Rk N1 V) → (Rw N1 (thL V i.toNat i)) → (Sav N1 (thL V i.toNat i) k) → xX Γ 0 0 n T 14 [(0, xR 195), (1, xI i), (2, xI wh), (3, xI ((thL V i.toNat i).length : Int)), (4, xI k)] [] N1 := by
    intro d
    induction d using Nat.strongRecOn with
    | ind d ih14 =>
    intro k N1 hd14 hk hf1 hR1 hw1 hsv
    skip
    refine x_iload G 4 rfl dX7_putsOut_14 ?_
    refine x_iload_n G 3 rfl rfl dX7_putsOut_16 ?_
    refine x_icmp_ge G 40 (by decide) dX7_putsOut_17 (fun c17 => ?_) (fun c17 => ?_)
    · skip
      refine x_aload_n G 0 rfl rfl dX7_putsOut_40 ?_
      refine x_iload_n G 1 rfl rfl dX7_putsOut_41 ?_
      refine x_iconst G (by decide) dX7_putsOut_42 ?_
      refine x_callVV G [] [xI i, xI 1] rfl (by decide) (ly_n hY 195 (by decide)) (ly_k hY 195 (by decide)) hy_X7_laysThen hi_X7_laysThen hs_X7_laysThen ml_X7_187 rfl rfl (kX7_laysThen _ _ V i 1 (i + 1) hY (mr_cg hN (hf1.1 196 (by omega))) hv hs hR1 (by omega) (show V 9 i.toNat = 0 by omega) (by omega)) (by decide) (by decide) (Nat.le_of_ble_eq_true rfl) dX7_putsOut_43 (fun M43 h43 => ?_)
      have hn43 := h43.1.1
      have hl43 : (thL V i.toNat (i + 1)).length ≤ 100 := th_len hv _ _
      have hsvA : Sav N1 (thL V i.toNat i) (thL V i.toNat i).length := fun j hj => hsv j (by omega)
      refine x_iconst G (by decide) dX7_putsOut_46 ?_
      refine x_istore G [(4, xI 0), (0, xR 195), (1, xI i), (2, xI wh), (3, xI ((thL V i.toNat i).length : Int))] (by decide) rfl dX7_putsOut_47 ?_
      have loop49 : ∀ (d : Nat) (k : Int), ((thL V i.toNat i).length - k).toNat = d → (0 ≤ k ∧ k ≤ (thL V i.toNat i).length) → (∀ j : Nat, (j : Int) < k → ¬ ((wh = -1 ∨ ((((thL V i.toNat i).getD j 0 : Nat) : Int)) = wh) ∧ (thL V i.toNat i).getD j 0 ∉ (thL V i.toNat (i + 1)))) → xX Γ 0 0 n T 49 [(0, xR 195), (1, xI i), (2, xI wh), (3, xI ((thL V i.toNat i).length : Int)), (4, xI k)] [] M43 := by
        intro d
        induction d using Nat.strongRecOn with
        | ind d ih49 =>
        intro k hd49 hk hno
        refine x_iload G 4 rfl dX7_putsOut_49 ?_
        refine x_iload_n G 3 rfl rfl dX7_putsOut_51 ?_
        refine x_icmp_ge G 93 (by decide) dX7_putsOut_52 (fun c52 => ?_) (fun c52 => ?_)
        · skip
          refine x_iconst G (by decide) dX7_putsOut_93 ?_
          exact x_zret G (by omega) Rt dX7_putsOut_94 ⟨rfl, rfl, _, rfl, ⟨(by rw [b2i_f (fun h => by obtain ⟨j, hj, e⟩ := List.getElem_of_mem (po_mem hs h.1).1; rw [show ((i.toNat : Nat) : Int) = i by omega] at hj; have e2 : (thL V i.toNat i).getD j 0 = (putO V i.toNat).toNat := (by simp [List.getD, hj]; simp only [show ((i.toNat : Nat) : Int) = i by omega] at e; exact e); refine hno j (by omega) ⟨by omega, ?_⟩; rw [e2]; have hm := (po_mem hs h.1).1; rw [show ((i.toNat : Nat) : Int) = i by omega] at hm; exact (hpo.1 _ hm).mpr ⟨h.1, by omega⟩)]), (mfr_tr hf1 (mfx_w 207 h43.2.1 (by decide))), h43.2.2⟩⟩
        · skip
          have hsk := hsvA k.toNat (by omega)
          refine x_iload_n G 2 rfl rfl dX7_putsOut_55 ?_
          refine x_iconst G (by decide) dX7_putsOut_56 ?_
          refine x_icmp_eq G 71 (by decide) dX7_putsOut_57 (fun c57 => ?_) (fun c57 => ?_)
          · skip
            refine x_aload_n G 0 rfl rfl dX7_putsOut_71 ?_
            refine x_aload_n G 0 rfl rfl dX7_putsOut_72 ?_
            refine x_get G (xR 204) xf7_11 lk_X7_35 (ly_n hY 195 (by decide)) (ly_k hY 195 (by decide)) (Or.inr ⟨rfl, _, (ly_r hY 195 11 (by decide) (by decide)), rfl⟩) dX7_putsOut_73 ?_
            refine x_iload G 4 rfl dX7_putsOut_76 ?_
            refine x_iald G (ly_n hY 204 (by decide)) (ly_k hY 204 (by decide)) (show _ = 12 from ly_l hY 204 (by decide)) (by omega) (by omega) dX7_putsOut_78 ?_
            rw [show M43 204 k.toNat = (N1 204 k.toNat) from (congrFun (h43.2.1.1 204 (by omega)) k.toNat)]
            rw [hsk]
            skip
            refine x_callVp G [] [xI ((((thL V i.toNat i).getD k.toNat 0) : Nat) : Int)] rfl (by decide) (ly_n hY 195 (by decide)) (ly_k hY 195 (by decide)) hy_X7_placeOf hi_X7_placeOf hs_X7_placeOf ml_X7_140 rfl rfl (kX7_placeOf _ _ (thL V i.toNat (i + 1)) ((((thL V i.toNat i).getD k.toNat 0) : Nat) : Int) hY h43.1 hl43 (by omega)) (by decide) (by decide) (Nat.le_of_ble_eq_true rfl) dX7_putsOut_79 ?_
            show xX Γ 0 0 n T 82 [(0, xR 195), (1, xI i), (2, xI wh), (3, xI ((thL V i.toNat i).length : Int)), (4, xI k)] [xI (qPl (thL V i.toNat (i + 1)) ((((thL V i.toNat i).getD k.toNat 0) : Nat) : Int).toNat)] M43
            refine x_if_ge G 87 (by decide) dX7_putsOut_82 (fun c82 => ?_) (fun c82 => ?_)
            · skip
              refine x_iinc G [(4, xI (k + 1)), (0, xR 195), (1, xI i), (2, xI wh), (3, xI ((thL V i.toNat i).length : Int))] 4 rfl (by decide) (by omega) rfl dX7_putsOut_87 ?_
              refine x_goto G 49 (by decide) dX7_putsOut_90 ?_
              refine x_sub [(0, xR 195), (1, xI i), (2, xI wh), (3, xI ((thL V i.toNat i).length : Int)), (4, xI (k + 1))] [1, 2, 3, 4, 0] rfl ?_
              exact ih49 _ (by omega) (k + 1) rfl (by omega) (by intro j hj; rcases Int.lt_or_le j k with g | g; exact hno j g; have e : j = k.toNat := (by omega); rw [e]; intro h; exact h.2 (qpl_ge.mp (show 0 ≤ qPl (thL V i.toNat (i + 1)) ((thL V i.toNat i).getD k.toNat 0) from c82)))
            · skip
              have hgin := getD_in (L := (thL V i.toNat i)) (j := k.toNat) (by omega)
              have hgo := (hpo.1 _ hgin).mp (fun h => by have h2 := qpl_ge.mpr h; have h3 : qPl (thL V i.toNat (i + 1)) ((thL V i.toNat i).getD k.toNat 0) < 0 := c82; omega)
              refine x_iconst G (by decide) dX7_putsOut_85 ?_
              exact x_zret G (by omega) Rt dX7_putsOut_86 ⟨rfl, rfl, _, rfl, ⟨(by rw [b2i_t ⟨hgo.1, by omega⟩]), (mfr_tr hf1 (mfx_w 207 h43.2.1 (by decide))), h43.2.2⟩⟩
          · skip
            refine x_aload_n G 0 rfl rfl dX7_putsOut_60 ?_
            refine x_get G (xR 204) xf7_11 lk_X7_35 (ly_n hY 195 (by decide)) (ly_k hY 195 (by decide)) (Or.inr ⟨rfl, _, (ly_r hY 195 11 (by decide) (by decide)), rfl⟩) dX7_putsOut_61 ?_
            refine x_iload G 4 rfl dX7_putsOut_64 ?_
            refine x_iald G (ly_n hY 204 (by decide)) (ly_k hY 204 (by decide)) (show _ = 12 from ly_l hY 204 (by decide)) (by omega) (by omega) dX7_putsOut_66 ?_
            rw [show M43 204 k.toNat = (N1 204 k.toNat) from (congrFun (h43.2.1.1 204 (by omega)) k.toNat)]
            rw [hsk]
            skip
            refine x_iload_n G 2 rfl rfl dX7_putsOut_67 ?_
            refine x_icmp_ne G 87 (by decide) dX7_putsOut_68 (fun c68 => ?_) (fun c68 => ?_)
            · skip
              refine x_iinc G [(4, xI (k + 1)), (0, xR 195), (1, xI i), (2, xI wh), (3, xI ((thL V i.toNat i).length : Int))] 4 rfl (by decide) (by omega) rfl dX7_putsOut_87 ?_
              refine x_goto G 49 (by decide) dX7_putsOut_90 ?_
              refine x_sub [(0, xR 195), (1, xI i), (2, xI wh), (3, xI ((thL V i.toNat i).length : Int)), (4, xI (k + 1))] [1, 2, 3, 4, 0] rfl ?_
              exact ih49 _ (by omega) (k + 1) rfl (by omega) (by intro j hj; rcases Int.lt_or_le j k with g | g; exact hno j g; have e : j = k.toNat := (by omega); rw [e]; intro h; exact absurd h.1 (by omega))
            · skip
              refine x_aload_n G 0 rfl rfl dX7_putsOut_71 ?_
              refine x_aload_n G 0 rfl rfl dX7_putsOut_72 ?_
              refine x_get G (xR 204) xf7_11 lk_X7_35 (ly_n hY 195 (by decide)) (ly_k hY 195 (by decide)) (Or.inr ⟨rfl, _, (ly_r hY 195 11 (by decide) (by decide)), rfl⟩) dX7_putsOut_73 ?_
              refine x_iload G 4 rfl dX7_putsOut_76 ?_
              refine x_iald G (ly_n hY 204 (by decide)) (ly_k hY 204 (by decide)) (show _ = 12 from ly_l hY 204 (by decide)) (by omega) (by omega) dX7_putsOut_78 ?_
              rw [show M43 204 k.toNat = (N1 204 k.toNat) from (congrFun (h43.2.1.1 204 (by omega)) k.toNat)]
              rw [hsk]
              skip
              refine x_callVp G [] [xI ((((thL V i.toNat i).getD k.toNat 0) : Nat) : Int)] rfl (by decide) (ly_n hY 195 (by decide)) (ly_k hY 195 (by decide)) hy_X7_placeOf hi_X7_placeOf hs_X7_placeOf ml_X7_140 rfl rfl (kX7_placeOf _ _ (thL V i.toNat (i + 1)) ((((thL V i.toNat i).getD k.toNat 0) : Nat) : Int) hY h43.1 hl43 (by omega)) (by decide) (by decide) (Nat.le_of_ble_eq_true rfl) dX7_putsOut_79 ?_
              show xX Γ 0 0 n T 82 [(0, xR 195), (1, xI i), (2, xI wh), (3, xI ((thL V i.toNat i).length : Int)), (4, xI k)] [xI (qPl (thL V i.toNat (i + 1)) ((((thL V i.toNat i).getD k.toNat 0) : Nat) : Int).toNat)] M43
              refine x_if_ge G 87 (by decide) dX7_putsOut_82 (fun c82 => ?_) (fun c82 => ?_)
              · skip
                refine x_iinc G [(4, xI (k + 1)), (0, xR 195), (1, xI i), (2, xI wh), (3, xI ((thL V i.toNat i).length : Int))] 4 rfl (by decide) (by omega) rfl dX7_putsOut_87 ?_
                refine x_goto G 49 (by decide) dX7_putsOut_90 ?_
                refine x_sub [(0, xR 195), (1, xI i), (2, xI wh), (3, xI ((thL V i.toNat i).length : Int)), (4, xI (k + 1))] [1, 2, 3, 4, 0] rfl ?_
                exact ih49 _ (by omega) (k + 1) rfl (by omega) (by intro j hj; rcases Int.lt_or_le j k with g | g; exact hno j g; have e : j = k.toNat := (by omega); rw [e]; intro h; exact h.2 (qpl_ge.mp (show 0 ≤ qPl (thL V i.toNat (i + 1)) ((thL V i.toNat i).getD k.toNat 0) from c82)))
              · skip
                have hgin := getD_in (L := (thL V i.toNat i)) (j := k.toNat) (by omega)
                have hgo := (hpo.1 _ hgin).mp (fun h => by have h2 := qpl_ge.mpr h; have h3 : qPl (thL V i.toNat (i + 1)) ((thL V i.toNat i).getD k.toNat 0) < 0 := c82; omega)
                refine x_iconst G (by decide) dX7_putsOut_85 ?_
                exact x_zret G (by omega) Rt dX7_putsOut_86 ⟨rfl, rfl, _, rfl, ⟨(by rw [b2i_t ⟨hgo.1, by omega⟩]), (mfr_tr hf1 (mfx_w 207 h43.2.1 (by decide))), h43.2.2⟩⟩
      refine x_sub [(0, xR 195), (1, xI i), (2, xI wh), (3, xI ((thL V i.toNat i).length : Int)), (4, xI 0)] [1, 2, 3, 4, 0] rfl ?_
      exact loop49 _ 0 rfl (by omega) (fun j hj => by omega)
    · skip
      refine x_aload_n G 0 rfl rfl dX7_putsOut_20 ?_
      refine x_get G (xR 204) xf7_11 lk_X7_35 (ly_n hY 195 (by decide)) (ly_k hY 195 (by decide)) (Or.inr ⟨rfl, _, (ly_r hY 195 11 (by decide) (by decide)), rfl⟩) dX7_putsOut_21 ?_
      refine x_iload G 4 rfl dX7_putsOut_24 ?_
      refine x_aload_n G 0 rfl rfl dX7_putsOut_26 ?_
      refine x_get G (xR 202) xf7_7 lk_X7_29 (ly_n hY 195 (by decide)) (ly_k hY 195 (by decide)) (Or.inr ⟨rfl, _, (ly_r hY 195 7 (by decide) (by decide)), rfl⟩) dX7_putsOut_27 ?_
      refine x_iload G 4 rfl dX7_putsOut_30 ?_
      refine x_iald G (ly_n hY 202 (by decide)) (ly_k hY 202 (by decide)) (show _ = 100 from ly_l hY 202 (by decide)) (by omega) (by omega) dX7_putsOut_32 ?_
      rw [show N1 202 k.toNat = (((thL V i.toNat i).getD k.toNat 0 : Nat) : Int) from (hw1.2 k.toNat (by omega))]
      refine x_iast G (ly_n hY 204 (by decide)) (ly_k hY 204 (by decide)) (show _ = 12 from ly_l hY 204 (by decide)) (by omega) (by omega) dX7_putsOut_33 ?_
      refine x_iinc G [(4, xI (k + 1)), (0, xR 195), (1, xI i), (2, xI wh), (3, xI ((thL V i.toNat i).length : Int))] 4 rfl (by decide) (by omega) rfl dX7_putsOut_34 ?_
      refine x_goto G 14 (by decide) dX7_putsOut_37 ?_
      refine x_sub [(0, xR 195), (1, xI i), (2, xI wh), (3, xI ((thL V i.toNat i).length : Int)), (4, xI (k + 1))] [1, 2, 3, 4, 0] rfl ?_
      exact ih14 _ (by omega) (k + 1) (xst N1 204 k.toNat (((thL V i.toNat i).getD k.toNat 0 : Nat) : Int)) rfl (by omega) ((mfr_st hf1 (by omega))) ((rk_cg hR1 (xst_nq (by omega)) (xst_row (by omega)))) ((rw_cg hw1 (xst_nq (by omega)) (xst_row (by omega)))) ((sav_st hsv hk.1))
  refine x_sub [(0, xR 195), (1, xI i), (2, xI wh), (3, xI ((thL V i.toNat i).length : Int)), (4, xI 0)] [2, 3, 4, 1, 0] rfl ?_
  exact loop14 _ 0 M3 rfl (by omega) ((mfr_tr (mfr_refl _) (mfx_w 207 h3.2.1 (by decide)))) (h3.2.2) (h3.1) (fun j hj => by omega)
