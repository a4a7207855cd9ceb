theorem bit_keep {r : Nat} {k : Int} {P : Nat → Prop} (hk : 0 ≤ k) (h : ∀ j : Nat, r.testBit j = true ↔ ((j : Int) < k ∧ P j)) (hn : ¬ P k.toNat) : ∀ j : Nat, r.testBit j = true ↔ ((j : Int) < k + 1 ∧ P j) := fun j => by
  rw [h j]
  constructor
  · intro g; exact ⟨by omega, g.2⟩
  · intro g
    by_cases e : j = k.toNat
    · subst e; exact absurd g.2 hn
    · exact ⟨by omega, g.2⟩
theorem bit_more {r : Nat} {k : Int} {P : Nat → Prop} (hk : 0 ≤ k) (h : ∀ j : Nat, r.testBit j = true ↔ ((j : Int) < k ∧ P j)) (hy : P k.toNat) : ∀ j : Nat, (r ||| 2 ^ k.toNat).testBit j = true ↔ ((j : Int) < k + 1 ∧ P j) := fun j => by
  rw [fb_bit_set]
  simp only [Bool.or_eq_true, decide_eq_true_eq]
  rw [h j]
  constructor
  · rintro (g | g)
    · exact ⟨by omega, g.2⟩
    · subst g; exact ⟨by omega, hy⟩
  · intro g
    by_cases e : j = k.toNat
    · exact Or.inr e
    · exact Or.inl ⟨by omega, g.2⟩
set_option maxRecDepth 100000 in
set_option maxHeartbeats 4000000 in
theorem kX6_leastLotAhead (D : xD) (l : Launch) {n : Nat} {T : xT} {M : xM} (V : xM) (w i : Int) (hY : LayOK n T) (hV : shw M 1 V) (hv : VOK V) (hs : Srt V (V 10) (V 0 10).toNat) (hw : okW w) (hi : isI V i) : xC D l uX6_leastLotAhead 4 92 0 0 [xR 0, xI w, xI i] n T M (xPI n T (fun z M2 => (∃ c, Cut (pGt w (V 7 i.toNat) (V 6 i.toNat)) 1023 c ∧ z = c + 1) ∧ xof [3, 4, 162, 163, 164, 165, 166, 167] M M2)) := by
  refine x_met uX6_leastLotAhead (by decide) (Nat.le_of_ble_eq_true rfl) ?_
  intro Γ G Rt _
  have G : xG Γ RX6 cX6_leastLotAhead 5 4 92 0 0 := G
  have Rt : xRt Γ (xPI n T (fun z M2 => (∃ c, Cut (pGt w (V 7 i.toNat) (V 6 i.toNat)) 1023 c ∧ z = c + 1) ∧ xof [3, 4, 162, 163, 164, 165, 166, 167] M M2)) (some .int) 0 0 := Rt
  show xX Γ 0 0 n T 0 [(0, xR 0), (1, xI w), (2, xI i)] [] M
  have hc := ok_c hv
  obtain ⟨c, hcc⟩ := pGt_cut w (V 7 i.toNat) (V 6 i.toNat)
  have hcr := hcc.1
  refine x_iconst G (by decide) dX6_leastLotAhead_0 ?_
  refine x_istore_n G [(3, xI 0), (0, xR 0), (1, xI w), (2, xI i)] rfl (by decide) rfl dX6_leastLotAhead_1 ?_
  refine x_sipush G (by decide) dX6_leastLotAhead_2 ?_
  refine x_istore G [(4, xI 512), (3, xI 0), (0, xR 0), (1, xI w), (2, xI i)] (by decide) rfl dX6_leastLotAhead_5 ?_
  have loop7 : ∀ (d : Nat) (h : Int) (st : Int) (M1 : xM), st.toNat = d → ((st = 0 ∧ h = c) ∨ ((st = 1 ∨ st = 2 ∨ st = 4 ∨ st = 8 ∨ st = 16 ∨ st = 32 ∨ st = 64 ∨ st = 128 ∨ st = 256 ∨ st = 512) ∧ 0 ≤ h ∧ h ≤ c ∧ c < h + 2 * st)) → (shw M1 1 V) → (xof [3, 4, 162, 163, 164, 165, 166, 167] M M1) → xX Γ 0 0 n T 7 [(0, xR 0), (1, xI w), (2, xI i), (3, xI h), (4, xI st)] [] M1 := by
    intro d
    induction d using Nat.strongRecOn with
    | ind d ih7 =>
    intro h st M1 hd7 hst hV1 hx1
    skip
    refine x_iload G 4 rfl dX6_leastLotAhead_7 ?_
    refine x_if_le G 52 (by decide) dX6_leastLotAhead_9 (fun c9 => ?_) (fun c9 => ?_)
    · skip
      refine x_iload_n G 3 rfl rfl dX6_leastLotAhead_52 ?_
      refine x_iconst G (by decide) dX6_leastLotAhead_53 ?_
      refine x_iadd G (by omega) dX6_leastLotAhead_54 ?_
      exact x_iret G Rt dX6_leastLotAhead_55 ⟨rfl, rfl, _, rfl, ⟨⟨c, hcc, by omega⟩, hx1⟩⟩
    · skip
      refine x_iload_n G 3 rfl rfl dX6_leastLotAhead_12 ?_
      refine x_iload G 4 rfl dX6_leastLotAhead_13 ?_
      refine x_iadd G (by omega) dX6_leastLotAhead_15 ?_
      refine x_sipush G (by decide) dX6_leastLotAhead_16 ?_
      refine x_icmp_gt G 43 (by decide) dX6_leastLotAhead_19 (fun c19 => ?_) (fun c19 => ?_)
      · skip
        refine x_iload G 4 rfl dX6_leastLotAhead_43 ?_
        refine x_iconst G (by decide) dX6_leastLotAhead_45 ?_
        refine x_ishr G (st / 2) (by have := x_shr' (x := st) (k := 1) (by omega) (by omega) (by decide) (by decide); exact this) (by omega) dX6_leastLotAhead_46 ?_
        refine x_istore G [(4, xI (st / 2)), (0, xR 0), (1, xI w), (2, xI i), (3, xI h)] (by decide) rfl dX6_leastLotAhead_47 ?_
        refine x_goto G 7 (by decide) dX6_leastLotAhead_49 ?_
        refine x_sub [(0, xR 0), (1, xI w), (2, xI i), (3, xI h), (4, xI (st / 2))] [1, 2, 3, 4, 0] rfl ?_
        exact ih7 _ (by omega) h (st / 2) M1 rfl (by omega) (hV1) (hx1)
      · skip
        refine x_aload_n G 0 rfl rfl dX6_leastLotAhead_22 ?_
        refine x_get G (xR 1) xf6_0 lk_X6_10 (ly_n hY 0 (by decide)) (ly_k hY 0 (by decide)) (Or.inr ⟨rfl, _, (ly_r hY 0 0 (by decide) (by decide)), rfl⟩) dX6_leastLotAhead_23 ?_
        refine x_iload_n G 3 rfl rfl dX6_leastLotAhead_26 ?_
        refine x_iload G 4 rfl dX6_leastLotAhead_27 ?_
        refine x_iadd G (by omega) dX6_leastLotAhead_29 ?_
        refine x_iload_n G 1 rfl rfl dX6_leastLotAhead_30 ?_
        refine x_iload_n G 2 rfl rfl dX6_leastLotAhead_31 ?_
        refine x_callVI G [] [xI (h + st), xI w, xI i] rfl (by decide) (st_n (ly_st1 hY) 0 (by decide)) (st_k (ly_st1 hY) 0 (by decide)) hy_X3_compareToKey hi_X3_compareToKey hs_X3_compareToKey ml_X6_245 rfl rfl (kX3_compareToKey _ _ 1 V (h + st) w i (ly_st1 hY) hV1 hv (by omega) (by omega) (by omega)) (by decide) (by decide) (Nat.le_of_ble_eq_true rfl) dX6_leastLotAhead_32 (fun z32 M32 h32 => ?_)
        rw [h32.1]
        refine x_if_gt G 43 (by decide) dX6_leastLotAhead_35 (fun c35 => ?_) (fun c35 => ?_)
        · skip
          have hcx : (c : Int) < h + st := by (rcases Int.lt_or_le c (h + st) with g | g; exact g; exact absurd c35 (hcc.2.1 _ (by omega) g))
          refine x_iload G 4 rfl dX6_leastLotAhead_43 ?_
          refine x_iconst G (by decide) dX6_leastLotAhead_45 ?_
          refine x_ishr G (st / 2) (by have := x_shr' (x := st) (k := 1) (by omega) (by omega) (by decide) (by decide); exact this) (by omega) dX6_leastLotAhead_46 ?_
          refine x_istore G [(4, xI (st / 2)), (0, xR 0), (1, xI w), (2, xI i), (3, xI h)] (by decide) rfl dX6_leastLotAhead_47 ?_
          refine x_goto G 7 (by decide) dX6_leastLotAhead_49 ?_
          refine x_sub [(0, xR 0), (1, xI w), (2, xI i), (3, xI h), (4, xI (st / 2))] [1, 2, 3, 4, 0] rfl ?_
          exact ih7 _ (by omega) h (st / 2) M32 rfl (by omega) ((shw_xof hV1 h32.2 (by intro k9 h1 h2 h3; simp <;> omega))) ((xof_trans hx1 (xof_mono h32.2 (by decide))))
        · skip
          have hcx : h + st ≤ c := by (rcases Int.lt_or_le c (h + st) with g | g; exact absurd (hcc.2.2 _ g (by omega)) (by unfold pGt; omega); exact g)
          refine x_iload_n G 3 rfl rfl dX6_leastLotAhead_38 ?_
          refine x_iload G 4 rfl dX6_leastLotAhead_39 ?_
          refine x_iadd G (by omega) dX6_leastLotAhead_41 ?_
          refine x_istore_n G [(3, xI (h + st)), (0, xR 0), (1, xI w), (2, xI i), (4, xI st)] rfl (by decide) rfl dX6_leastLotAhead_42 ?_
          refine x_iload G 4 rfl dX6_leastLotAhead_43 ?_
          refine x_iconst G (by decide) dX6_leastLotAhead_45 ?_
          refine x_ishr G (st / 2) (by have := x_shr' (x := st) (k := 1) (by omega) (by omega) (by decide) (by decide); exact this) (by omega) dX6_leastLotAhead_46 ?_
          refine x_istore G [(4, xI (st / 2)), (3, xI (h + st)), (0, xR 0), (1, xI w), (2, xI i)] (by decide) rfl dX6_leastLotAhead_47 ?_
          refine x_goto G 7 (by decide) dX6_leastLotAhead_49 ?_
          refine x_sub [(0, xR 0), (1, xI w), (2, xI i), (3, xI (h + st)), (4, xI (st / 2))] [2, 3, 4, 1, 0] rfl ?_
          exact ih7 _ (by omega) (h + st) (st / 2) M32 rfl (by omega) ((shw_xof hV1 h32.2 (by intro k9 h1 h2 h3; simp <;> omega))) ((xof_trans hx1 (xof_mono h32.2 (by decide))))
  refine x_sub [(0, xR 0), (1, xI w), (2, xI i), (3, xI 0), (4, xI 512)] [2, 3, 4, 1, 0] rfl ?_
  exact loop7 _ 0 512 M rfl (by omega) (hV) (xof_refl _ _)
set_option maxRecDepth 100000 in
set_option maxHeartbeats 4000000 in
theorem kX6_part (D : xD) (l : Launch) {n : Nat} {T : xT} {M : xM} (V : xM) (i q : Int) (hY : LayOK n T) (hV : shw M 1 V) (hv : VOK V) (hs : Srt V (V 10) (V 0 10).toNat) : xC D l uX6_part 4 91 0 0 [xR 0, xI i, xI q] n T M (xPI n T (fun z M2 => (qPart V i q z) ∧ xof [3, 4, 162, 163, 164, 165, 166, 167] M M2)) := by
  refine x_met uX6_part (by decide) (Nat.le_of_ble_eq_true rfl) ?_
  intro Γ G Rt _
  have G : xG Γ RX6 cX6_part 5 4 91 0 0 := G
  have Rt : xRt Γ (xPI n T (fun z M2 => (qPart V i q z) ∧ xof [3, 4, 162, 163, 164, 165, 166, 167] M M2)) (some .int) 0 0 := Rt
  show xX Γ 0 0 n T 0 [(0, xR 0), (1, xI i), (2, xI q)] [] M
  have hc := ok_c hv
  refine x_aload_n G 0 rfl rfl dX6_part_0 ?_
  refine x_get G (xR 1) xf6_0 lk_X6_10 (ly_n hY 0 (by decide)) (ly_k hY 0 (by decide)) (Or.inr ⟨rfl, _, (ly_r hY 0 0 (by decide) (by decide)), rfl⟩) dX6_part_1 ?_
  refine x_iload_n G 1 rfl rfl dX6_part_4 ?_
  refine x_callVp G [] [xI i] rfl (by decide) (st_n (ly_st1 hY) 0 (by decide)) (st_k (ly_st1 hY) 0 (by decide)) hy_X3_hasItem hi_X3_hasItem hs_X3_hasItem ml_X6_187 rfl rfl (kX3_hasItem _ _ 1 V i (ly_st1 hY) hV hv) (by decide) (by decide) (Nat.le_of_ble_eq_true rfl) dX6_part_5 ?_
  refine x_if_eq G 22 (by decide) dX6_part_8 (fun c8 => ?_) (fun c8 => ?_)
  · skip
    have c8 := b2i_eq0.mp c8
    refine x_iconst G (by decide) dX6_part_22 ?_
    exact x_iret G Rt dX6_part_23 ⟨rfl, rfl, _, rfl, ⟨Or.inr ⟨by omega, rfl⟩, (xof_refl _ _)⟩⟩
  · skip
    have c8 := b2i_ne0.mp c8
    refine x_iload_n G 2 rfl rfl dX6_part_11 ?_
    refine x_iconst G (by decide) dX6_part_12 ?_
    refine x_sipush G (by decide) dX6_part_13 ?_
    refine x_callSp G [] [xI q, xI 1, xI 1000] hy_X6_isWithin ht_X6_isWithin ml_X6_62 rfl rfl (kX6_isWithin _ _ q 1 1000) (by decide) (by decide) (Nat.le_of_ble_eq_true rfl) dX6_part_16 ?_
    refine x_if_ne G 24 (by decide) dX6_part_19 (fun c19 => ?_) (fun c19 => ?_)
    · skip
      have c19 := b2i_ne0.mp c19
      have hit := ok_i hv (i := i) (by omega) (by omega)
      obtain ⟨c, hcc⟩ := pPt_cut q (V 7 i.toNat) (V 6 i.toNat) q.toNat
      rw [show ((q.toNat : Nat) : Int) = q by omega] at hcc
      have hcr := hcc.1
      have hcq : c < q := by (rcases Int.lt_or_le c q with g | g; exact g; exact absurd (pPt_top (q := q) (by omega) (by omega)) (hcc.2.1 q (by omega) g))
      refine x_iconst G (by decide) dX6_part_24 ?_
      refine x_istore_n G [(3, xI 0), (0, xR 0), (1, xI i), (2, xI q)] rfl (by decide) rfl dX6_part_25 ?_
      refine x_sipush G (by decide) dX6_part_26 ?_
      refine x_istore G [(4, xI 512), (3, xI 0), (0, xR 0), (1, xI i), (2, xI q)] (by decide) rfl dX6_part_29 ?_
      have loop31 : ∀ (d : Nat) (h : Int) (st : Int) (M1 : xM), st.toNat = d → ((st = 0 ∧ h = c) ∨ ((st = 1 ∨ st = 2 ∨ st = 4 ∨ st = 8 ∨ st = 16 ∨ st = 32 ∨ st = 64 ∨ st = 128 ∨ st = 256 ∨ st = 512) ∧ 0 ≤ h ∧ h ≤ c ∧ c < h + 2 * st)) → (shw M1 1 V) → (xof [3, 4, 162, 163, 164, 165, 166, 167] M M1) → xX Γ 0 0 n T 31 [(0, xR 0), (1, xI i), (2, xI q), (3, xI h), (4, xI st)] [] M1 := by
        intro d
        induction d using Nat.strongRecOn with
        | ind d ih31 =>
        intro h st M1 hd31 hst hV1 hx1
        skip
        refine x_iload G 4 rfl dX6_part_31 ?_
        refine x_if_le G 74 (by decide) dX6_part_33 (fun c33 => ?_) (fun c33 => ?_)
        · skip
          refine x_iload_n G 3 rfl rfl dX6_part_74 ?_
          exact x_iret G Rt dX6_part_75 ⟨rfl, rfl, _, rfl, ⟨Or.inl ⟨by omega, by omega, by rw [show h = c by omega]; exact hcc⟩, hx1⟩⟩
        · skip
          refine x_iload_n G 3 rfl rfl dX6_part_36 ?_
          refine x_iload G 4 rfl dX6_part_37 ?_
          refine x_iadd G (by omega) dX6_part_39 ?_
          refine x_iload_n G 2 rfl rfl dX6_part_40 ?_
          refine x_icmp_gt G 65 (by decide) dX6_part_41 (fun c41 => ?_) (fun c41 => ?_)
          · skip
            refine x_iload G 4 rfl dX6_part_65 ?_
            refine x_iconst G (by decide) dX6_part_67 ?_
            refine x_ishr G (st / 2) (by have := x_shr' (x := st) (k := 1) (by omega) (by omega) (by decide) (by decide); exact this) (by omega) dX6_part_68 ?_
            refine x_istore G [(4, xI (st / 2)), (0, xR 0), (1, xI i), (2, xI q), (3, xI h)] (by decide) rfl dX6_part_69 ?_
            refine x_goto G 31 (by decide) dX6_part_71 ?_
            refine x_sub [(0, xR 0), (1, xI i), (2, xI q), (3, xI h), (4, xI (st / 2))] [1, 2, 3, 4, 0] rfl ?_
            exact ih31 _ (by omega) h (st / 2) M1 rfl (by omega) (hV1) (hx1)
          · skip
            refine x_aload_n G 0 rfl rfl dX6_part_44 ?_
            refine x_get G (xR 1) xf6_0 lk_X6_10 (ly_n hY 0 (by decide)) (ly_k hY 0 (by decide)) (Or.inr ⟨rfl, _, (ly_r hY 0 0 (by decide) (by decide)), rfl⟩) dX6_part_45 ?_
            refine x_iload_n G 3 rfl rfl dX6_part_48 ?_
            refine x_iload G 4 rfl dX6_part_49 ?_
            refine x_iadd G (by omega) dX6_part_51 ?_
            refine x_iload_n G 2 rfl rfl dX6_part_52 ?_
            refine x_iload_n G 1 rfl rfl dX6_part_53 ?_
            refine x_callVI G [] [xI (h + st), xI q, xI i] rfl (by decide) (st_n (ly_st1 hY) 0 (by decide)) (st_k (ly_st1 hY) 0 (by decide)) hy_X3_isPartOfKey hi_X3_isPartOfKey hs_X3_isPartOfKey ml_X6_205 rfl rfl (kX3_isPartOfKey _ _ 1 V (h + st) q i (ly_st1 hY) hV1 hv (by omega) (by omega) (by omega)) (by decide) (by decide) (Nat.le_of_ble_eq_true rfl) dX6_part_54 (fun z54 M54 h54 => ?_)
            rw [h54.1]
            refine x_if_eq G 65 (by decide) dX6_part_57 (fun c57 => ?_) (fun c57 => ?_)
            · skip
              have c57 := b2i_eq0.mp c57
              have hcx : (c : Int) < h + st := by (rcases Int.lt_or_le c (h + st) with g | g; exact g; exact absurd c57 (hcc.2.1 _ (by omega) g))
              refine x_iload G 4 rfl dX6_part_65 ?_
              refine x_iconst G (by decide) dX6_part_67 ?_
              refine x_ishr G (st / 2) (by have := x_shr' (x := st) (k := 1) (by omega) (by omega) (by decide) (by decide); exact this) (by omega) dX6_part_68 ?_
              refine x_istore G [(4, xI (st / 2)), (0, xR 0), (1, xI i), (2, xI q), (3, xI h)] (by decide) rfl dX6_part_69 ?_
              refine x_goto G 31 (by decide) dX6_part_71 ?_
              refine x_sub [(0, xR 0), (1, xI i), (2, xI q), (3, xI h), (4, xI (st / 2))] [1, 2, 3, 4, 0] rfl ?_
              exact ih31 _ (by omega) h (st / 2) M54 rfl (by omega) ((shw_xof hV1 h54.2 (by intro k9 h1 h2 h3; simp <;> omega))) ((xof_trans hx1 (xof_mono h54.2 (by decide))))
            · skip
              have c57 := b2i_ne0.mp c57
              have hcx : h + st ≤ c := by (rcases Int.lt_or_le c (h + st) with g | g; exact absurd c57 (hcc.2.2 _ g (by omega)); exact g)
              refine x_iload_n G 3 rfl rfl dX6_part_60 ?_
              refine x_iload G 4 rfl dX6_part_61 ?_
              refine x_iadd G (by omega) dX6_part_63 ?_
              refine x_istore_n G [(3, xI (h + st)), (0, xR 0), (1, xI i), (2, xI q), (4, xI st)] rfl (by decide) rfl dX6_part_64 ?_
              refine x_iload G 4 rfl dX6_part_65 ?_
              refine x_iconst G (by decide) dX6_part_67 ?_
              refine x_ishr G (st / 2) (by have := x_shr' (x := st) (k := 1) (by omega) (by omega) (by decide) (by decide); exact this) (by omega) dX6_part_68 ?_
              refine x_istore G [(4, xI (st / 2)), (3, xI (h + st)), (0, xR 0), (1, xI i), (2, xI q)] (by decide) rfl dX6_part_69 ?_
              refine x_goto G 31 (by decide) dX6_part_71 ?_
              refine x_sub [(0, xR 0), (1, xI i), (2, xI q), (3, xI (h + st)), (4, xI (st / 2))] [2, 3, 4, 1, 0] rfl ?_
              exact ih31 _ (by omega) (h + st) (st / 2) M54 rfl (by omega) ((shw_xof hV1 h54.2 (by intro k9 h1 h2 h3; simp <;> omega))) ((xof_trans hx1 (xof_mono h54.2 (by decide))))
      refine x_sub [(0, xR 0), (1, xI i), (2, xI q), (3, xI 0), (4, xI 512)] [2, 3, 4, 1, 0] rfl ?_
      exact loop31 _ 0 512 M rfl (by omega) (hV) (xof_refl _ _)
    · skip
      have c19 := b2i_eq0.mp c19
      refine x_iconst G (by decide) dX6_part_22 ?_
      exact x_iret G Rt dX6_part_23 ⟨rfl, rfl, _, rfl, ⟨Or.inr ⟨by omega, rfl⟩, (xof_refl _ _)⟩⟩
set_option maxRecDepth 100000 in
set_option maxHeartbeats 4000000 in
theorem kX6_leastLotForSample (D : xD) (l : Launch) {n : Nat} {T : xT} {M : xM} (V : xM) (sh w : Int) (hY : LayOK n T) (hV : shw M 1 V) (hv : VOK V) (hs : Srt V (V 10) (V 0 10).toNat) (hsh : okS sh) (hw : okW w) : xC D l uX6_leastLotForSample 5 116 0 0 [xR 0, xI sh, xI w] n T M (xPI n T (fun z M2 => ((qFull V sh = -2 ∧ z = 1) ∨ (isI V (qFull V sh) ∧ ∃ c, Cut (pGt w (V 7 (rival V sh)) (V 6 (rival V sh))) 1023 c ∧ z = c + 1)) ∧ xof [3, 4, 162, 163, 164, 165, 166, 167] M M2)) := by
  refine x_met uX6_leastLotForSample (by decide) (Nat.le_of_ble_eq_true rfl) ?_
  intro Γ G Rt _
  have G : xG Γ RX6 cX6_leastLotForSample 4 5 116 0 0 := G
  have Rt : xRt Γ (xPI n T (fun z M2 => ((qFull V sh = -2 ∧ z = 1) ∨ (isI V (qFull V sh) ∧ ∃ c, Cut (pGt w (V 7 (rival V sh)) (V 6 (rival V sh))) 1023 c ∧ z = c + 1)) ∧ xof [3, 4, 162, 163, 164, 165, 166, 167] M M2)) (some .int) 0 0 := Rt
  show xX Γ 0 0 n T 0 [(0, xR 0), (1, xI sh), (2, xI w)] [] M
  have hc := ok_c hv
  have hful := full_it hv hs hsh
  refine x_aload_n G 0 rfl rfl dX6_leastLotForSample_0 ?_
  refine x_iload_n G 1 rfl rfl dX6_leastLotForSample_1 ?_
  refine x_callVI G [] [xI sh] rfl (by decide) (ly_n hY 0 (by decide)) (ly_k hY 0 (by decide)) hy_X6_lastOfFull hi_X6_lastOfFull hs_X6_lastOfFull ml_X6_233 rfl rfl (kX6_lastOfFull _ _ V sh hY hV hv hs (by omega)) (by decide) (by decide) (Nat.le_of_ble_eq_true rfl) dX6_leastLotForSample_2 (fun z2 M2 h2 => ?_)
  rw [h2.1]
  refine x_istore_n G [(3, xI (qFull V sh)), (0, xR 0), (1, xI sh), (2, xI w)] rfl (by decide) rfl dX6_leastLotForSample_5 ?_
  refine x_iload_n G 0 rfl rfl dX6_leastLotForSample_6 ?_
  refine x_bipush G (by decide) dX6_leastLotForSample_7 ?_
  refine x_icmp_ne G 16 (by decide) dX6_leastLotForSample_9 (fun c9 => ?_) (fun c9 => ?_)
  · skip
    have hfx := hful.resolve_left c9
    refine x_aload_n G 1 rfl rfl dX6_leastLotForSample_16 ?_
    refine x_iload_n G 3 rfl rfl dX6_leastLotForSample_17 ?_
    refine x_iload_n G 0 rfl rfl dX6_leastLotForSample_18 ?_
    refine x_callVI G [] [xI w, xI (qFull V sh)] rfl (by decide) (ly_n hY 0 (by decide)) (ly_k hY 0 (by decide)) hy_X6_leastLotAhead hi_X6_leastLotAhead hs_X6_leastLotAhead ml_X6_254 rfl rfl (kX6_leastLotAhead _ _ V w (qFull V sh) hY (shw_xof hV h2.2 (by intro k9 h1 h2 h3; simp <;> omega)) hv hs (by omega) (by omega)) (by decide) (by decide) (Nat.le_of_ble_eq_true rfl) dX6_leastLotForSample_19 (fun z19 M19 h19 => ?_)
    exact x_iret G Rt dX6_leastLotForSample_22 ⟨rfl, rfl, _, rfl, ⟨Or.inr ⟨hful.resolve_left c9, h19.1⟩, (xof_trans (xof_trans (xof_refl _ _) (xof_mono h2.2 (by decide))) (xof_mono h19.2 (by decide)))⟩⟩
  · skip
    refine x_iconst G (by decide) dX6_leastLotForSample_12 ?_
    refine x_goto G 22 (by decide) dX6_leastLotForSample_13 ?_
    exact x_iret G Rt dX6_leastLotForSample_22 ⟨rfl, rfl, _, rfl, ⟨Or.inl ⟨c9, rfl⟩, (xof_trans (xof_refl _ _) (xof_mono h2.2 (by decide)))⟩⟩
theorem need_lea {V : xM} {sh w y : Int} (h : (qFull V sh = -2 ∧ y = 1) ∨ (isI V (qFull V sh) ∧ ∃ c, Cut (pGt w (V 7 (rival V sh)) (V 6 (rival V sh))) 1023 c ∧ y = c + 1)) : (∀ lo, 1 ≤ lo → lo ≤ 1023 → (y ≤ lo ↔ wbi V sh lo w)) ∧ 1 ≤ y ∧ y ≤ 1024 := by
  rcases h with ⟨h1, h2⟩ | ⟨h1, c, hc, h2⟩
  · exact ⟨fun lo a b => ⟨fun _ => Or.inl h1, fun _ => by omega⟩, by omega, by omega⟩
  · have := hc.1
    refine ⟨fun lo a b => ⟨fun g => Or.inr (hc.2.2 lo (by omega) b), fun g => ?_⟩, by omega, by omega⟩
    rcases Int.lt_or_le c lo with e | e
    · omega
    · rcases g with g | g
      · omega
      · exact absurd g (hc.2.1 lo a e)
set_option maxRecDepth 100000 in
set_option maxHeartbeats 4000000 in
theorem kX6_needs (D : xD) (l : Launch) {n : Nat} {T : xT} {M : xM} (V : xM) (sh w : Int) (hY : LayOK n T) (hV : shw M 1 V) (hv : VOK V) (hs : Srt V (V 10) (V 0 10).toNat) : xC D l uX6_needs 6 139 0 0 [xR 0, xI sh, xI w] n T M (xPI n T (fun z M2 => (qNeeds V sh w z) ∧ xof [3, 4, 162, 163, 164, 165, 166, 167] M M2)) := by
  refine x_met uX6_needs (by decide) (Nat.le_of_ble_eq_true rfl) ?_
  intro Γ G Rt _
  have G : xG Γ RX6 cX6_needs 4 6 139 0 0 := G
  have Rt : xRt Γ (xPI n T (fun z M2 => (qNeeds V sh w z) ∧ xof [3, 4, 162, 163, 164, 165, 166, 167] M M2)) (some .int) 0 0 := Rt
  show xX Γ 0 0 n T 0 [(0, xR 0), (1, xI sh), (2, xI w)] [] M
  have hc := ok_c hv
  refine x_iload_n G 1 rfl rfl dX6_needs_0 ?_
  refine x_callSp G [] [xI sh] hy_X6_isShard ht_X6_isShard ml_X6_86 rfl rfl (kX6_isShard _ _ sh) (by decide) (by decide) (Nat.le_of_ble_eq_true rfl) dX6_needs_1 ?_
  refine x_if_eq G 14 (by decide) dX6_needs_4 (fun c4 => ?_) (fun c4 => ?_)
  · skip
    have c4 := b2i_eq0.mp c4
    refine x_iconst G (by decide) dX6_needs_14 ?_
    exact x_iret G Rt dX6_needs_15 ⟨rfl, rfl, _, rfl, ⟨Or.inr ⟨by omega, rfl⟩, (xof_refl _ _)⟩⟩
  · skip
    have c4 := b2i_ne0.mp c4
    refine x_iload_n G 2 rfl rfl dX6_needs_7 ?_
    refine x_callSp G [] [xI w] hy_X6_isWeight ht_X6_isWeight ml_X6_93 rfl rfl (kX6_isWeight _ _ w) (by decide) (by decide) (Nat.le_of_ble_eq_true rfl) dX6_needs_8 ?_
    refine x_if_ne G 16 (by decide) dX6_needs_11 (fun c11 => ?_) (fun c11 => ?_)
    · skip
      have c11 := b2i_ne0.mp c11
      refine x_aload_n G 0 rfl rfl dX6_needs_16 ?_
      refine x_iload_n G 1 rfl rfl dX6_needs_17 ?_
      refine x_iload_n G 2 rfl rfl dX6_needs_18 ?_
      refine x_callVI G [] [xI sh, xI w] rfl (by decide) (ly_n hY 0 (by decide)) (ly_k hY 0 (by decide)) hy_X6_leastLotForSample hi_X6_leastLotForSample hs_X6_leastLotForSample ml_X6_242 rfl rfl (kX6_leastLotForSample _ _ V sh w hY hV hv hs (by omega) (by omega)) (by decide) (by decide) (Nat.le_of_ble_eq_true rfl) dX6_needs_19 (fun z19 M19 h19 => ?_)
      have hnl := need_lea h19.1
      refine x_istore_n G [(3, xI z19), (0, xR 0), (1, xI sh), (2, xI w)] rfl (by decide) rfl dX6_needs_22 ?_
      refine x_iload_n G 0 rfl rfl dX6_needs_23 ?_
      refine x_sipush G (by decide) dX6_needs_24 ?_
      refine x_icmp_le G 35 (by decide) dX6_needs_27 (fun c27 => ?_) (fun c27 => ?_)
      · skip
        refine x_iload_n G 0 rfl rfl dX6_needs_35 ?_
        exact x_iret G Rt dX6_needs_36 ⟨rfl, rfl, _, rfl, ⟨Or.inl ⟨by omega, by omega, Or.inl ⟨by omega, (hnl.1 _ (by omega) (by omega)).mp (Int.le_refl _), fun x a b h => by have := (hnl.1 x a (by omega)).mpr h; omega⟩⟩, (xof_trans (xof_refl _ _) (xof_mono h19.2 (by decide)))⟩⟩
      · skip
        refine x_bipush G (by decide) dX6_needs_30 ?_
        refine x_goto G 36 (by decide) dX6_needs_32 ?_
        exact x_iret G Rt dX6_needs_36 ⟨rfl, rfl, _, rfl, ⟨Or.inl ⟨by omega, by omega, Or.inr ⟨rfl, fun x a b h => by have := (hnl.1 x a b).mpr h; omega⟩⟩, (xof_trans (xof_refl _ _) (xof_mono h19.2 (by decide)))⟩⟩
    · skip
      have c11 := b2i_eq0.mp c11
      refine x_iconst G (by decide) dX6_needs_14 ?_
      exact x_iret G Rt dX6_needs_15 ⟨rfl, rfl, _, rfl, ⟨Or.inr ⟨by omega, rfl⟩, (xof_refl _ _)⟩⟩
set_option maxRecDepth 100000 in
set_option maxHeartbeats 4000000 in
theorem kX6_heavy (D : xD) (l : Launch) {n : Nat} {T : xT} {M : xM} (V : xM) (sh lo : Int) (hY : LayOK n T) (hV : shw M 1 V) (hv : VOK V) (hs : Srt V (V 10) (V 0 10).toNat) : xC D l uX6_heavy 5 112 0 0 [xR 0, xI sh, xI lo] n T M (xPI n T (fun z M2 => (qHeavy V sh lo z) ∧ xof [3, 4, 162, 163, 164, 165, 166, 167] M M2)) := by
  refine x_met uX6_heavy (by decide) (Nat.le_of_ble_eq_true rfl) ?_
  intro Γ G Rt _
  have G : xG Γ RX6 cX6_heavy 5 5 112 0 0 := G
  have Rt : xRt Γ (xPI n T (fun z M2 => (qHeavy V sh lo z) ∧ xof [3, 4, 162, 163, 164, 165, 166, 167] M M2)) (some .int) 0 0 := Rt
  show xX Γ 0 0 n T 0 [(0, xR 0), (1, xI sh), (2, xI lo)] [] M
  have hc := ok_c hv
  refine x_iload_n G 1 rfl rfl dX6_heavy_0 ?_
  refine x_callSp G [] [xI sh] hy_X6_isShard ht_X6_isShard ml_X6_86 rfl rfl (kX6_isShard _ _ sh) (by decide) (by decide) (Nat.le_of_ble_eq_true rfl) dX6_heavy_1 ?_
  refine x_if_eq G 14 (by decide) dX6_heavy_4 (fun c4 => ?_) (fun c4 => ?_)
  · skip
    have c4 := b2i_eq0.mp c4
    refine x_iconst G (by decide) dX6_heavy_14 ?_
    exact x_iret G Rt dX6_heavy_15 ⟨rfl, rfl, _, rfl, ⟨Or.inr ⟨by omega, rfl⟩, (xof_refl _ _)⟩⟩
  · skip
    have c4 := b2i_ne0.mp c4
    refine x_iload_n G 2 rfl rfl dX6_heavy_7 ?_
    refine x_callSp G [] [xI lo] hy_X6_isLot ht_X6_isLot ml_X6_106 rfl rfl (kX6_isLot _ _ lo) (by decide) (by decide) (Nat.le_of_ble_eq_true rfl) dX6_heavy_8 ?_
    refine x_if_ne G 16 (by decide) dX6_heavy_11 (fun c11 => ?_) (fun c11 => ?_)
    · skip
      have c11 := b2i_ne0.mp c11
      refine x_aload_n G 0 rfl rfl dX6_heavy_16 ?_
      refine x_iload_n G 1 rfl rfl dX6_heavy_17 ?_
      refine x_callVI G [] [xI sh] rfl (by decide) (ly_n hY 0 (by decide)) (ly_k hY 0 (by decide)) hy_X6_lastOfFull hi_X6_lastOfFull hs_X6_lastOfFull ml_X6_233 rfl rfl (kX6_lastOfFull _ _ V sh hY hV hv hs (by omega)) (by decide) (by decide) (Nat.le_of_ble_eq_true rfl) dX6_heavy_18 (fun z18 M18 h18 => ?_)
      rw [h18.1]
      refine x_istore_n G [(3, xI (qFull V sh)), (0, xR 0), (1, xI sh), (2, xI lo)] rfl (by decide) rfl dX6_heavy_21 ?_
      have hful := full_it hv hs (sh := sh) (by omega)
      refine x_iconst G (by decide) dX6_heavy_22 ?_
      refine x_istore G [(4, xI 1), (3, xI (qFull V sh)), (0, xR 0), (1, xI sh), (2, xI lo)] (by decide) rfl dX6_heavy_23 ?_
      have loop25 : ∀ (d : Nat) (k : Int) (M1 : xM), (21 - k).toNat = d → (1 ≤ k ∧ k ≤ 21) → (∀ x, 1 ≤ x → x < k → ¬ wbi V sh lo x) → (shw M1 1 V) → (xof [3, 4, 162, 163, 164, 165, 166, 167] M M1) → xX Γ 0 0 n T 25 [(0, xR 0), (1, xI sh), (2, xI lo), (3, xI (qFull V sh)), (4, xI k)] [] M1 := by
        intro d
        induction d using Nat.strongRecOn with
        | ind d ih25 =>
        intro k M1 hd25 hk hno hV1 hx1
        skip
        refine x_iload G 4 rfl dX6_heavy_25 ?_
        refine x_bipush G (by decide) dX6_heavy_27 ?_
        refine x_icmp_gt G 61 (by decide) dX6_heavy_29 (fun c29 => ?_) (fun c29 => ?_)
        · skip
          refine x_bipush G (by decide) dX6_heavy_61 ?_
          exact x_iret G Rt dX6_heavy_63 ⟨rfl, rfl, _, rfl, ⟨Or.inl ⟨by omega, by omega, Or.inr ⟨rfl, fun x a b => hno x a (by omega)⟩⟩, hx1⟩⟩
        · skip
          refine x_iload_n G 3 rfl rfl dX6_heavy_32 ?_
          refine x_bipush G (by decide) dX6_heavy_33 ?_
          refine x_icmp_eq G 52 (by decide) dX6_heavy_35 (fun c35 => ?_) (fun c35 => ?_)
          · skip
            refine x_iload G 4 rfl dX6_heavy_52 ?_
            exact x_iret G Rt dX6_heavy_54 ⟨rfl, rfl, _, rfl, ⟨Or.inl ⟨by omega, by omega, Or.inl ⟨by omega, (by first | exact Or.inl c35 | exact Or.inr c49), hno⟩⟩, hx1⟩⟩
          · skip
            have hfx := hful.resolve_left c35
            refine x_aload_n G 0 rfl rfl dX6_heavy_38 ?_
            refine x_get G (xR 1) xf6_0 lk_X6_10 (ly_n hY 0 (by decide)) (ly_k hY 0 (by decide)) (Or.inr ⟨rfl, _, (ly_r hY 0 0 (by decide) (by decide)), rfl⟩) dX6_heavy_39 ?_
            refine x_iload_n G 2 rfl rfl dX6_heavy_42 ?_
            refine x_iload G 4 rfl dX6_heavy_43 ?_
            refine x_iload_n G 3 rfl rfl dX6_heavy_45 ?_
            refine x_callVI G [] [xI lo, xI k, xI (qFull V sh)] rfl (by decide) (st_n (ly_st1 hY) 0 (by decide)) (st_k (ly_st1 hY) 0 (by decide)) hy_X3_compareToKey hi_X3_compareToKey hs_X3_compareToKey ml_X6_245 rfl rfl (kX3_compareToKey _ _ 1 V lo k (qFull V sh) (ly_st1 hY) hV1 hv (by omega) (by omega) (by omega)) (by decide) (by decide) (Nat.le_of_ble_eq_true rfl) dX6_heavy_46 (fun z46 M46 h46 => ?_)
            rw [h46.1]
            refine x_if_le G 55 (by decide) dX6_heavy_49 (fun c49 => ?_) (fun c49 => ?_)
            · skip
              refine x_iinc G [(4, xI (k + 1)), (0, xR 0), (1, xI sh), (2, xI lo), (3, xI (qFull V sh))] 4 rfl (by decide) (by omega) rfl dX6_heavy_55 ?_
              refine x_goto G 25 (by decide) dX6_heavy_58 ?_
              refine x_sub [(0, xR 0), (1, xI sh), (2, xI lo), (3, xI (qFull V sh)), (4, xI (k + 1))] [1, 2, 3, 4, 0] rfl ?_
              exact ih25 _ (by omega) (k + 1) M46 rfl (by omega) (by intro x a b; rcases Int.lt_or_le x k with g | g; exact hno x a g; have e : x = k := (by omega); rw [e]; intro h; rcases h with h | h; exact c35 h; exact absurd h (by unfold rival; omega)) ((shw_xof hV1 h46.2 (by intro k9 h1 h2 h3; simp <;> omega))) ((xof_trans hx1 (xof_mono h46.2 (by decide))))
            · skip
              refine x_iload G 4 rfl dX6_heavy_52 ?_
              exact x_iret G Rt dX6_heavy_54 ⟨rfl, rfl, _, rfl, ⟨Or.inl ⟨by omega, by omega, Or.inl ⟨by omega, (by first | exact Or.inl c35 | exact Or.inr c49), hno⟩⟩, (xof_trans hx1 (xof_mono h46.2 (by decide)))⟩⟩
      refine x_sub [(0, xR 0), (1, xI sh), (2, xI lo), (3, xI (qFull V sh)), (4, xI 1)] [2, 3, 4, 1, 0] rfl ?_
      exact loop25 _ 1 M18 rfl (by omega) (by intro x a b; omega) ((shw_xof hV h18.2 (by intro k9 h1 h2 h3; simp <;> omega))) ((xof_trans (xof_refl _ _) (xof_mono h18.2 (by decide))))
    · skip
      have c11 := b2i_eq0.mp c11
      refine x_iconst G (by decide) dX6_heavy_14 ?_
      exact x_iret G Rt dX6_heavy_15 ⟨rfl, rfl, _, rfl, ⟨Or.inr ⟨by omega, rfl⟩, (xof_refl _ _)⟩⟩
set_option maxRecDepth 100000 in
set_option maxHeartbeats 4000000 in
theorem kX6_skip (D : xD) (l : Launch) {n : Nat} {T : xT} {M : xM} (V : xM) (sh w : Int) (hY : LayOK n T) (hV : shw M 1 V) (hv : VOK V) (hs : Srt V (V 10) (V 0 10).toNat) : xC D l uX6_skip 6 139 0 0 [xR 0, xI sh, xI w] n T M (xPI n T (fun z M2 => (qSkip V sh w z) ∧ xof [3, 4, 162, 163, 164, 165, 166, 167] M M2)) := by
  refine x_met uX6_skip (by decide) (Nat.le_of_ble_eq_true rfl) ?_
  intro Γ G Rt _
  have G : xG Γ RX6 cX6_skip 6 6 139 0 0 := G
  have Rt : xRt Γ (xPI n T (fun z M2 => (qSkip V sh w z) ∧ xof [3, 4, 162, 163, 164, 165, 166, 167] M M2)) (some .int) 0 0 := Rt
  show xX Γ 0 0 n T 0 [(0, xR 0), (1, xI sh), (2, xI w)] [] M
  have hc := ok_c hv
  have hsc := hv.1
  refine x_iload_n G 1 rfl rfl dX6_skip_0 ?_
  refine x_callSp G [] [xI sh] hy_X6_isShard ht_X6_isShard ml_X6_86 rfl rfl (kX6_isShard _ _ sh) (by decide) (by decide) (Nat.le_of_ble_eq_true rfl) dX6_skip_1 ?_
  refine x_if_eq G 14 (by decide) dX6_skip_4 (fun c4 => ?_) (fun c4 => ?_)
  · skip
    have c4 := b2i_eq0.mp c4
    refine x_iconst G (by decide) dX6_skip_14 ?_
    exact x_iret G Rt dX6_skip_15 ⟨rfl, rfl, _, rfl, ⟨Or.inr ⟨by omega, rfl⟩, (xof_refl _ _)⟩⟩
  · skip
    have c4 := b2i_ne0.mp c4
    refine x_iload_n G 2 rfl rfl dX6_skip_7 ?_
    refine x_callSp G [] [xI w] hy_X6_isWeight ht_X6_isWeight ml_X6_93 rfl rfl (kX6_isWeight _ _ w) (by decide) (by decide) (Nat.le_of_ble_eq_true rfl) dX6_skip_8 ?_
    refine x_if_ne G 16 (by decide) dX6_skip_11 (fun c11 => ?_) (fun c11 => ?_)
    · skip
      have c11 := b2i_ne0.mp c11
      refine x_aload_n G 0 rfl rfl dX6_skip_16 ?_
      refine x_iload_n G 1 rfl rfl dX6_skip_17 ?_
      refine x_iload_n G 2 rfl rfl dX6_skip_18 ?_
      refine x_callVI G [] [xI sh, xI w] rfl (by decide) (ly_n hY 0 (by decide)) (ly_k hY 0 (by decide)) hy_X6_leastLotForSample hi_X6_leastLotForSample hs_X6_leastLotForSample ml_X6_242 rfl rfl (kX6_leastLotForSample _ _ V sh w hY hV hv hs (by omega) (by omega)) (by decide) (by decide) (Nat.le_of_ble_eq_true rfl) dX6_skip_19 (fun z19 M19 h19 => ?_)
      have hnl := need_lea h19.1
      refine x_istore_n G [(3, xI z19), (0, xR 0), (1, xI sh), (2, xI w)] rfl (by decide) rfl dX6_skip_22 ?_
      refine x_aload_n G 1 rfl rfl dX6_skip_23 ?_
      refine x_get G (xR 1) xf6_0 lk_X6_10 (ly_n hY 0 (by decide)) (ly_k hY 0 (by decide)) (Or.inr ⟨rfl, _, (ly_r hY 0 0 (by decide) (by decide)), rfl⟩) dX6_skip_24 ?_
      refine x_get G (xI (M19 1 12)) xf3_12 lk_X6_173 (st_n (ly_st1 hY) 0 (by decide)) (st_k (ly_st1 hY) 0 (by decide)) (Or.inl ⟨rfl, rfl⟩) dX6_skip_27 ?_
      rw [show M19 1 12 = (V 0 12) from ((congrFun (h19.2 1 (by simp <;> omega)) 12).trans (congrFun (hV 0 (by decide) (by decide) (by decide)) 12))]
      refine x_istore G [(4, xI (V 0 12)), (3, xI z19), (0, xR 0), (1, xI sh), (2, xI w)] (by decide) rfl dX6_skip_30 ?_
      refine x_iconst G (by decide) dX6_skip_32 ?_
      refine x_istore G [(5, xI 0), (4, xI (V 0 12)), (3, xI z19), (0, xR 0), (1, xI sh), (2, xI w)] (by decide) rfl dX6_skip_33 ?_
      have loop35 : ∀ (d : Nat) (k : Int) (sd : Int), (1000 - k).toNat = d → (0 ≤ k ∧ k ≤ 1000) → (sd = itd k.toNat (V 0 12)) → (0 ≤ sd ∧ sd < 65536) → (∀ x, 0 ≤ x → x < k → ¬ wbi V sh (itd (x.toNat + 1) (V 0 12) / 64) w) → xX Γ 0 0 n T 35 [(0, xR 0), (1, xI sh), (2, xI w), (3, xI z19), (4, xI sd), (5, xI k)] [] M19 := by
        intro d
        induction d using Nat.strongRecOn with
        | ind d ih35 =>
        intro k sd hd35 hk hsd hsb hno
        refine x_iload G 5 rfl dX6_skip_35 ?_
        refine x_sipush G (by decide) dX6_skip_37 ?_
        refine x_icmp_ge G 68 (by decide) dX6_skip_40 (fun c40 => ?_) (fun c40 => ?_)
        · skip
          refine x_bipush G (by decide) dX6_skip_68 ?_
          exact x_iret G Rt dX6_skip_70 ⟨rfl, rfl, _, rfl, ⟨Or.inl ⟨by omega, by omega, Or.inr ⟨rfl, fun x a b => hno x a (by omega)⟩⟩, (xof_trans (xof_refl _ _) (xof_mono h19.2 (by decide)))⟩⟩
        · skip
          have hdb := drw_b sd
          have hlb : 1 ≤ drw sd / 64 ∧ drw sd / 64 ≤ 1023 := by omega
          have hit1 : itd (k.toNat + 1) (V 0 12) = drw sd := (by rw [hsd]; rfl)
          refine x_iload G 4 rfl dX6_skip_43 ?_
          refine x_callSp G [] [xI sd] hy_X6_seedOfNextLot ht_X6_seedOfNextLot ml_X6_248 rfl rfl (kX6_seedOfNextLot _ _ sd (by omega)) (by decide) (by decide) (Nat.le_of_ble_eq_true rfl) dX6_skip_45 ?_
          refine x_istore G [(4, xI (drw sd)), (0, xR 0), (1, xI sh), (2, xI w), (3, xI z19), (5, xI k)] (by decide) rfl dX6_skip_48 ?_
          refine x_iload G 0 rfl dX6_skip_50 ?_
          refine x_callSp G [] [xI (drw sd)] hy_X6_lotOfSeed ht_X6_lotOfSeed ml_X6_251 rfl rfl (kX6_lotOfSeed _ _ (drw sd) (by omega)) (by decide) (by decide) (Nat.le_of_ble_eq_true rfl) dX6_skip_52 ?_
          refine x_iload_n G 4 rfl rfl dX6_skip_55 ?_
          refine x_icmp_lt G 62 (by decide) dX6_skip_56 (fun c56 => ?_) (fun c56 => ?_)
          · skip
            refine x_iinc G [(5, xI (k + 1)), (4, xI (drw sd)), (0, xR 0), (1, xI sh), (2, xI w), (3, xI z19)] 5 rfl (by decide) (by omega) rfl dX6_skip_62 ?_
            refine x_goto G 35 (by decide) dX6_skip_65 ?_
            refine x_sub [(0, xR 0), (1, xI sh), (2, xI w), (3, xI z19), (4, xI (drw sd)), (5, xI (k + 1))] [2, 3, 4, 5, 1, 0] rfl ?_
            exact ih35 _ (by omega) (k + 1) (drw sd) rfl (by omega) (by rw [show (k + 1).toNat = k.toNat + 1 by omega]; unfold itd; rw [← hsd]) (by omega) (by intro x a b; rcases Int.lt_or_le x k with g | g; exact hno x a g; have e : x = k := (by omega); rw [e, hit1]; intro h; have := (hnl.1 _ hlb.1 hlb.2).mpr h; omega)
          · skip
            refine x_iload G 5 rfl dX6_skip_59 ?_
            exact x_iret G Rt dX6_skip_61 ⟨rfl, rfl, _, rfl, ⟨Or.inl ⟨by omega, by omega, Or.inl ⟨by omega, (hnl.1 _ (by omega) (by omega)).mp (by omega), hno⟩⟩, (xof_trans (xof_refl _ _) (xof_mono h19.2 (by decide)))⟩⟩
      refine x_sub [(0, xR 0), (1, xI sh), (2, xI w), (3, xI z19), (4, xI (V 0 12)), (5, xI 0)] [3, 4, 5, 2, 1, 0] rfl ?_
      exact loop35 _ 0 (V 0 12) rfl (by omega) (rfl) (by omega) (by intro x a b; omega)
    · skip
      have c11 := b2i_eq0.mp c11
      refine x_iconst G (by decide) dX6_skip_14 ?_
      exact x_iret G Rt dX6_skip_15 ⟨rfl, rfl, _, rfl, ⟨Or.inr ⟨by omega, rfl⟩, (xof_refl _ _)⟩⟩
set_option maxRecDepth 100000 in
set_option maxHeartbeats 4000000 in
theorem kX6_lots (D : xD) (l : Launch) {n : Nat} {T : xT} {M : xM} (V : xM) (i w : Int) (hY : LayOK n T) (hV : shw M 1 V) (hv : VOK V) (hs : Srt V (V 10) (V 0 10).toNat) : xC D l uX6_lots 5 116 0 0 [xR 0, xI i, xI w] n T M (xPI n T (fun z M2 => (qLots V i w z) ∧ xof [3, 4, 162, 163, 164, 165, 166, 167] M M2)) := by
  refine x_met uX6_lots (by decide) (Nat.le_of_ble_eq_true rfl) ?_
  intro Γ G Rt _
  have G : xG Γ RX6 cX6_lots 3 5 116 0 0 := G
  have Rt : xRt Γ (xPI n T (fun z M2 => (qLots V i w z) ∧ xof [3, 4, 162, 163, 164, 165, 166, 167] M M2)) (some .int) 0 0 := Rt
  show xX Γ 0 0 n T 0 [(0, xR 0), (1, xI i), (2, xI w)] [] M
  have hc := ok_c hv
  refine x_aload_n G 0 rfl rfl dX6_lots_0 ?_
  refine x_get G (xR 1) xf6_0 lk_X6_10 (ly_n hY 0 (by decide)) (ly_k hY 0 (by decide)) (Or.inr ⟨rfl, _, (ly_r hY 0 0 (by decide) (by decide)), rfl⟩) dX6_lots_1 ?_
  refine x_iload_n G 1 rfl rfl dX6_lots_4 ?_
  refine x_callVp G [] [xI i] rfl (by decide) (st_n (ly_st1 hY) 0 (by decide)) (st_k (ly_st1 hY) 0 (by decide)) hy_X3_hasItem hi_X3_hasItem hs_X3_hasItem ml_X6_187 rfl rfl (kX3_hasItem _ _ 1 V i (ly_st1 hY) hV hv) (by decide) (by decide) (Nat.le_of_ble_eq_true rfl) dX6_lots_5 ?_
  refine x_if_eq G 18 (by decide) dX6_lots_8 (fun c8 => ?_) (fun c8 => ?_)
  · skip
    have c8 := b2i_eq0.mp c8
    refine x_iconst G (by decide) dX6_lots_18 ?_
    exact x_iret G Rt dX6_lots_19 ⟨rfl, rfl, _, rfl, ⟨Or.inr ⟨by omega, rfl⟩, (xof_refl _ _)⟩⟩
  · skip
    have c8 := b2i_ne0.mp c8
    refine x_iload_n G 2 rfl rfl dX6_lots_11 ?_
    refine x_callSp G [] [xI w] hy_X6_isWeight ht_X6_isWeight ml_X6_93 rfl rfl (kX6_isWeight _ _ w) (by decide) (by decide) (Nat.le_of_ble_eq_true rfl) dX6_lots_12 ?_
    refine x_if_ne G 20 (by decide) dX6_lots_15 (fun c15 => ?_) (fun c15 => ?_)
    · skip
      have c15 := b2i_ne0.mp c15
      have hit := ok_i hv (i := i) (by omega) (by omega)
      refine x_aload_n G 0 rfl rfl dX6_lots_20 ?_
      refine x_get G (xR 1) xf6_0 lk_X6_10 (ly_n hY 0 (by decide)) (ly_k hY 0 (by decide)) (Or.inr ⟨rfl, _, (ly_r hY 0 0 (by decide) (by decide)), rfl⟩) dX6_lots_21 ?_
      refine x_get G (xR (1 + 9)) xf3_6 lk_X6_129 (st_n (ly_st1 hY) 0 (by decide)) (st_k (ly_st1 hY) 0 (by decide)) (Or.inr ⟨rfl, _, (st_r (ly_st1 hY) 0 6 (by decide) (by decide)), rfl⟩) dX6_lots_24 ?_
      refine x_iload_n G 1 rfl rfl dX6_lots_27 ?_
      refine x_zald G (st_n (ly_st1 hY) 9 (by decide)) (st_k (ly_st1 hY) 9 (by decide)) (show _ = 100 from st_l (ly_st1 hY) 9 (by decide)) (by omega) (by omega) dX6_lots_28 ?_
      rw [show M (1 + 9) i.toNat = (V 9 i.toNat) from (congrFun (hV 9 (by decide) (by decide) (by decide)) i.toNat)]
      refine x_if_eq G 35 (by decide) dX6_lots_29 (fun c29 => ?_) (fun c29 => ?_)
      · skip
        refine x_sipush G (by decide) dX6_lots_35 ?_
        refine x_aload_n G 0 rfl rfl dX6_lots_38 ?_
        refine x_iload_n G 2 rfl rfl dX6_lots_39 ?_
        refine x_iload_n G 1 rfl rfl dX6_lots_40 ?_
        refine x_callVI G [xI 1024] [xI w, xI i] rfl (by decide) (ly_n hY 0 (by decide)) (ly_k hY 0 (by decide)) hy_X6_leastLotAhead hi_X6_leastLotAhead hs_X6_leastLotAhead ml_X6_254 rfl rfl (kX6_leastLotAhead _ _ V w i hY hV hv hs (by omega) (by omega)) (by decide) (by decide) (Nat.le_of_ble_eq_true rfl) dX6_lots_41 (fun z41 M41 h41 => ?_)
        obtain ⟨c, hcc, hz⟩ := h41.1
        have hcr := hcc.1
        refine x_isub G (by omega) dX6_lots_44 ?_
        exact x_iret G Rt dX6_lots_45 ⟨rfl, rfl, _, rfl, ⟨Or.inl ⟨by omega, by omega, Or.inr ⟨by omega, by rw [show 1023 - (1024 - z41) = c by omega]; exact hcc⟩⟩, (xof_trans (xof_refl _ _) (xof_mono h41.2 (by decide)))⟩⟩
      · skip
        refine x_bipush G (by decide) dX6_lots_32 ?_
        exact x_iret G Rt dX6_lots_34 ⟨rfl, rfl, _, rfl, ⟨Or.inl ⟨by omega, by omega, Or.inl ⟨by omega, rfl⟩⟩, (xof_refl _ _)⟩⟩
    · skip
      have c15 := b2i_eq0.mp c15
      refine x_iconst G (by decide) dX6_lots_18 ?_
      exact x_iret G Rt dX6_lots_19 ⟨rfl, rfl, _, rfl, ⟨Or.inr ⟨by omega, rfl⟩, (xof_refl _ _)⟩⟩
set_option maxRecDepth 100000 in
set_option maxHeartbeats 4000000 in
theorem kX6_nextLot (D : xD) (l : Launch) {n : Nat} {T : xT} {M : xM} (V : xM) (k : Int) (hY : LayOK n T) (hV : shw M 1 V) (hv : VOK V) (hs : Srt V (V 10) (V 0 10).toNat) : xC D l uX6_nextLot 2 42 0 0 [xR 0, xI k] n T M (xPI n T (fun z M2 => z = qNext V k ∧ xof [3, 4, 162, 163, 164, 165, 166, 167] M M2)) := by
  refine x_met uX6_nextLot (by decide) (Nat.le_of_ble_eq_true rfl) ?_
  intro Γ G Rt _
  have G : xG Γ RX6 cX6_nextLot 4 2 42 0 0 := G
  have Rt : xRt Γ (xPI n T (fun z M2 => z = qNext V k ∧ xof [3, 4, 162, 163, 164, 165, 166, 167] M M2)) (some .int) 0 0 := Rt
  show xX Γ 0 0 n T 0 [(0, xR 0), (1, xI k)] [] M
  have hc := ok_c hv
  have hsc := hv.1
  refine x_iload_n G 1 rfl rfl dX6_nextLot_0 ?_
  refine x_iconst G (by decide) dX6_nextLot_1 ?_
  refine x_sipush G (by decide) dX6_nextLot_2 ?_
  refine x_callSp G [] [xI k, xI 0, xI 999] hy_X6_isWithin ht_X6_isWithin ml_X6_62 rfl rfl (kX6_isWithin _ _ k 0 999) (by decide) (by decide) (Nat.le_of_ble_eq_true rfl) dX6_nextLot_5 ?_
  refine x_if_ne G 13 (by decide) dX6_nextLot_8 (fun c8 => ?_) (fun c8 => ?_)
  · skip
    have c8 := b2i_ne0.mp c8
    refine x_aload_n G 0 rfl rfl dX6_nextLot_13 ?_
    refine x_get G (xR 1) xf6_0 lk_X6_10 (ly_n hY 0 (by decide)) (ly_k hY 0 (by decide)) (Or.inr ⟨rfl, _, (ly_r hY 0 0 (by decide) (by decide)), rfl⟩) dX6_nextLot_14 ?_
    refine x_get G (xI (M 1 12)) xf3_12 lk_X6_173 (st_n (ly_st1 hY) 0 (by decide)) (st_k (ly_st1 hY) 0 (by decide)) (Or.inl ⟨rfl, rfl⟩) dX6_nextLot_17 ?_
    rw [show M 1 12 = (V 0 12) from (congrFun (hV 0 (by decide) (by decide) (by decide)) 12)]
    refine x_istore_n G [(2, xI (V 0 12)), (0, xR 0), (1, xI k)] rfl (by decide) rfl dX6_nextLot_20 ?_
    refine x_iconst G (by decide) dX6_nextLot_21 ?_
    refine x_istore_n G [(3, xI 0), (2, xI (V 0 12)), (0, xR 0), (1, xI k)] rfl (by decide) rfl dX6_nextLot_22 ?_
    have loop23 : ∀ (d : Nat) (j : Int) (sd : Int), (k + 1 - j).toNat = d → (0 ≤ j ∧ j ≤ k + 1) → (sd = itd j.toNat (V 0 12)) → (0 ≤ sd ∧ sd < 65536) → xX Γ 0 0 n T 23 [(0, xR 0), (1, xI k), (2, xI sd), (3, xI j)] [] M := by
      intro d
      induction d using Nat.strongRecOn with
      | ind d ih23 =>
      intro j sd hd23 hk hsd hsb
      have hdb := drw_b sd
      refine x_iload_n G 3 rfl rfl dX6_nextLot_23 ?_
      refine x_iload_n G 1 rfl rfl dX6_nextLot_24 ?_
      refine x_icmp_gt G 39 (by decide) dX6_nextLot_25 (fun c25 => ?_) (fun c25 => ?_)
      · skip
        refine x_iload_n G 2 rfl rfl dX6_nextLot_39 ?_
        refine x_callSp G [] [xI sd] hy_X6_lotOfSeed ht_X6_lotOfSeed ml_X6_251 rfl rfl (kX6_lotOfSeed _ _ sd (by omega)) (by decide) (by decide) (Nat.le_of_ble_eq_true rfl) dX6_nextLot_40 ?_
        exact x_iret G Rt dX6_nextLot_43 ⟨rfl, rfl, _, rfl, ⟨(by unfold qNext; rw [if_pos (by omega), hsd, show j.toNat = k.toNat + 1 by omega]), (xof_refl _ _)⟩⟩
      · skip
        refine x_iload_n G 2 rfl rfl dX6_nextLot_28 ?_
        refine x_callSp G [] [xI sd] hy_X6_seedOfNextLot ht_X6_seedOfNextLot ml_X6_248 rfl rfl (kX6_seedOfNextLot _ _ sd (by omega)) (by decide) (by decide) (Nat.le_of_ble_eq_true rfl) dX6_nextLot_29 ?_
        refine x_istore_n G [(2, xI (drw sd)), (0, xR 0), (1, xI k), (3, xI j)] rfl (by decide) rfl dX6_nextLot_32 ?_
        refine x_iinc G [(3, xI (j + 1)), (2, xI (drw sd)), (0, xR 0), (1, xI k)] 3 rfl (by decide) (by omega) rfl dX6_nextLot_33 ?_
        refine x_goto G 23 (by decide) dX6_nextLot_36 ?_
        refine x_sub [(0, xR 0), (1, xI k), (2, xI (drw sd)), (3, xI (j + 1))] [2, 3, 1, 0] rfl ?_
        exact ih23 _ (by omega) (j + 1) (drw sd) rfl (by omega) (by rw [show (j + 1).toNat = j.toNat + 1 by omega]; unfold itd; rw [← hsd]) (by omega)
    refine x_sub [(0, xR 0), (1, xI k), (2, xI (V 0 12)), (3, xI 0)] [2, 3, 1, 0] rfl ?_
    exact loop23 _ 0 (V 0 12) rfl (by omega) (rfl) (by omega)
  · skip
    have c8 := b2i_eq0.mp c8
    refine x_iconst G (by decide) dX6_nextLot_11 ?_
    exact x_iret G Rt dX6_nextLot_12 ⟨rfl, rfl, _, rfl, ⟨(by unfold qNext; (repeat (first | rw [if_pos (by omega)] | rw [if_neg (by omega)])) <;> try rfl), (xof_refl _ _)⟩⟩
set_option maxRecDepth 100000 in
set_option maxHeartbeats 4000000 in
theorem kX6_kindsBySize (D : xD) (l : Launch) {n : Nat} {T : xT} {M : xM} (V : xM) (sh m : Int) (hY : LayOK n T) (hV : shw M 1 V) (hv : VOK V) (hs : Srt V (V 10) (V 0 10).toNat) (hsh : okS sh) : xC D l uX6_kindsBySize 3 69 0 0 [xR 0, xI sh, xI m] n T M (xPI n T (fun z M2 => z = kdL V ((alN V sh).take m.toNat) ∧ xof [3, 4, 162, 163, 164, 165, 166, 167] M M2)) := by
  refine x_met uX6_kindsBySize (by decide) (Nat.le_of_ble_eq_true rfl) ?_
  intro Γ G Rt _
  have G : xG Γ RX6 cX6_kindsBySize 5 3 69 0 0 := G
  have Rt : xRt Γ (xPI n T (fun z M2 => z = kdL V ((alN V sh).take m.toNat) ∧ xof [3, 4, 162, 163, 164, 165, 166, 167] M M2)) (some .int) 0 0 := Rt
  show xX Γ 0 0 n T 0 [(0, xR 0), (1, xI sh), (2, xI m)] [] M
  have hc := ok_c hv
  have hsc := hv.1
  refine x_aload_n G 0 rfl rfl dX6_kindsBySize_0 ?_
  refine x_get G (xR 162) xf6_4 lk_X6_37 (ly_n hY 0 (by decide)) (ly_k hY 0 (by decide)) (Or.inr ⟨rfl, _, (ly_r hY 0 4 (by decide) (by decide)), rfl⟩) dX6_kindsBySize_1 ?_
  refine x_aload_n G 0 rfl rfl dX6_kindsBySize_4 ?_
  refine x_get G (xR 1) xf6_0 lk_X6_10 (ly_n hY 0 (by decide)) (ly_k hY 0 (by decide)) (Or.inr ⟨rfl, _, (ly_r hY 0 0 (by decide) (by decide)), rfl⟩) dX6_kindsBySize_5 ?_
  refine x_iload_n G 1 rfl rfl dX6_kindsBySize_8 ?_
  refine x_callVV G [] [xR 1, xI sh] rfl (by decide) (sa_n (ly_sa162 hY) 0 (by decide)) (sa_k (ly_sa162 hY) 0 (by decide)) hy_X2_ask hi_X2_ask hs_X2_ask ml_X6_208 rfl rfl (kX2_ask _ _ 162 1 V sh (ly_sa162 hY) (ly_st1 hY) (by omega) hV hv (by omega)) (by decide) (by decide) (Nat.le_of_ble_eq_true rfl) dX6_kindsBySize_9 (fun M9 h9 => ?_)
  have hbp9 : 1 ≤ (2 : Int) ^ (sh : Int).toNat ∧ (2 : Int) ^ (sh : Int).toNat ≤ 8 := two_b (by omega)
  refine x_aload_n G 0 rfl rfl dX6_kindsBySize_12 ?_
  refine x_get G (xR 162) xf6_4 lk_X6_37 (ly_n hY 0 (by decide)) (ly_k hY 0 (by decide)) (Or.inr ⟨rfl, _, (ly_r hY 0 4 (by decide) (by decide)), rfl⟩) dX6_kindsBySize_13 ?_
  refine x_iload_n G 2 rfl rfl dX6_kindsBySize_16 ?_
  refine x_put G  xf2_4 lk_X6_211 (sa_n (ly_sa162 hY) 0 (by decide)) (sa_k (ly_sa162 hY) 0 (by decide)) rfl dX6_kindsBySize_17 ?_
  refine x_aload_n G 0 rfl rfl dX6_kindsBySize_20 ?_
  refine x_get G (xR 162) xf6_4 lk_X6_37 (ly_n hY 0 (by decide)) (ly_k hY 0 (by decide)) (Or.inr ⟨rfl, _, (ly_r hY 0 4 (by decide) (by decide)), rfl⟩) dX6_kindsBySize_21 ?_
  refine x_aload_n G 0 rfl rfl dX6_kindsBySize_24 ?_
  refine x_get G (xR 1) xf6_0 lk_X6_10 (ly_n hY 0 (by decide)) (ly_k hY 0 (by decide)) (Or.inr ⟨rfl, _, (ly_r hY 0 0 (by decide) (by decide)), rfl⟩) dX6_kindsBySize_25 ?_
  refine x_callVV G [] [xR 1] rfl (by decide) (sa_n (ly_sa162 hY) 0 (by decide)) (sa_k (ly_sa162 hY) 0 (by decide)) hy_X2_fill hi_X2_fill hs_X2_fill ml_X6_214 rfl rfl (kX2_fill _ _ 162 1 V (2 ^ (sh : Int).toNat) m (V 0 11) 100 (-1) 100 (ly_sa162 hY) (ly_st1 hY) (by omega) (shw_st (shw_xof hV h9.2 (by intro k9 h1 h2 h3; simp <;> omega)) (by omega)) hv (ask_s4 h9.1) (by omega) (by omega) hs) (by decide) (by decide) (Nat.le_of_ble_eq_true rfl) dX6_kindsBySize_28 (fun M28 h28 => ?_)
  have hsm28 : Smp M28 162 V ((alN V sh).take m.toNat) := by
    have e9 := h28.1
    rw [fil_kd hv hs hsh] at e9
    exact e9
  have hn28 := hsm28.1
  have hl28 : ((alN V sh).take m.toNat).length ≤ 100 := by
    rw [← fil_kd hv hs hsh]
    exact fil_len2 hv _ _ _
  refine x_iconst G (by decide) dX6_kindsBySize_31 ?_
  refine x_istore_n G [(3, xI 0), (0, xR 0), (1, xI sh), (2, xI m)] rfl (by decide) rfl dX6_kindsBySize_32 ?_
  refine x_iconst G (by decide) dX6_kindsBySize_33 ?_
  refine x_istore G [(4, xI 0), (3, xI 0), (0, xR 0), (1, xI sh), (2, xI m)] (by decide) rfl dX6_kindsBySize_34 ?_
  have loop36 : ∀ (d : Nat) (k : Int) (q : Int), (26 - k).toNat = d → (0 ≤ k ∧ k ≤ 26) → (q = fb_si (fun j => b2i (0 < lb1 V ((alN V sh).take m.toNat) j)) k.toNat) → xX Γ 0 0 n T 36 [(0, xR 0), (1, xI sh), (2, xI m), (3, xI q), (4, xI k)] [] M28 := by
    intro d
    induction d using Nat.strongRecOn with
    | ind d ih36 =>
    intro k q hd36 hk hn
    have hb := si_b (fun j => 0 < lb1 V ((alN V sh).take m.toNat) j) k.toNat
    refine x_iload G 4 rfl dX6_kindsBySize_36 ?_
    refine x_bipush G (by decide) dX6_kindsBySize_38 ?_
    refine x_icmp_ge G 65 (by decide) dX6_kindsBySize_40 (fun c40 => ?_) (fun c40 => ?_)
    · skip
      refine x_iload_n G 3 rfl rfl dX6_kindsBySize_65 ?_
      exact x_iret G Rt dX6_kindsBySize_66 ⟨rfl, rfl, _, rfl, ⟨(by unfold kdL; rw [hn, show k.toNat = 26 by omega]), (xof_trans (xof_trans (xof_trans (xof_refl _ _) (xof_mono h9.2 (by decide))) (xof_xst (by decide))) (xof_mono h28.2.2 (by decide)))⟩⟩
    · skip
      have hlb := hsm28.2.2 k.toNat (by omega)
      refine x_aload_n G 0 rfl rfl dX6_kindsBySize_43 ?_
      refine x_get G (xR 162) xf6_4 lk_X6_37 (ly_n hY 0 (by decide)) (ly_k hY 0 (by decide)) (Or.inr ⟨rfl, _, (ly_r hY 0 4 (by decide) (by decide)), rfl⟩) dX6_kindsBySize_44 ?_
      refine x_get G (xR (162 + 2)) xf2_1 lk_X6_260 (sa_n (ly_sa162 hY) 0 (by decide)) (sa_k (ly_sa162 hY) 0 (by decide)) (Or.inr ⟨rfl, _, (sa_r (ly_sa162 hY) 0 1 (by decide) (by decide)), rfl⟩) dX6_kindsBySize_47 ?_
      refine x_iload G 4 rfl dX6_kindsBySize_50 ?_
      refine x_iald G (sa_n (ly_sa162 hY) 2 (by decide)) (sa_k (ly_sa162 hY) 2 (by decide)) (show _ = 26 from sa_l (ly_sa162 hY) 2 (by decide)) (by omega) (by omega) dX6_kindsBySize_52 ?_
      refine x_if_le G 59 (by decide) dX6_kindsBySize_53 (fun c53 => ?_) (fun c53 => ?_)
      · skip
        refine x_iinc G [(4, xI (k + 1)), (0, xR 0), (1, xI sh), (2, xI m), (3, xI q)] 4 rfl (by decide) (by omega) rfl dX6_kindsBySize_59 ?_
        refine x_goto G 36 (by decide) dX6_kindsBySize_62 ?_
        refine x_sub [(0, xR 0), (1, xI sh), (2, xI m), (3, xI q), (4, xI (k + 1))] [1, 2, 3, 4, 0] rfl ?_
        exact ih36 _ (by omega) (k + 1) q rfl (by omega) (by first | exact si_y hk.1 hn (by rw [← hlb]; omega) | exact si_n hk.1 hn (by rw [← hlb]; omega))
      · skip
        refine x_iinc G [(3, xI (q + 1)), (0, xR 0), (1, xI sh), (2, xI m), (4, xI k)] 3 rfl (by decide) (by omega) rfl dX6_kindsBySize_56 ?_
        refine x_iinc G [(4, xI (k + 1)), (3, xI (q + 1)), (0, xR 0), (1, xI sh), (2, xI m)] 4 rfl (by decide) (by omega) rfl dX6_kindsBySize_59 ?_
        refine x_goto G 36 (by decide) dX6_kindsBySize_62 ?_
        refine x_sub [(0, xR 0), (1, xI sh), (2, xI m), (3, xI (q + 1)), (4, xI (k + 1))] [2, 3, 4, 1, 0] rfl ?_
        exact ih36 _ (by omega) (k + 1) (q + 1) rfl (by omega) (by first | exact si_y hk.1 hn (by rw [← hlb]; omega) | exact si_n hk.1 hn (by rw [← hlb]; omega))
  refine x_sub [(0, xR 0), (1, xI sh), (2, xI m), (3, xI 0), (4, xI 0)] [2, 3, 4, 1, 0] rfl ?_
  exact loop36 _ 0 0 rfl (by omega) (rfl)
set_option maxRecDepth 100000 in
set_option maxHeartbeats 4000000 in
theorem kX6_kinds (D : xD) (l : Launch) {n : Nat} {T : xT} {M : xM} (V : xM) (sh m : Int) (hY : LayOK n T) (hV : shw M 1 V) (hv : VOK V) (hs : Srt V (V 10) (V 0 10).toNat) : xC D l uX6_kinds 4 93 0 0 [xR 0, xI sh, xI m] n T M (xPI n T (fun z M2 => z = qKinds V sh m ∧ xof [3, 4, 162, 163, 164, 165, 166, 167] M M2)) := by
  refine x_met uX6_kinds (by decide) (Nat.le_of_ble_eq_true rfl) ?_
  intro Γ G Rt _
  have G : xG Γ RX6 cX6_kinds 3 4 93 0 0 := G
  have Rt : xRt Γ (xPI n T (fun z M2 => z = qKinds V sh m ∧ xof [3, 4, 162, 163, 164, 165, 166, 167] M M2)) (some .int) 0 0 := Rt
  show xX Γ 0 0 n T 0 [(0, xR 0), (1, xI sh), (2, xI m)] [] M
  have hc := ok_c hv
  refine x_iload_n G 1 rfl rfl dX6_kinds_0 ?_
  refine x_callSp G [] [xI sh] hy_X6_isShard ht_X6_isShard ml_X6_86 rfl rfl (kX6_isShard _ _ sh) (by decide) (by decide) (Nat.le_of_ble_eq_true rfl) dX6_kinds_1 ?_
  refine x_if_eq G 17 (by decide) dX6_kinds_4 (fun c4 => ?_) (fun c4 => ?_)
  · skip
    have c4 := b2i_eq0.mp c4
    refine x_iconst G (by decide) dX6_kinds_17 ?_
    exact x_iret G Rt dX6_kinds_18 ⟨rfl, rfl, _, rfl, ⟨(by unfold qKinds; (repeat (first | rw [if_pos (by omega)] | rw [if_neg (by omega)])) <;> try rfl), (xof_refl _ _)⟩⟩
  · skip
    have c4 := b2i_ne0.mp c4
    refine x_iload_n G 2 rfl rfl dX6_kinds_7 ?_
    refine x_iconst G (by decide) dX6_kinds_8 ?_
    refine x_bipush G (by decide) dX6_kinds_9 ?_
    refine x_callSp G [] [xI m, xI 1, xI 12] hy_X6_isWithin ht_X6_isWithin ml_X6_62 rfl rfl (kX6_isWithin _ _ m 1 12) (by decide) (by decide) (Nat.le_of_ble_eq_true rfl) dX6_kinds_11 ?_
    refine x_if_ne G 19 (by decide) dX6_kinds_14 (fun c14 => ?_) (fun c14 => ?_)
    · skip
      have c14 := b2i_ne0.mp c14
      refine x_aload_n G 0 rfl rfl dX6_kinds_19 ?_
      refine x_iload_n G 1 rfl rfl dX6_kinds_20 ?_
      refine x_iload_n G 2 rfl rfl dX6_kinds_21 ?_
      refine x_callVI G [] [xI sh, xI m] rfl (by decide) (ly_n hY 0 (by decide)) (ly_k hY 0 (by decide)) hy_X6_kindsBySize hi_X6_kindsBySize hs_X6_kindsBySize ml_X6_257 rfl rfl (kX6_kindsBySize _ _ V sh m hY hV hv hs (by omega)) (by decide) (by decide) (Nat.le_of_ble_eq_true rfl) dX6_kinds_22 (fun z22 M22 h22 => ?_)
      rw [h22.1]
      exact x_iret G Rt dX6_kinds_25 ⟨rfl, rfl, _, rfl, ⟨(by unfold qKinds; (repeat (first | rw [if_pos (by omega)] | rw [if_neg (by omega)])) <;> try rfl), (xof_trans (xof_refl _ _) (xof_mono h22.2 (by decide)))⟩⟩
    · skip
      have c14 := b2i_eq0.mp c14
      refine x_iconst G (by decide) dX6_kinds_17 ?_
      exact x_iret G Rt dX6_kinds_18 ⟨rfl, rfl, _, rfl, ⟨(by unfold qKinds; (repeat (first | rw [if_pos (by omega)] | rw [if_neg (by omega)])) <;> try rfl), (xof_refl _ _)⟩⟩
set_option maxRecDepth 100000 in
set_option maxHeartbeats 4000000 in
theorem kX6_sizeForKinds (D : xD) (l : Launch) {n : Nat} {T : xT} {M : xM} (V : xM) (sh m : Int) (hY : LayOK n T) (hV : shw M 1 V) (hv : VOK V) (hs : Srt V (V 10) (V 0 10).toNat) : xC D l uX6_sizeForKinds 4 93 0 0 [xR 0, xI sh, xI m] n T M (xPI n T (fun z M2 => (qSfk V sh m z) ∧ xof [3, 4, 162, 163, 164, 165, 166, 167] M M2)) := by
  refine x_met uX6_sizeForKinds (by decide) (Nat.le_of_ble_eq_true rfl) ?_
  intro Γ G Rt _
  have G : xG Γ RX6 cX6_sizeForKinds 4 4 93 0 0 := G
  have Rt : xRt Γ (xPI n T (fun z M2 => (qSfk V sh m z) ∧ xof [3, 4, 162, 163, 164, 165, 166, 167] M M2)) (some .int) 0 0 := Rt
  show xX Γ 0 0 n T 0 [(0, xR 0), (1, xI sh), (2, xI m)] [] M
  have hc := ok_c hv
  refine x_iload_n G 1 rfl rfl dX6_sizeForKinds_0 ?_
  refine x_callSp G [] [xI sh] hy_X6_isShard ht_X6_isShard ml_X6_86 rfl rfl (kX6_isShard _ _ sh) (by decide) (by decide) (Nat.le_of_ble_eq_true rfl) dX6_sizeForKinds_1 ?_
  refine x_if_eq G 17 (by decide) dX6_sizeForKinds_4 (fun c4 => ?_) (fun c4 => ?_)
  · skip
    have c4 := b2i_eq0.mp c4
    refine x_iconst G (by decide) dX6_sizeForKinds_17 ?_
    exact x_iret G Rt dX6_sizeForKinds_18 ⟨rfl, rfl, _, rfl, ⟨Or.inr ⟨by omega, rfl⟩, (xof_refl _ _)⟩⟩
  · skip
    have c4 := b2i_ne0.mp c4
    refine x_iload_n G 2 rfl rfl dX6_sizeForKinds_7 ?_
    refine x_iconst G (by decide) dX6_sizeForKinds_8 ?_
    refine x_bipush G (by decide) dX6_sizeForKinds_9 ?_
    refine x_callSp G [] [xI m, xI 1, xI 12] hy_X6_isWithin ht_X6_isWithin ml_X6_62 rfl rfl (kX6_isWithin _ _ m 1 12) (by decide) (by decide) (Nat.le_of_ble_eq_true rfl) dX6_sizeForKinds_11 ?_
    refine x_if_ne G 19 (by decide) dX6_sizeForKinds_14 (fun c14 => ?_) (fun c14 => ?_)
    · skip
      have c14 := b2i_ne0.mp c14
      refine x_iconst G (by decide) dX6_sizeForKinds_19 ?_
      refine x_istore_n G [(3, xI 1), (0, xR 0), (1, xI sh), (2, xI m)] rfl (by decide) rfl dX6_sizeForKinds_20 ?_
      have loop21 : ∀ (d : Nat) (k : Int) (M1 : xM), (13 - k).toNat = d → (1 ≤ k ∧ k ≤ 13) → (∀ x, 1 ≤ x → x < k → ¬ m ≤ kdL V ((alN V sh).take x.toNat)) → (shw M1 1 V) → (xof [3, 4, 162, 163, 164, 165, 166, 167] M M1) → xX Γ 0 0 n T 21 [(0, xR 0), (1, xI sh), (2, xI m), (3, xI k)] [] M1 := by
        intro d
        induction d using Nat.strongRecOn with
        | ind d ih21 =>
        intro k M1 hd21 hk hno hV1 hx1
        skip
        refine x_iload_n G 3 rfl rfl dX6_sizeForKinds_21 ?_
        refine x_bipush G (by decide) dX6_sizeForKinds_22 ?_
        refine x_icmp_gt G 45 (by decide) dX6_sizeForKinds_24 (fun c24 => ?_) (fun c24 => ?_)
        · skip
          refine x_bipush G (by decide) dX6_sizeForKinds_45 ?_
          exact x_iret G Rt dX6_sizeForKinds_47 ⟨rfl, rfl, _, rfl, ⟨Or.inl ⟨by omega, by omega, Or.inr ⟨rfl, fun x a b => hno x a (by omega)⟩⟩, hx1⟩⟩
        · skip
          refine x_aload_n G 0 rfl rfl dX6_sizeForKinds_27 ?_
          refine x_iload_n G 1 rfl rfl dX6_sizeForKinds_28 ?_
          refine x_iload_n G 3 rfl rfl dX6_sizeForKinds_29 ?_
          refine x_callVI G [] [xI sh, xI k] rfl (by decide) (ly_n hY 0 (by decide)) (ly_k hY 0 (by decide)) hy_X6_kindsBySize hi_X6_kindsBySize hs_X6_kindsBySize ml_X6_257 rfl rfl (kX6_kindsBySize _ _ V sh k hY hV1 hv hs (by omega)) (by decide) (by decide) (Nat.le_of_ble_eq_true rfl) dX6_sizeForKinds_30 (fun z30 M30 h30 => ?_)
          rw [h30.1]
          refine x_iload_n G 2 rfl rfl dX6_sizeForKinds_33 ?_
          refine x_icmp_lt G 39 (by decide) dX6_sizeForKinds_34 (fun c34 => ?_) (fun c34 => ?_)
          · skip
            refine x_iinc G [(3, xI (k + 1)), (0, xR 0), (1, xI sh), (2, xI m)] 3 rfl (by decide) (by omega) rfl dX6_sizeForKinds_39 ?_
            refine x_goto G 21 (by decide) dX6_sizeForKinds_42 ?_
            refine x_sub [(0, xR 0), (1, xI sh), (2, xI m), (3, xI (k + 1))] [1, 2, 3, 0] rfl ?_
            exact ih21 _ (by omega) (k + 1) M30 rfl (by omega) (by intro x a b; rcases Int.lt_or_le x k with g | g; exact hno x a g; have e : x = k := (by omega); rw [e]; omega) ((shw_xof hV1 h30.2 (by intro k9 h1 h2 h3; simp <;> omega))) ((xof_trans hx1 (xof_mono h30.2 (by decide))))
          · skip
            have c34 : m ≤ kdL V ((alN V sh).take k.toNat) := by omega
            refine x_iload_n G 3 rfl rfl dX6_sizeForKinds_37 ?_
            exact x_iret G Rt dX6_sizeForKinds_38 ⟨rfl, rfl, _, rfl, ⟨Or.inl ⟨by omega, by omega, Or.inl ⟨by omega, c34, hno⟩⟩, (xof_trans hx1 (xof_mono h30.2 (by decide)))⟩⟩
      refine x_sub [(0, xR 0), (1, xI sh), (2, xI m), (3, xI 1)] [1, 2, 3, 0] rfl ?_
      exact loop21 _ 1 M rfl (by omega) (by intro x a b; omega) (hV) ((xof_refl _ _))
    · skip
      have c14 := b2i_eq0.mp c14
      refine x_iconst G (by decide) dX6_sizeForKinds_17 ?_
      exact x_iret G Rt dX6_sizeForKinds_18 ⟨rfl, rfl, _, rfl, ⟨Or.inr ⟨by omega, rfl⟩, (xof_refl _ _)⟩⟩
set_option maxRecDepth 100000 in
set_option maxHeartbeats 4000000 in
theorem kX6_shared (D : xD) (l : Launch) {n : Nat} {T : xT} {M : xM} (V : xM) (sh sh2 : Int) (hY : LayOK n T) (hV : shw M 1 V) (hv : VOK V) (hs : Srt V (V 10) (V 0 10).toNat) : xC D l uX6_shared 4 91 0 0 [xR 0, xI sh, xI sh2] n T M (xPI n T (fun z M2 => (qShared V sh sh2 z) ∧ xof [3, 4, 162, 163, 164, 165, 166, 167] M M2)) := by
  refine x_met uX6_shared (by decide) (Nat.le_of_ble_eq_true rfl) ?_
  intro Γ G Rt _
  have G : xG Γ RX6 cX6_shared 5 4 91 0 0 := G
  have Rt : xRt Γ (xPI n T (fun z M2 => (qShared V sh sh2 z) ∧ xof [3, 4, 162, 163, 164, 165, 166, 167] M M2)) (some .int) 0 0 := Rt
  show xX Γ 0 0 n T 0 [(0, xR 0), (1, xI sh), (2, xI sh2)] [] M
  have hc := ok_c hv
  refine x_iload_n G 1 rfl rfl dX6_shared_0 ?_
  refine x_callSp G [] [xI sh] hy_X6_isShard ht_X6_isShard ml_X6_86 rfl rfl (kX6_isShard _ _ sh) (by decide) (by decide) (Nat.le_of_ble_eq_true rfl) dX6_shared_1 ?_
  refine x_if_eq G 14 (by decide) dX6_shared_4 (fun c4 => ?_) (fun c4 => ?_)
  · skip
    have c4 := b2i_eq0.mp c4
    refine x_iconst G (by decide) dX6_shared_14 ?_
    exact x_iret G Rt dX6_shared_15 ⟨rfl, rfl, _, rfl, ⟨Or.inr ⟨by omega, rfl⟩, (xof_refl _ _)⟩⟩
  · skip
    have c4 := b2i_ne0.mp c4
    refine x_iload_n G 2 rfl rfl dX6_shared_7 ?_
    refine x_callSp G [] [xI sh2] hy_X6_isShard ht_X6_isShard ml_X6_86 rfl rfl (kX6_isShard _ _ sh2) (by decide) (by decide) (Nat.le_of_ble_eq_true rfl) dX6_shared_8 ?_
    refine x_if_ne G 16 (by decide) dX6_shared_11 (fun c11 => ?_) (fun c11 => ?_)
    · skip
      have c11 := b2i_ne0.mp c11
      refine x_aload_n G 0 rfl rfl dX6_shared_16 ?_
      refine x_get G (xR 162) xf6_4 lk_X6_37 (ly_n hY 0 (by decide)) (ly_k hY 0 (by decide)) (Or.inr ⟨rfl, _, (ly_r hY 0 4 (by decide) (by decide)), rfl⟩) dX6_shared_17 ?_
      refine x_aload_n G 0 rfl rfl dX6_shared_20 ?_
      refine x_get G (xR 1) xf6_0 lk_X6_10 (ly_n hY 0 (by decide)) (ly_k hY 0 (by decide)) (Or.inr ⟨rfl, _, (ly_r hY 0 0 (by decide) (by decide)), rfl⟩) dX6_shared_21 ?_
      refine x_iload_n G 1 rfl rfl dX6_shared_24 ?_
      refine x_callVV G [] [xR 1, xI sh] rfl (by decide) (sa_n (ly_sa162 hY) 0 (by decide)) (sa_k (ly_sa162 hY) 0 (by decide)) hy_X2_take hi_X2_take hs_X2_take ml_X6_150 rfl rfl (kX2_take _ _ 162 1 V sh (ly_sa162 hY) (ly_st1 hY) (by omega) hV hv (by omega) hs) (by decide) (by decide) (Nat.le_of_ble_eq_true rfl) dX6_shared_25 (fun M25 h25 => ?_)
      have hsm25 : Smp M25 162 V (smL V sh) := by
          have e9 := h25.1
          rw [tkL_eq hv hs (by omega)] at e9
          exact e9
      have hn25 := hsm25.1
      have hl25 : (smL V sh).length ≤ 100 := take_len (alL_len hv _ _ _ _)
      refine x_aload_n G 0 rfl rfl dX6_shared_28 ?_
      refine x_get G (xR 165) xf6_5 lk_X6_41 (ly_n hY 0 (by decide)) (ly_k hY 0 (by decide)) (Or.inr ⟨rfl, _, (ly_r hY 0 5 (by decide) (by decide)), rfl⟩) dX6_shared_29 ?_
      refine x_aload_n G 0 rfl rfl dX6_shared_32 ?_
      refine x_get G (xR 1) xf6_0 lk_X6_10 (ly_n hY 0 (by decide)) (ly_k hY 0 (by decide)) (Or.inr ⟨rfl, _, (ly_r hY 0 0 (by decide) (by decide)), rfl⟩) dX6_shared_33 ?_
      refine x_iload_n G 2 rfl rfl dX6_shared_36 ?_
      refine x_callVV G [] [xR 1, xI sh2] rfl (by decide) (sa_n (ly_sa165 hY) 0 (by decide)) (sa_k (ly_sa165 hY) 0 (by decide)) hy_X2_take hi_X2_take hs_X2_take ml_X6_150 rfl rfl (kX2_take _ _ 165 1 V sh2 (ly_sa165 hY) (ly_st1 hY) (by omega) (shw_xof hV h25.2.2 (by intro k9 h1 h2 h3; simp <;> omega)) hv (by omega) hs) (by decide) (by decide) (Nat.le_of_ble_eq_true rfl) dX6_shared_37 (fun M37 h37 => ?_)
      have hsm37 : Smp M37 165 V (smL V sh2) := by
          have e9 := h37.1
          rw [tkL_eq hv hs (by omega)] at e9
          exact e9
      have hn37 := hsm37.1
      have hl37 : (smL V sh2).length ≤ 100 := take_len (alL_len hv _ _ _ _)
      refine x_iconst G (by decide) dX6_shared_40 ?_
      refine x_istore_n G [(3, xI 0), (0, xR 0), (1, xI sh), (2, xI sh2)] rfl (by decide) rfl dX6_shared_41 ?_
      refine x_iconst G (by decide) dX6_shared_42 ?_
      refine x_istore G [(4, xI 0), (3, xI 0), (0, xR 0), (1, xI sh), (2, xI sh2)] (by decide) rfl dX6_shared_43 ?_
      have loop45 : ∀ (d : Nat) (k : Int) (r : Nat), (26 - k).toNat = d → (0 ≤ k ∧ k ≤ 26) → (r < 2 ^ 26) → (∀ j : Nat, r.testBit j = true ↔ ((j : Int) < k ∧ 0 < lb1 V (smL V sh) j ∧ 0 < lb1 V (smL V sh2) j)) → xX Γ 0 0 n T 45 [(0, xR 0), (1, xI sh), (2, xI sh2), (3, xI (r : Int)), (4, xI k)] [] M37 := by
        intro d
        induction d using Nat.strongRecOn with
        | ind d ih45 =>
        intro k r hd45 hk hr hbt
        refine x_iload G 4 rfl dX6_shared_45 ?_
        refine x_bipush G (by decide) dX6_shared_47 ?_
        refine x_icmp_ge G 91 (by decide) dX6_shared_49 (fun c49 => ?_) (fun c49 => ?_)
        · skip
          refine x_iload_n G 3 rfl rfl dX6_shared_91 ?_
          exact x_iret G Rt dX6_shared_92 ⟨rfl, rfl, _, rfl, ⟨Or.inl ⟨by omega, by omega, r, rfl, hr, fun j => by rw [hbt]; rw [show k = 26 by omega]; omega⟩, (xof_trans (xof_trans (xof_refl _ _) (xof_mono h25.2.2 (by decide))) (xof_mono h37.2.2 (by decide)))⟩⟩
        · skip
          have hlb1 := hsm25.2.2 k.toNat (by omega)
          have hlb2 := hsm37.2.2 k.toNat (by omega)
          refine x_aload_n G 0 rfl rfl dX6_shared_52 ?_
          refine x_get G (xR 162) xf6_4 lk_X6_37 (ly_n hY 0 (by decide)) (ly_k hY 0 (by decide)) (Or.inr ⟨rfl, _, (ly_r hY 0 4 (by decide) (by decide)), rfl⟩) dX6_shared_53 ?_
          refine x_get G (xR (162 + 2)) xf2_1 lk_X6_260 (sa_n (ly_sa162 hY) 0 (by decide)) (sa_k (ly_sa162 hY) 0 (by decide)) (Or.inr ⟨rfl, _, (sa_r (ly_sa162 hY) 0 1 (by decide) (by decide)), rfl⟩) dX6_shared_56 ?_
          refine x_iload G 4 rfl dX6_shared_59 ?_
          refine x_iald G (sa_n (ly_sa162 hY) 2 (by decide)) (sa_k (ly_sa162 hY) 2 (by decide)) (show _ = 26 from sa_l (ly_sa162 hY) 2 (by decide)) (by omega) (by omega) dX6_shared_61 ?_
          rw [show M37 (162 + 2) k.toNat = (M25 (162 + 2) k.toNat) from (congrFun (h37.2.2 (162 + 2) (by simp <;> omega)) k.toNat)]
          refine x_if_le G 85 (by decide) dX6_shared_62 (fun c62 => ?_) (fun c62 => ?_)
          · skip
            refine x_iinc G [(4, xI (k + 1)), (0, xR 0), (1, xI sh), (2, xI sh2), (3, xI (r : Int))] 4 rfl (by decide) (by omega) rfl dX6_shared_85 ?_
            refine x_goto G 45 (by decide) dX6_shared_88 ?_
            refine x_sub [(0, xR 0), (1, xI sh), (2, xI sh2), (3, xI (r : Int)), (4, xI (k + 1))] [1, 2, 3, 4, 0] rfl ?_
            exact ih45 _ (by omega) (k + 1) r rfl (by omega) (hr) (bit_keep hk.1 hbt (fun h => by rw [← hlb1, ← hlb2] at h; omega))
          · skip
            refine x_aload_n G 0 rfl rfl dX6_shared_65 ?_
            refine x_get G (xR 165) xf6_5 lk_X6_41 (ly_n hY 0 (by decide)) (ly_k hY 0 (by decide)) (Or.inr ⟨rfl, _, (ly_r hY 0 5 (by decide) (by decide)), rfl⟩) dX6_shared_66 ?_
            refine x_get G (xR (165 + 2)) xf2_1 lk_X6_260 (sa_n (ly_sa165 hY) 0 (by decide)) (sa_k (ly_sa165 hY) 0 (by decide)) (Or.inr ⟨rfl, _, (sa_r (ly_sa165 hY) 0 1 (by decide) (by decide)), rfl⟩) dX6_shared_69 ?_
            refine x_iload G 4 rfl dX6_shared_72 ?_
            refine x_iald G (sa_n (ly_sa165 hY) 2 (by decide)) (sa_k (ly_sa165 hY) 2 (by decide)) (show _ = 26 from sa_l (ly_sa165 hY) 2 (by decide)) (by omega) (by omega) dX6_shared_74 ?_
            refine x_if_le G 85 (by decide) dX6_shared_75 (fun c75 => ?_) (fun c75 => ?_)
            · skip
              refine x_iinc G [(4, xI (k + 1)), (0, xR 0), (1, xI sh), (2, xI sh2), (3, xI (r : Int))] 4 rfl (by decide) (by omega) rfl dX6_shared_85 ?_
              refine x_goto G 45 (by decide) dX6_shared_88 ?_
              refine x_sub [(0, xR 0), (1, xI sh), (2, xI sh2), (3, xI (r : Int)), (4, xI (k + 1))] [1, 2, 3, 4, 0] rfl ?_
              exact ih45 _ (by omega) (k + 1) r rfl (by omega) (hr) (bit_keep hk.1 hbt (fun h => by rw [← hlb1, ← hlb2] at h; omega))
            · skip
              refine x_iload_n G 3 rfl rfl dX6_shared_78 ?_
              refine x_iconst G (by decide) dX6_shared_79 ?_
              refine x_iload G 4 rfl dX6_shared_80 ?_
              refine x_ishl G (2 ^ k.toNat) (x_shl1 hk.1 (by omega)) (by have := ipow_mono (show (1 : Int) ≤ 2 by decide) (show k.toNat ≤ 25 by omega); have := ipow_pos (show (1 : Int) ≤ 2 by decide) k.toNat; omega) dX6_shared_82 ?_
              refine x_ior G ((r ||| 2 ^ k.toNat : Nat) : Int) ((x_or_pow hr (by omega)).1) (by have := (x_or_pow hr (show k.toNat < 26 by omega)).2; omega) dX6_shared_83 ?_
              refine x_istore_n G [(3, xI ((r ||| 2 ^ k.toNat : Nat) : Int)), (0, xR 0), (1, xI sh), (2, xI sh2), (4, xI k)] rfl (by decide) rfl dX6_shared_84 ?_
              refine x_iinc G [(4, xI (k + 1)), (3, xI ((r ||| 2 ^ k.toNat : Nat) : Int)), (0, xR 0), (1, xI sh), (2, xI sh2)] 4 rfl (by decide) (by omega) rfl dX6_shared_85 ?_
              refine x_goto G 45 (by decide) dX6_shared_88 ?_
              refine x_sub [(0, xR 0), (1, xI sh), (2, xI sh2), (3, xI ((r ||| 2 ^ k.toNat : Nat) : Int)), (4, xI (k + 1))] [2, 3, 4, 1, 0] rfl ?_
              exact ih45 _ (by omega) (k + 1) (r ||| 2 ^ k.toNat) rfl (by omega) ((x_or_pow hr (by omega)).2) (bit_more hk.1 hbt ⟨by rw [← hlb1]; omega, by rw [← hlb2]; omega⟩)
      refine x_sub [(0, xR 0), (1, xI sh), (2, xI sh2), (3, xI 0), (4, xI 0)] [2, 3, 4, 1, 0] rfl ?_
      exact loop45 _ 0 0 rfl (by omega) (by decide) (by intro j; simp; omega)
    · skip
      have c11 := b2i_eq0.mp c11
      refine x_iconst G (by decide) dX6_shared_14 ?_
      exact x_iret G Rt dX6_shared_15 ⟨rfl, rfl, _, rfl, ⟨Or.inr ⟨by omega, rfl⟩, (xof_refl _ _)⟩⟩
