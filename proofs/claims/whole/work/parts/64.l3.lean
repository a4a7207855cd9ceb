theorem and_63 (x : Int) : ∃ z : Int, (0 ≤ z ∧ z ≤ 63) ∧ Int32.ofInt x &&& Int32.ofInt 63 = Int32.ofInt z := by
  obtain ⟨j, hj, e⟩ := pk_andE (Int32.ofInt x) (m := Int32.ofInt 63) 6 (by decide)
  have hj : j < 64 := hj
  refine ⟨(j : Int), ⟨by omega, by omega⟩, ?_⟩
  rw [e]
  apply Int32.toInt_inj.mp
  rw [x_toInt ⟨by omega, by omega⟩]
  exact nI_toInt (by omega)
set_option maxRecDepth 100000 in
set_option maxHeartbeats 4000000 in
theorem law_loop {Γ : xΓ} (G : xGL Γ) {L9 : Nat} {f : Nat → Int} (hS : xScr Γ L9 f) {T : xT} (hY : LayOK 208 T) (hE : ∀ (n : Nat) (T : xT) (L : List (Nat × xV)) (M : xM), xX Γ 600000 7302250 n T 2089 L [xI 1] M) : ∀ (d : Nat) (i : Int) (M : xM), ((L9 : Int) - i).toNat = d → (0 ≤ i ∧ i ≤ L9) → Both M → xXL Γ T 18 i [] M := by
  have h5 : L9 ≤ 3072 := hS.2.2.2.2
  intro d
  induction d using Nat.strongRecOn with
  | ind d ih =>
  intro i M hd hi0 hI
  refine x_iload_n G 0 rfl rfl dL_law_18 ?_
  refine x_aload_n G 3 rfl rfl dL_law_19 ?_
  refine x_slen G hS dL_law_20 ?_
  refine x_bipush G (by decide) dL_law_21 ?_
  refine x_isub G (by omega) dL_law_23 ?_
  refine x_icmp_gt G 2088 (by decide) dL_law_24 (fun _ => ?_) (fun c => ?_)
  · refine x_iconst G (by decide) dL_law_2088 ?_
    exact hE _ _ _ _
  have hi : 0 ≤ i ∧ i + 5 < L9 := ⟨hi0.1, by omega⟩
  have back : ∀ M2, Both M2 → xXL Γ T 2082 i [] M2 := fun M2 h2 => by
    refine x_iinc G (Ls (i + 6)) 0 rfl (by decide) (by omega) rfl dL_law_2082 ?_
    refine x_goto G 18 (by decide) dL_law_2085 ?_
    exact ih _ (by omega) (i + 6) M2 rfl ⟨by omega, by omega⟩ h2
  refine x_aload_n G 3 rfl rfl dL_law_27 ?_
  refine x_iload_n G 0 rfl rfl dL_law_28 ?_
  refine x_sld G hS (by omega) (by omega) dL_law_29 ?_
  refine x_bipush G (by decide) dL_law_30 ?_
  obtain ⟨z, hz, ez⟩ := and_63 (f i.toNat)
  refine x_iand G z ez ⟨by omega, by omega⟩ dL_law_32 ?_
  by_cases k0 : z = 0
  · refine x_tabIn G 284 (by omega) (by omega) (by rw [k0]; rfl) (by decide) dL_law_33 ?_
    exact law_0 G hS hY hi hI back
  by_cases k1 : z = 1
  · refine x_tabIn G 347 (by omega) (by omega) (by rw [k1]; rfl) (by decide) dL_law_33 ?_
    exact law_1 G hS hY hi hI back
  by_cases k2 : z = 2
  · refine x_tabIn G 370 (by omega) (by omega) (by rw [k2]; rfl) (by decide) dL_law_33 ?_
    exact law_2 G hS hY hi hI back
  by_cases k3 : z = 3
  · refine x_tabIn G 383 (by omega) (by omega) (by rw [k3]; rfl) (by decide) dL_law_33 ?_
    exact law_3 G hS hY hi hI back
  by_cases k4 : z = 4
  · refine x_tabIn G 426 (by omega) (by omega) (by rw [k4]; rfl) (by decide) dL_law_33 ?_
    exact law_4 G hS hY hi hI back
  by_cases k5 : z = 5
  · refine x_tabIn G 479 (by omega) (by omega) (by rw [k5]; rfl) (by decide) dL_law_33 ?_
    exact law_5 G hS hY hi hI back
  by_cases k6 : z = 6
  · refine x_tabIn G 502 (by omega) (by omega) (by rw [k6]; rfl) (by decide) dL_law_33 ?_
    exact law_6 G hS hY hi hI back
  by_cases k7 : z = 7
  · refine x_tabIn G 535 (by omega) (by omega) (by rw [k7]; rfl) (by decide) dL_law_33 ?_
    exact law_7 G hS hY hi hI back
  by_cases k8 : z = 8
  · refine x_tabIn G 568 (by omega) (by omega) (by rw [k8]; rfl) (by decide) dL_law_33 ?_
    exact law_8 G hS hY hi hI back
  by_cases k9 : z = 9
  · refine x_tabIn G 601 (by omega) (by omega) (by rw [k9]; rfl) (by decide) dL_law_33 ?_
    exact law_9 G hS hY hi hI back
  by_cases k10 : z = 10
  · refine x_tabIn G 624 (by omega) (by omega) (by rw [k10]; rfl) (by decide) dL_law_33 ?_
    exact law_10 G hS hY hi hI back
  by_cases k11 : z = 11
  · refine x_tabIn G 647 (by omega) (by omega) (by rw [k11]; rfl) (by decide) dL_law_33 ?_
    exact law_11 G hS hY hi hI back
  by_cases k12 : z = 12
  · refine x_tabIn G 680 (by omega) (by omega) (by rw [k12]; rfl) (by decide) dL_law_33 ?_
    exact law_12 G hS hY hi hI back
  by_cases k13 : z = 13
  · refine x_tabIn G 713 (by omega) (by omega) (by rw [k13]; rfl) (by decide) dL_law_33 ?_
    exact law_13 G hS hY hi hI back
  by_cases k14 : z = 14
  · refine x_tabIn G 746 (by omega) (by omega) (by rw [k14]; rfl) (by decide) dL_law_33 ?_
    exact law_14 G hS hY hi hI back
  by_cases k15 : z = 15
  · refine x_tabIn G 769 (by omega) (by omega) (by rw [k15]; rfl) (by decide) dL_law_33 ?_
    exact law_15 G hS hY hi hI back
  by_cases k16 : z = 16
  · refine x_tabIn G 802 (by omega) (by omega) (by rw [k16]; rfl) (by decide) dL_law_33 ?_
    exact law_16 G hS hY hi hI back
  by_cases k17 : z = 17
  · refine x_tabIn G 835 (by omega) (by omega) (by rw [k17]; rfl) (by decide) dL_law_33 ?_
    exact law_17 G hS hY hi hI back
  by_cases k18 : z = 18
  · refine x_tabIn G 878 (by omega) (by omega) (by rw [k18]; rfl) (by decide) dL_law_33 ?_
    exact law_18 G hS hY hi hI back
  by_cases k19 : z = 19
  · refine x_tabIn G 891 (by omega) (by omega) (by rw [k19]; rfl) (by decide) dL_law_33 ?_
    exact law_19 G hS hY hi hI back
  by_cases k20 : z = 20
  · refine x_tabIn G 914 (by omega) (by omega) (by rw [k20]; rfl) (by decide) dL_law_33 ?_
    exact law_20 G hS hY hi hI back
  by_cases k21 : z = 21
  · refine x_tabIn G 927 (by omega) (by omega) (by rw [k21]; rfl) (by decide) dL_law_33 ?_
    exact law_21 G hS hY hi hI back
  by_cases k22 : z = 22
  · refine x_tabIn G 950 (by omega) (by omega) (by rw [k22]; rfl) (by decide) dL_law_33 ?_
    exact law_22 G hS hY hi hI back
  by_cases k23 : z = 23
  · refine x_tabIn G 973 (by omega) (by omega) (by rw [k23]; rfl) (by decide) dL_law_33 ?_
    exact law_23 G hS hY hi hI back
  by_cases k24 : z = 24
  · refine x_tabIn G 1006 (by omega) (by omega) (by rw [k24]; rfl) (by decide) dL_law_33 ?_
    exact law_24 G hS hY hi hI back
  by_cases k25 : z = 25
  · refine x_tabIn G 1039 (by omega) (by omega) (by rw [k25]; rfl) (by decide) dL_law_33 ?_
    exact law_25 G hS hY hi hI back
  by_cases k26 : z = 26
  · refine x_tabIn G 1072 (by omega) (by omega) (by rw [k26]; rfl) (by decide) dL_law_33 ?_
    exact law_26 G hS hY hi hI back
  by_cases k27 : z = 27
  · refine x_tabIn G 1105 (by omega) (by omega) (by rw [k27]; rfl) (by decide) dL_law_33 ?_
    exact law_27 G hS hY hi hI back
  by_cases k28 : z = 28
  · refine x_tabIn G 1148 (by omega) (by omega) (by rw [k28]; rfl) (by decide) dL_law_33 ?_
    exact law_28 G hS hY hi hI back
  by_cases k29 : z = 29
  · refine x_tabIn G 1191 (by omega) (by omega) (by rw [k29]; rfl) (by decide) dL_law_33 ?_
    exact law_29 G hS hY hi hI back
  by_cases k30 : z = 30
  · refine x_tabIn G 1234 (by omega) (by omega) (by rw [k30]; rfl) (by decide) dL_law_33 ?_
    exact law_30 G hS hY hi hI back
  by_cases k31 : z = 31
  · refine x_tabIn G 1257 (by omega) (by omega) (by rw [k31]; rfl) (by decide) dL_law_33 ?_
    exact law_31 G hS hY hi hI back
  by_cases k32 : z = 32
  · refine x_tabIn G 1290 (by omega) (by omega) (by rw [k32]; rfl) (by decide) dL_law_33 ?_
    exact law_32 G hS hY hi hI back
  by_cases k33 : z = 33
  · refine x_tabIn G 1323 (by omega) (by omega) (by rw [k33]; rfl) (by decide) dL_law_33 ?_
    exact law_33 G hS hY hi hI back
  by_cases k34 : z = 34
  · refine x_tabIn G 1356 (by omega) (by omega) (by rw [k34]; rfl) (by decide) dL_law_33 ?_
    exact law_34 G hS hY hi hI back
  by_cases k35 : z = 35
  · refine x_tabIn G 1389 (by omega) (by omega) (by rw [k35]; rfl) (by decide) dL_law_33 ?_
    exact law_35 G hS hY hi hI back
  by_cases k36 : z = 36
  · refine x_tabIn G 1412 (by omega) (by omega) (by rw [k36]; rfl) (by decide) dL_law_33 ?_
    exact law_36 G hS hY hi hI back
  by_cases k37 : z = 37
  · refine x_tabIn G 1445 (by omega) (by omega) (by rw [k37]; rfl) (by decide) dL_law_33 ?_
    exact law_37 G hS hY hi hI back
  by_cases k38 : z = 38
  · refine x_tabIn G 1478 (by omega) (by omega) (by rw [k38]; rfl) (by decide) dL_law_33 ?_
    exact law_38 G hS hY hi hI back
  by_cases k39 : z = 39
  · refine x_tabIn G 1511 (by omega) (by omega) (by rw [k39]; rfl) (by decide) dL_law_33 ?_
    exact law_39 G hS hY hi hI back
  by_cases k40 : z = 40
  · refine x_tabIn G 1544 (by omega) (by omega) (by rw [k40]; rfl) (by decide) dL_law_33 ?_
    exact law_40 G hS hY hi hI back
  by_cases k41 : z = 41
  · refine x_tabIn G 1577 (by omega) (by omega) (by rw [k41]; rfl) (by decide) dL_law_33 ?_
    exact law_41 G hS hY hi hI back
  by_cases k42 : z = 42
  · refine x_tabIn G 1610 (by omega) (by omega) (by rw [k42]; rfl) (by decide) dL_law_33 ?_
    exact law_42 G hS hY hi hI back
  by_cases k43 : z = 43
  · refine x_tabIn G 1633 (by omega) (by omega) (by rw [k43]; rfl) (by decide) dL_law_33 ?_
    exact law_43 G hS hY hi hI back
  by_cases k44 : z = 44
  · refine x_tabIn G 1656 (by omega) (by omega) (by rw [k44]; rfl) (by decide) dL_law_33 ?_
    exact law_44 G hS hY hi hI back
  by_cases k45 : z = 45
  · refine x_tabIn G 1679 (by omega) (by omega) (by rw [k45]; rfl) (by decide) dL_law_33 ?_
    exact law_45 G hS hY hi hI back
  by_cases k46 : z = 46
  · refine x_tabIn G 1722 (by omega) (by omega) (by rw [k46]; rfl) (by decide) dL_law_33 ?_
    exact law_46 G hS hY hi hI back
  by_cases k47 : z = 47
  · refine x_tabIn G 1745 (by omega) (by omega) (by rw [k47]; rfl) (by decide) dL_law_33 ?_
    exact law_47 G hS hY hi hI back
  by_cases k48 : z = 48
  · refine x_tabIn G 1768 (by omega) (by omega) (by rw [k48]; rfl) (by decide) dL_law_33 ?_
    exact law_48 G hS hY hi hI back
  by_cases k49 : z = 49
  · refine x_tabIn G 1801 (by omega) (by omega) (by rw [k49]; rfl) (by decide) dL_law_33 ?_
    exact law_49 G hS hY hi hI back
  by_cases k50 : z = 50
  · refine x_tabIn G 1834 (by omega) (by omega) (by rw [k50]; rfl) (by decide) dL_law_33 ?_
    exact law_50 G hS hY hi hI back
  by_cases k51 : z = 51
  · refine x_tabIn G 1857 (by omega) (by omega) (by rw [k51]; rfl) (by decide) dL_law_33 ?_
    exact law_51 G hS hY hi hI back
  by_cases k52 : z = 52
  · refine x_tabIn G 1900 (by omega) (by omega) (by rw [k52]; rfl) (by decide) dL_law_33 ?_
    exact law_52 G hS hY hi hI back
  by_cases k53 : z = 53
  · refine x_tabIn G 1933 (by omega) (by omega) (by rw [k53]; rfl) (by decide) dL_law_33 ?_
    exact law_53 G hS hY hi hI back
  by_cases k54 : z = 54
  · refine x_tabIn G 1956 (by omega) (by omega) (by rw [k54]; rfl) (by decide) dL_law_33 ?_
    exact law_54 G hS hY hi hI back
  by_cases k55 : z = 55
  · refine x_tabIn G 1989 (by omega) (by omega) (by rw [k55]; rfl) (by decide) dL_law_33 ?_
    exact law_55 G hS hY hi hI back
  by_cases k56 : z = 56
  · refine x_tabIn G 2022 (by omega) (by omega) (by rw [k56]; rfl) (by decide) dL_law_33 ?_
    exact law_56 G hS hY hi hI back
  by_cases k57 : z = 57
  · refine x_tabIn G 2045 (by omega) (by omega) (by rw [k57]; rfl) (by decide) dL_law_33 ?_
    exact law_57 G hS hY hi hI back
  by_cases k58 : z = 58
  · refine x_tabIn G 2059 (by omega) (by omega) (by rw [k58]; rfl) (by decide) dL_law_33 ?_
    exact law_58 G hS hY hi hI back
  refine x_tabOut G 2082 (by omega) (by decide) dL_law_33 ?_
  exact back M hI
theorem v0_bit : ∀ s, s < 2 → (0 : Int) = b2i (bit 0 (s : Nat)) ∧ ¬ bit 0 (s : Nat) := by decide
theorem both_0 {M : xM} (h1 : zer (vw M 1)) (h2 : M 14 1 = 0) (h3 : M 14 2 = 0) (h4 : M 146 2 = 0) (h5 : M 0 7 = 0) (h6 : ∀ V0, zer V0 → mrel (M 196) V0) (h7 : M 195 2 = 0) (h8 : M 195 18 = 0) (h9 : M 195 10 = 0) (h10 : ∀ j, M 199 j = 0) : Both M := by
  have e : (vw M 1) 0 10 = 0 := h1.1.1
  refine ⟨vw M 1, [], fun _ => v0, 0, fun _ => -1, 0, ⟨⟨zer_ok h1, ?_⟩, shw_self M 1, ⟨⟨by omega, by omega⟩, h3, by decide, fun j hj => absurd hj (Nat.not_lt_zero _)⟩, fun W hW => absurd hW List.not_mem_nil⟩, ⟨h6 _ h1, Or.inl h9, mh_nil h7⟩, ⟨h5, by decide, fun s hs => ⟨(h10 s).trans (v0_bit s hs).1, fun hb => absurd hb (v0_bit s hs).2⟩⟩, tap_0 h4 h8⟩
  rw [e]
  exact ⟨fun p hp => absurd hp (Nat.not_lt_zero _), fun p q _ hq => absurd hq (Nat.not_lt_zero _)⟩
set_option maxRecDepth 100000 in
set_option maxHeartbeats 4000000 in
theorem law_body {Γ : xΓ} (G : xGL Γ) {L9 : Nat} {f : Nat → Int} (hS : xScr Γ L9 f) (hE : ∀ (n : Nat) (T : xT) (L : List (Nat × xV)) (M : xM), xX Γ 600000 7302250 n T 2089 L [xI 1] M) : xX Γ 0 0 0 xT0 0 [(0, xR 3000000)] [] (fun _ _ => 0) := by
  refine x_new G xcd6 cl_L_7 (by omega) (by decide) dL_law_0 ?_
  refine x_dup G rfl dL_law_3 ?_
  refine x_callIK G [xR 0] hy_X6_init hi_X6_init rfl rfl ml_L_9 (kX6_init _ _ ⟨rfl, rfl⟩) (by decide) (by decide) (Nat.le_of_ble_eq_true rfl) dL_law_4 (fun M1 h1 => ?_)
  refine x_astore_n G [(1, xR 0), (0, xR 3000000)] rfl (by decide) rfl dL_law_7 ?_
  refine x_new G xcd7 cl_L_10 (by omega) (by decide) dL_law_8 ?_
  refine x_dup G rfl dL_law_11 ?_
  refine x_callIK G [xR 195] hy_X7_init hi_X7_init rfl rfl ml_L_12 (kX7_init _ _ ⟨rfl, rfl⟩ (fun j => by rw [xsr_self])) (by decide) (by decide) (Nat.le_of_ble_eq_true rfl) dL_law_12 (fun M2 h2 => ?_)
  refine x_astore_n G [(2, xR 195), (1, xR 0), (0, xR 3000000)] rfl (by decide) rfl dL_law_15 ?_
  refine x_iconst G (by decide) dL_law_16 ?_
  refine x_istore_n G [(3, xI 0), (2, xR 195), (1, xR 0), (0, xR 3000000)] rfl (by decide) rfl dL_law_17 ?_
  refine x_widen (Nat.le_of_ble_eq_true rfl) (Nat.le_of_ble_eq_true rfl) (?_ : xX Γ 600000 7302250 _ _ _ _ _ _)
  obtain ⟨a1, a2, a3, a4, a5, a6, a7⟩ := h1
  obtain ⟨b1, b2, b3, b4, b5, b6⟩ := h2
  have e : ∀ k, k < 195 → M2 k = M1 k := fun k hk => (b6 k hk).trans (xsr_ne (by omega))
  exact law_loop G hS tAll_ok hE _ 0 M2 rfl ⟨by decide, by omega⟩ (both_0 (zer_eq a1 (fun k _ h => e k (by omega))) (by rw [e 14 (by decide)]; exact a2) (by rw [e 14 (by decide)]; exact a3) (by rw [e 146 (by decide)]; exact a4) (by rw [e 0 (by decide)]; exact a7) b1 b2 b3 b4 b5)
