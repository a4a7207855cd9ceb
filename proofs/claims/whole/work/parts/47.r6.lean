theorem ft_same {p : Nat → Bool} : ∀ {A : List Nat} {m : Nat}, (∀ x ∈ A.take m, p x = true) → (A.filter p).take m = A.take m := by
  intro A
  induction A with
  | nil => intro m _; rfl
  | cons x A ih =>
    intro m h
    cases m with
    | zero => rfl
    | succ m =>
      rw [List.filter_cons_of_pos (h x (by rw [List.take_succ_cons]; exact List.mem_cons_self)), List.take_succ_cons, List.take_succ_cons, ih (fun y hy => h y (by rw [List.take_succ_cons]; exact List.mem_cons_of_mem _ hy))]
theorem al_later {V : xM} {sh t : Int} (ht : 0 ≤ t) (hw : ¬ V 12 sh.toNat = 0) : alL V sh (V 0 11 + t) (V 12 sh.toNat) (V 0 10) = (alN V sh).filter fun j : Nat => decide (V 0 11 + t - V 12 sh.toNat < V 8 j) := by
  unfold alN alL
  rw [List.filter_filter]
  apply List.filter_congr
  intro j _
  rw [← Bool.decide_and]
  apply decide_eq_decide.mpr
  constructor
  · rintro ⟨g1, g2, g3, g4⟩
    exact ⟨by omega, g1, g2, g3, Or.inr (by omega)⟩
  · rintro ⟨g0, g1, g2, g3, g4⟩
    exact ⟨g1, g2, g3, Or.inr g0⟩
theorem sm_same {V : xM} {sh t : Int} (ht : 0 ≤ t) (hw : ¬ V 12 sh.toNat = 0) (h : ∀ j ∈ smL V sh, t < V 8 j + V 12 sh.toNat - V 0 11) : ltL V sh t = smL V sh := by
  unfold ltL
  rw [al_later ht hw, ft_same (A := alN V sh) (fun x hx => decide_eq_true (by have := h x hx; omega))]
  rfl
theorem sm_out {V : xM} {sh t : Int} (ht : 0 ≤ t) (hw : ¬ V 12 sh.toNat = 0) (h : ¬ ltL V sh t = smL V sh) : ∃ j, j ∈ smL V sh ∧ V 8 j + V 12 sh.toNat - V 0 11 ≤ t := by
  by_cases g : ∃ j, j ∈ smL V sh ∧ V 8 j + V 12 sh.toNat - V 0 11 ≤ t
  · exact g
  · exact absurd (sm_same ht hw (fun j hj => by
      rcases Int.lt_or_le t (V 8 j + V 12 sh.toNat - V 0 11) with c | c
      · exact c
      · exact absurd ⟨j, hj, c⟩ g)) h
theorem sm_in {V : xM} {sh t : Int} (hw : ¬ V 12 sh.toNat = 0) (h : ltL V sh t = smL V sh) : ∀ j ∈ smL V sh, t < V 8 j + V 12 sh.toNat - V 0 11 := fun j hj => by
  rw [← h] at hj
  have g := (alL_mem.mp (List.mem_of_mem_take hj)).2.2.2.2.resolve_left hw
  omega
theorem sm_now {V : xM} {sh : Int} (hw : ¬ V 12 sh.toNat = 0) : ∀ j ∈ smL V sh, 0 < V 8 j + V 12 sh.toNat - V 0 11 := fun j hj => by
  have g := (alL_mem.mp (List.mem_of_mem_take hj)).2.2.2.2.resolve_left hw
  omega
theorem sm_12 {V : xM} (hv : VOK V) {sh : Int} (h : okS sh) : (smL V sh).length ≤ 12 := by
  have hw := ok_s hv h.1 h.2
  unfold smL
  rw [List.length_take]
  omega
abbrev Sav (M : xM) (S : List Nat) (k : Int) : Prop := ∀ j : Nat, (j : Int) < k → M 204 j = ((S.getD j 0 : Nat) : Int)
theorem sav_st {M : xM} {S : List Nat} {k : Int} (h : Sav M S k) (hk : 0 ≤ k) : Sav (xst M 204 k.toNat ((S.getD k.toNat 0 : Nat) : Int)) S (k + 1) := by
  intro j hj
  by_cases e : j = k.toNat
  · rw [e, xst_same]
  · rw [xst_nq (Or.inr e)]; exact h j (by omega)
set_option maxRecDepth 100000 in
set_option maxHeartbeats 4000000 in
theorem kX7_changes (D : xD) (l : Launch) {n : Nat} {T : xT} {M : xM} (V : xM) (sh : Int) (hY : LayOK n T) (hN : mrel (M 196) V) (hv : VOK V) (hs : Srt V (V 10) (V 0 10).toNat) (hR : Rk M V) : xC D l uX7_changes 9 212 0 0 [xR 195, xI sh] n T M (xPI n T (fun z M2 => (qChanges V sh z) ∧ mfr M M2 ∧ Rk M2 V)) := by
  refine x_met uX7_changes (by decide) (Nat.le_of_ble_eq_true rfl) ?_
  intro Γ G Rt _
  have G : xG Γ RX7 cX7_changes 7 9 212 0 0 := G
  have Rt : xRt Γ (xPI n T (fun z M2 => (qChanges V sh z) ∧ mfr M M2 ∧ Rk M2 V)) (some .int) 0 0 := Rt
  show xX Γ 0 0 n T 0 [(0, xR 195), (1, xI sh)] [] M
  have hc := ok_c hv
  have hsc := hv.1
  refine x_iload_n G 1 rfl rfl dX7_changes_0 ?_
  refine x_callSp G [] [xI sh] hy_X7_isShard ht_X7_isShard ml_X7_143 rfl rfl (kX7_isShard _ _ sh) (by decide) (by decide) (Nat.le_of_ble_eq_true rfl) dX7_changes_1 ?_
  refine x_if_ne G 9 (by decide) dX7_changes_4 (fun c4 => ?_) (fun c4 => ?_)
  · skip
    have c4 := b2i_ne0.mp c4
    have hsw := ok_s hv (s := sh) (by omega) (by omega)
    have hs12 := sm_12 hv (sh := sh) (by omega)
    refine x_aload_n G 0 rfl rfl dX7_changes_9 ?_
    refine x_get G (xR 196) xf7_0 lk_X7_7 (ly_n hY 195 (by decide)) (ly_k hY 195 (by decide)) (Or.inr ⟨rfl, _, (ly_r hY 195 0 (by decide) (by decide)), rfl⟩) dX7_changes_10 ?_
    refine x_bipush G (by decide) dX7_changes_13 ?_
    refine x_iload_n G 1 rfl rfl dX7_changes_15 ?_
    refine x_iadd G (by omega) dX7_changes_16 ?_
    refine x_iald G (ly_n hY 196 (by decide)) (ly_k hY 196 (by decide)) (show _ = 511 from ly_l hY 196 (by decide)) (by omega) (by omega) dX7_changes_17 ?_
    rw [show M 196 (7 + sh).toNat = (V 12 sh.toNat) from (mr_wd hN (by omega))]
    refine x_istore_n G [(2, xI (V 12 sh.toNat)), (0, xR 195), (1, xI sh)] rfl (by decide) rfl dX7_changes_18 ?_
    refine x_iload_n G 0 rfl rfl dX7_changes_19 ?_
    refine x_if_ne G 26 (by decide) dX7_changes_20 (fun c20 => ?_) (fun c20 => ?_)
    · skip
      refine x_aload_n G 1 rfl rfl dX7_changes_26 ?_
      refine x_iload_n G 2 rfl rfl dX7_changes_27 ?_
      refine x_callVV G [] [xI sh] rfl (by decide) (ly_n hY 195 (by decide)) (ly_k hY 195 (by decide)) hy_X7_laysSample hi_X7_laysSample hs_X7_laysSample ml_X7_137 rfl rfl (kX7_laysSample _ _ V sh hY hN hv hs hR (by omega)) (by decide) (by decide) (Nat.le_of_ble_eq_true rfl) dX7_changes_28 (fun M28 h28 => ?_)
      have hn28 := h28.1.1
      have hl28 : (smL V sh).length ≤ 100 := take_len (alL_len hv _ _ _ _)
      refine x_aload_n G 1 rfl rfl dX7_changes_31 ?_
      refine x_get G (xI (M28 195 8)) xf7_8 lk_X7_103 (ly_n hY 195 (by decide)) (ly_k hY 195 (by decide)) (Or.inl ⟨rfl, rfl⟩) dX7_changes_32 ?_
      rw [show M28 195 8 = ((smL V sh).length : Int) from h28.1.1]
      refine x_istore_n G [(3, xI ((smL V sh).length : Int)), (2, xI (V 12 sh.toNat)), (0, xR 195), (1, xI sh)] rfl (by decide) rfl dX7_changes_35 ?_
      refine x_iconst G (by decide) dX7_changes_36 ?_
      refine x_istore G [(4, xI 0), (3, xI ((smL V sh).length : Int)), (2, xI (V 12 sh.toNat)), (0, xR 195), (1, xI sh)] (by decide) rfl dX7_changes_37 ?_
      have loop39 : ∀ (d : Nat) (k : Int) (N1 : xM), ((smL V sh).length - k).toNat = d → (0 ≤ k ∧ k ≤ (smL V sh).length) → (mfr M N1) → (Rk N1 V) → (Rw N1 (smL V sh)) → (Sav N1 (smL V sh) k) → xX Γ 0 0 n T 39 [(0, xR 195), (1, xI sh), (2, xI (V 12 sh.toNat)), (3, xI ((smL V sh).length : Int)), (4, xI k)] [] N1 := by
        intro d
        induction d using Nat.strongRecOn with
        | ind d ih39 =>
        intro k N1 hd39 hk hf1 hR1 hw1 hsv
        skip
        refine x_iload G 4 rfl dX7_changes_39 ?_
        refine x_iload_n G 3 rfl rfl dX7_changes_41 ?_
        refine x_icmp_ge G 65 (by decide) dX7_changes_42 (fun c42 => ?_) (fun c42 => ?_)
        · skip
          refine x_aload_n G 0 rfl rfl dX7_changes_65 ?_
          refine x_iload_n G 1 rfl rfl dX7_changes_66 ?_
          refine x_iconst G (by decide) dX7_changes_67 ?_
          refine x_callVI G [] [xI sh, xI 0] rfl (by decide) (ly_n hY 195 (by decide)) (ly_k hY 195 (by decide)) hy_X7_nextDeath hi_X7_nextDeath hs_X7_nextDeath ml_X7_183 rfl rfl (kX7_nextDeath _ _ V sh 0 hY (mr_cg hN (hf1.1 196 (by omega))) hv (by omega) (by omega)) (by decide) (by decide) (Nat.le_of_ble_eq_true rfl) dX7_changes_68 (fun z68 M68 h68 => ?_)
          obtain ⟨hq68, hm68⟩ := h68
          have hm68 := hm68.symm
          subst hm68
          refine x_istore G [(4, xI z68), (0, xR 195), (1, xI sh), (2, xI (V 12 sh.toNat)), (3, xI ((smL V sh).length : Int))] (by decide) rfl dX7_changes_71 ?_
          have loop73 : ∀ (d : Nat) (t : Int) (N2 : xM), (2000000 - t).toNat = d → (0 < t ∧ t ≤ 1000000) → (mfr M N2) → (Rk N2 V) → (Sav N2 (smL V sh) (smL V sh).length) → (∀ j ∈ smL V sh, t ≤ V 8 j + V 12 sh.toNat - V 0 11) → xX Γ 0 0 n T 73 [(0, xR 195), (1, xI sh), (2, xI (V 12 sh.toNat)), (3, xI ((smL V sh).length : Int)), (4, xI t)] [] N2 := by
            intro d
            induction d using Nat.strongRecOn with
            | ind d ih73 =>
            intro t N2 hd73 ht hf1 hR1 hsv2 htd
            skip
            refine x_iload G 4 rfl dX7_changes_73 ?_
            refine x_ldc G (z := 1000000) (by decide) kc_X7_186 dX7_changes_75 ?_
            refine x_icmp_ge G 195 (by decide) dX7_changes_77 (fun c77 => ?_) (fun c77 => ?_)
            · skip
              refine x_bipush G (by decide) dX7_changes_195 ?_
              exact x_iret G Rt dX7_changes_197 ⟨rfl, rfl, _, rfl, ⟨Or.inr (Or.inl ⟨by omega, Or.inr (by rcases Nat.eq_zero_or_pos (smL V sh).length with g | g; exact g; have g2 := getD_in (L := smL V sh) (j := 0) g; have g3 := htd _ g2; have g4 := hv.2.2.1 _ (sm_it hs g2); omega), rfl⟩), hf1, hR1⟩⟩
            · skip
              refine x_aload_n G 0 rfl rfl dX7_changes_80 ?_
              refine x_iload_n G 1 rfl rfl dX7_changes_81 ?_
              refine x_aload_n G 0 rfl rfl dX7_changes_82 ?_
              refine x_get G (xR 196) xf7_0 lk_X7_7 (ly_n hY 195 (by decide)) (ly_k hY 195 (by decide)) (Or.inr ⟨rfl, _, (ly_r hY 195 0 (by decide) (by decide)), rfl⟩) dX7_changes_83 ?_
              refine x_iconst G (by decide) dX7_changes_86 ?_
              refine x_iald G (ly_n hY 196 (by decide)) (ly_k hY 196 (by decide)) (show _ = 511 from ly_l hY 196 (by decide)) (by omega) (by omega) dX7_changes_87 ?_
              show xX Γ 0 0 n T 88 [(0, xR 195), (1, xI sh), (2, xI (V 12 sh.toNat)), (3, xI ((smL V sh).length : Int)), (4, xI t)] [xI (N2 196 0), xI sh, xR 195] N2
              rw [show N2 196 0 = (V 0 11) from (mr_cg hN (hf1.1 196 (by omega))).1.1]
              refine x_iload G 4 rfl dX7_changes_88 ?_
              refine x_iadd G (by omega) dX7_changes_90 ?_
              refine x_iload_n G 2 rfl rfl dX7_changes_91 ?_
              refine x_aload_n G 0 rfl rfl dX7_changes_92 ?_
              refine x_get G (xR 196) xf7_0 lk_X7_7 (ly_n hY 195 (by decide)) (ly_k hY 195 (by decide)) (Or.inr ⟨rfl, _, (ly_r hY 195 0 (by decide) (by decide)), rfl⟩) dX7_changes_93 ?_
              refine x_iconst G (by decide) dX7_changes_96 ?_
              refine x_iald G (ly_n hY 196 (by decide)) (ly_k hY 196 (by decide)) (show _ = 511 from ly_l hY 196 (by decide)) (by omega) (by omega) dX7_changes_97 ?_
              show xX Γ 0 0 n T 98 [(0, xR 195), (1, xI sh), (2, xI (V 12 sh.toNat)), (3, xI ((smL V sh).length : Int)), (4, xI t)] [xI (N2 196 2), xI (V 12 sh.toNat), xI ((V 0 11) + t), xI sh, xR 195] N2
              rw [show N2 196 2 = (V 0 10) from (mr_cg hN (hf1.1 196 (by omega))).1.2.2]
              refine x_callVV G [] [xI sh, xI ((V 0 11) + t), xI (V 12 sh.toNat), xI (V 0 10)] rfl (by decide) (ly_n hY 195 (by decide)) (ly_k hY 195 (by decide)) hy_X7_lays hi_X7_lays hs_X7_lays ml_X7_124 rfl rfl (kX7_lays _ _ V sh ((V 0 11) + t) (V 12 sh.toNat) (V 0 10) hY (mr_cg hN (hf1.1 196 (by omega))) hv hs hR1 (by omega) (by omega) (by omega)) (by decide) (by decide) (Nat.le_of_ble_eq_true rfl) dX7_changes_98 (fun M98 h98 => ?_)
              have hn98 := h98.1.1
              have hl98 : (alL V sh ((V 0 11) + t) (V 12 sh.toNat) (V 0 10)).length ≤ 100 := alL_len hv _ _ _ _
              refine x_aload_n G 0 rfl rfl dX7_changes_101 ?_
              refine x_aload_n G 0 rfl rfl dX7_changes_102 ?_
              refine x_get G (xR 196) xf7_0 lk_X7_7 (ly_n hY 195 (by decide)) (ly_k hY 195 (by decide)) (Or.inr ⟨rfl, _, (ly_r hY 195 0 (by decide) (by decide)), rfl⟩) dX7_changes_103 ?_
              refine x_iconst G (by decide) dX7_changes_106 ?_
              refine x_iload_n G 1 rfl rfl dX7_changes_107 ?_
              refine x_iadd G (by omega) dX7_changes_108 ?_
              refine x_iald G (ly_n hY 196 (by decide)) (ly_k hY 196 (by decide)) (show _ = 511 from ly_l hY 196 (by decide)) (by omega) (by omega) dX7_changes_109 ?_
              rw [show M98 196 (3 + sh).toNat = (V 11 sh.toNat) from (mr_sz (mr_cg (mr_cg hN (hf1.1 196 (by omega))) (h98.2.1.1 196 (by omega))) (by omega))]
              refine x_callVV G [] [xI (V 11 sh.toNat)] rfl (by decide) (ly_n hY 195 (by decide)) (ly_k hY 195 (by decide)) hy_X7_cuts hi_X7_cuts hs_X7_cuts ml_X7_131 rfl rfl (kX7_cuts _ _ (alL V sh ((V 0 11) + t) (V 12 sh.toNat) (V 0 10)) (V 11 sh.toNat) hY h98.1 hl98 (by omega)) (by decide) (by decide) (Nat.le_of_ble_eq_true rfl) dX7_changes_110 (fun M110 h110 => ?_)
              subst h110
              show xX Γ 0 0 n T 113 [(0, xR 195), (1, xI sh), (2, xI (V 12 sh.toNat)), (3, xI ((smL V sh).length : Int)), (4, xI t)] [] (xst M98 195 8 (((alL V sh ((V 0 11) + t) (V 12 sh.toNat) (V 0 10)).take (V 11 sh.toNat).toNat).length : Int))
              skip
              refine x_aload_n G 0 rfl rfl dX7_changes_113 ?_
              refine x_get G (xI ((xst M98 195 8 (((alL V sh ((V 0 11) + t) (V 12 sh.toNat) (V 0 10)).take (V 11 sh.toNat).toNat).length : Int)) 195 8)) xf7_8 lk_X7_103 (ly_n hY 195 (by decide)) (ly_k hY 195 (by decide)) (Or.inl ⟨rfl, rfl⟩) dX7_changes_114 ?_
              rw [show (xst M98 195 8 (((alL V sh ((V 0 11) + t) (V 12 sh.toNat) (V 0 10)).take (V 11 sh.toNat).toNat).length : Int)) 195 8 = ((ltL V sh t).length : Int) from (show Rw _ (ltL V sh t) from (rw_take h98.1 (xst_same ..) (xst_row (by decide)))).1]
              refine x_iload_n G 3 rfl rfl dX7_changes_117 ?_
              refine x_icmp_ne G 125 (by decide) dX7_changes_118 (fun c118 => ?_) (fun c118 => ?_)
              · skip
                refine x_iconst G (by decide) dX7_changes_125 ?_
                have hlt12 : (ltL V sh t).length ≤ 12 := by (unfold ltL; rw [List.length_take]; omega)
                refine x_istore G [(5, xI 0), (0, xR 195), (1, xI sh), (2, xI (V 12 sh.toNat)), (3, xI ((smL V sh).length : Int)), (4, xI t)] (by decide) rfl dX7_changes_126 ?_
                refine x_iconst G (by decide) dX7_changes_128 ?_
                refine x_istore G [(6, xI 0), (5, xI 0), (0, xR 195), (1, xI sh), (2, xI (V 12 sh.toNat)), (3, xI ((smL V sh).length : Int)), (4, xI t)] (by decide) rfl dX7_changes_129 ?_
                have loop131 : ∀ (d : Nat) (q : Int) (like : Int), ((ltL V sh t).length + 1 - q + like).toNat = d → (0 ≤ q ∧ q ≤ (ltL V sh t).length) → ((like = 1 ∧ (ltL V sh t).length = (smL V sh).length ∧ ∀ j : Nat, (j : Int) < q → (ltL V sh t).getD j 0 = (smL V sh).getD j 0) ∨ (like = 0 ∧ ¬ (ltL V sh t) = (smL V sh))) → xX Γ 0 0 n T 131 [(0, xR 195), (1, xI sh), (2, xI (V 12 sh.toNat)), (3, xI ((smL V sh).length : Int)), (4, xI t), (5, xI like), (6, xI q)] [] (xst M98 195 8 (((alL V sh ((V 0 11) + t) (V 12 sh.toNat) (V 0 10)).take (V 11 sh.toNat).toNat).length : Int)) := by
                  intro d
                  induction d using Nat.strongRecOn with
                  | ind d ih131 =>
                  intro q like hd131 hq9 hlk
                  refine x_iload G 6 rfl dX7_changes_131 ?_
                  refine x_aload_n G 0 rfl rfl dX7_changes_133 ?_
                  refine x_get G (xI ((xst M98 195 8 (((alL V sh ((V 0 11) + t) (V 12 sh.toNat) (V 0 10)).take (V 11 sh.toNat).toNat).length : Int)) 195 8)) xf7_8 lk_X7_103 (ly_n hY 195 (by decide)) (ly_k hY 195 (by decide)) (Or.inl ⟨rfl, rfl⟩) dX7_changes_134 ?_
                  rw [show (xst M98 195 8 (((alL V sh ((V 0 11) + t) (V 12 sh.toNat) (V 0 10)).take (V 11 sh.toNat).toNat).length : Int)) 195 8 = ((ltL V sh t).length : Int) from (show Rw _ (ltL V sh t) from (rw_take h98.1 (xst_same ..) (xst_row (by decide)))).1]
                  refine x_icmp_ge G 175 (by decide) dX7_changes_137 (fun c137 => ?_) (fun c137 => ?_)
                  · skip
                    refine x_iload G 5 rfl dX7_changes_175 ?_
                    refine x_if_ne G 183 (by decide) dX7_changes_177 (fun c177 => ?_) (fun c177 => ?_)
                    · skip
                      have heq : ltL V sh t = smL V sh := by (rcases hlk with ⟨g1, g2, g3⟩ | ⟨g1, g2⟩; exact list_eq g2 (fun j hj => g3 j (by omega)); omega)
                      have hin9 := sm_in c20 heq
                      refine x_aload_n G 0 rfl rfl dX7_changes_183 ?_
                      refine x_iload_n G 1 rfl rfl dX7_changes_184 ?_
                      refine x_iload G 4 rfl dX7_changes_185 ?_
                      refine x_callVI G [] [xI sh, xI t] rfl (by decide) (ly_n hY 195 (by decide)) (ly_k hY 195 (by decide)) hy_X7_nextDeath hi_X7_nextDeath hs_X7_nextDeath ml_X7_183 rfl rfl (kX7_nextDeath _ _ V sh t hY (mr_cg (mr_cg (mr_cg hN (hf1.1 196 (by omega))) (h98.2.1.1 196 (by omega))) (xst_row (by omega))) hv (by omega) (by omega)) (by decide) (by decide) (Nat.le_of_ble_eq_true rfl) dX7_changes_187 (fun z187 M187 h187 => ?_)
                      obtain ⟨hq187, hm187⟩ := h187
                      have hm187 := hm187.symm
                      subst hm187
                      refine x_istore G [(4, xI z187), (0, xR 195), (1, xI sh), (2, xI (V 12 sh.toNat)), (3, xI ((smL V sh).length : Int)), (5, xI like), (6, xI q)] (by decide) rfl dX7_changes_190 ?_
                      refine x_goto G 73 (by decide) dX7_changes_192 ?_
                      refine x_sub [(0, xR 195), (1, xI sh), (2, xI (V 12 sh.toNat)), (3, xI ((smL V sh).length : Int)), (4, xI z187)] [1, 2, 3, 4, 0] rfl ?_
                      exact ih73 _ (by omega) z187 (xst M98 195 8 (((alL V sh ((V 0 11) + t) (V 12 sh.toNat) (V 0 10)).take (V 11 sh.toNat).toNat).length : Int)) rfl (by omega) ((mfr_st (mfr_tr hf1 (mfx_w 207 h98.2.1 (by decide))) (by omega))) ((rk_cg h98.2.2 (xst_nq (by omega)) (xst_row (by omega)))) ((fun j hj => (congrFun (xst_row (by decide)) j).trans ((fun j hj => (congrFun (h98.2.1.1 204 (by omega)) j).trans (hsv2 j hj)) j hj))) (fun j hj => by have g := sm_it hs hj; have g2 := al_und (List.mem_of_mem_take hj); exact hq187.2 j g g2.1 g2.2 (hin9 j hj))
                    · skip
                      have hne : ¬ ltL V sh t = smL V sh := by (rcases hlk with ⟨g1, g2, g3⟩ | ⟨g1, g2⟩; omega; exact g2)
                      refine x_iload G 4 rfl dX7_changes_180 ?_
                      exact x_iret G Rt dX7_changes_182 ⟨rfl, rfl, _, rfl, ⟨Or.inr (Or.inr ⟨by omega, c20, by obtain ⟨j, hj1, hj2⟩ := sm_out (by omega) c20 hne; have := htd j hj1; exact ⟨j, hj1, by omega⟩, fun j hj => htd j hj⟩), (mfr_st (mfr_tr hf1 (mfx_w 207 h98.2.1 (by decide))) (by omega)), (rk_cg h98.2.2 (xst_nq (by omega)) (xst_row (by omega)))⟩⟩
                  · skip
                    refine x_iload G 5 rfl dX7_changes_140 ?_
                    refine x_if_eq G 175 (by decide) dX7_changes_142 (fun c142 => ?_) (fun c142 => ?_)
                    · skip
                      refine x_iload G 5 rfl dX7_changes_175 ?_
                      refine x_if_ne G 183 (by decide) dX7_changes_177 (fun c177 => ?_) (fun c177 => ?_)
                      · skip
                        have heq : ltL V sh t = smL V sh := by (rcases hlk with ⟨g1, g2, g3⟩ | ⟨g1, g2⟩; exact list_eq g2 (fun j hj => g3 j (by omega)); omega)
                        have hin9 := sm_in c20 heq
                        refine x_aload_n G 0 rfl rfl dX7_changes_183 ?_
                        refine x_iload_n G 1 rfl rfl dX7_changes_184 ?_
                        refine x_iload G 4 rfl dX7_changes_185 ?_
                        refine x_callVI G [] [xI sh, xI t] rfl (by decide) (ly_n hY 195 (by decide)) (ly_k hY 195 (by decide)) hy_X7_nextDeath hi_X7_nextDeath hs_X7_nextDeath ml_X7_183 rfl rfl (kX7_nextDeath _ _ V sh t hY (mr_cg (mr_cg (mr_cg hN (hf1.1 196 (by omega))) (h98.2.1.1 196 (by omega))) (xst_row (by omega))) hv (by omega) (by omega)) (by decide) (by decide) (Nat.le_of_ble_eq_true rfl) dX7_changes_187 (fun z187 M187 h187 => ?_)
                        obtain ⟨hq187, hm187⟩ := h187
                        have hm187 := hm187.symm
                        subst hm187
                        refine x_istore G [(4, xI z187), (0, xR 195), (1, xI sh), (2, xI (V 12 sh.toNat)), (3, xI ((smL V sh).length : Int)), (5, xI like), (6, xI q)] (by decide) rfl dX7_changes_190 ?_
                        refine x_goto G 73 (by decide) dX7_changes_192 ?_
                        refine x_sub [(0, xR 195), (1, xI sh), (2, xI (V 12 sh.toNat)), (3, xI ((smL V sh).length : Int)), (4, xI z187)] [1, 2, 3, 4, 0] rfl ?_
                        exact ih73 _ (by omega) z187 (xst M98 195 8 (((alL V sh ((V 0 11) + t) (V 12 sh.toNat) (V 0 10)).take (V 11 sh.toNat).toNat).length : Int)) rfl (by omega) ((mfr_st (mfr_tr hf1 (mfx_w 207 h98.2.1 (by decide))) (by omega))) ((rk_cg h98.2.2 (xst_nq (by omega)) (xst_row (by omega)))) ((fun j hj => (congrFun (xst_row (by decide)) j).trans ((fun j hj => (congrFun (h98.2.1.1 204 (by omega)) j).trans (hsv2 j hj)) j hj))) (fun j hj => by have g := sm_it hs hj; have g2 := al_und (List.mem_of_mem_take hj); exact hq187.2 j g g2.1 g2.2 (hin9 j hj))
                      · skip
                        have hne : ¬ ltL V sh t = smL V sh := by (rcases hlk with ⟨g1, g2, g3⟩ | ⟨g1, g2⟩; omega; exact g2)
                        refine x_iload G 4 rfl dX7_changes_180 ?_
                        exact x_iret G Rt dX7_changes_182 ⟨rfl, rfl, _, rfl, ⟨Or.inr (Or.inr ⟨by omega, c20, by obtain ⟨j, hj1, hj2⟩ := sm_out (by omega) c20 hne; have := htd j hj1; exact ⟨j, hj1, by omega⟩, fun j hj => htd j hj⟩), (mfr_st (mfr_tr hf1 (mfx_w 207 h98.2.1 (by decide))) (by omega)), (rk_cg h98.2.2 (xst_nq (by omega)) (xst_row (by omega)))⟩⟩
                    · skip
                      have hsq := hsv2 q.toNat (by omega)
                      refine x_aload_n G 0 rfl rfl dX7_changes_145 ?_
                      refine x_get G (xR 202) xf7_7 lk_X7_29 (ly_n hY 195 (by decide)) (ly_k hY 195 (by decide)) (Or.inr ⟨rfl, _, (ly_r hY 195 7 (by decide) (by decide)), rfl⟩) dX7_changes_146 ?_
                      refine x_iload G 6 rfl dX7_changes_149 ?_
                      refine x_iald G (ly_n hY 202 (by decide)) (ly_k hY 202 (by decide)) (show _ = 100 from ly_l hY 202 (by decide)) (by omega) (by omega) dX7_changes_151 ?_
                      rw [show (xst M98 195 8 (((alL V sh ((V 0 11) + t) (V 12 sh.toNat) (V 0 10)).take (V 11 sh.toNat).toNat).length : Int)) 202 q.toNat = (((ltL V sh t).getD q.toNat 0 : Nat) : Int) from ((show Rw _ (ltL V sh t) from (rw_take h98.1 (xst_same ..) (xst_row (by decide)))).2 q.toNat (by omega))]
                      refine x_aload_n G 0 rfl rfl dX7_changes_152 ?_
                      refine x_get G (xR 204) xf7_11 lk_X7_35 (ly_n hY 195 (by decide)) (ly_k hY 195 (by decide)) (Or.inr ⟨rfl, _, (ly_r hY 195 11 (by decide) (by decide)), rfl⟩) dX7_changes_153 ?_
                      refine x_iload G 6 rfl dX7_changes_156 ?_
                      refine x_iald G (ly_n hY 204 (by decide)) (ly_k hY 204 (by decide)) (show _ = 12 from ly_l hY 204 (by decide)) (by omega) (by omega) dX7_changes_158 ?_
                      rw [show (xst M98 195 8 (((alL V sh ((V 0 11) + t) (V 12 sh.toNat) (V 0 10)).take (V 11 sh.toNat).toNat).length : Int)) 204 q.toNat = (N2 204 q.toNat) from ((xst_nq (by omega)).trans (congrFun (h98.2.1.1 204 (by omega)) q.toNat))]
                      refine x_icmp_ne G 166 (by decide) dX7_changes_159 (fun c159 => ?_) (fun c159 => ?_)
                      · skip
                        refine x_iconst G (by decide) dX7_changes_166 ?_
                        refine x_istore G [(5, xI 0), (0, xR 195), (1, xI sh), (2, xI (V 12 sh.toNat)), (3, xI ((smL V sh).length : Int)), (4, xI t), (6, xI q)] (by decide) rfl dX7_changes_167 ?_
                        refine x_iinc G [(6, xI (q + 1)), (5, xI 0), (0, xR 195), (1, xI sh), (2, xI (V 12 sh.toNat)), (3, xI ((smL V sh).length : Int)), (4, xI t)] 6 rfl (by decide) (by omega) rfl dX7_changes_169 ?_
                        refine x_goto G 131 (by decide) dX7_changes_172 ?_
                        refine x_sub [(0, xR 195), (1, xI sh), (2, xI (V 12 sh.toNat)), (3, xI ((smL V sh).length : Int)), (4, xI t), (5, xI 0), (6, xI (q + 1))] [2, 3, 4, 5, 6, 1, 0] rfl ?_
                        exact ih131 _ (by omega) (q + 1) 0 rfl (by omega) (by (rcases hlk with ⟨g1, g2, g3⟩ | ⟨g1, g2⟩; (first | exact Or.inr ⟨rfl, fun e => absurd (show (ltL V sh t).getD q.toNat 0 = (smL V sh).getD q.toNat 0 by rw [e]) (by omega)⟩ | exact Or.inl ⟨rfl, g2, fun j hj => by rcases Int.lt_or_le j q with g | g; exact g3 j g; have e : j = q.toNat := (by omega); rw [e]; omega⟩); omega))
                      · skip
                        refine x_iconst G (by decide) dX7_changes_162 ?_
                        refine x_goto G 167 (by decide) dX7_changes_163 ?_
                        refine x_istore G [(5, xI 1), (0, xR 195), (1, xI sh), (2, xI (V 12 sh.toNat)), (3, xI ((smL V sh).length : Int)), (4, xI t), (6, xI q)] (by decide) rfl dX7_changes_167 ?_
                        refine x_iinc G [(6, xI (q + 1)), (5, xI 1), (0, xR 195), (1, xI sh), (2, xI (V 12 sh.toNat)), (3, xI ((smL V sh).length : Int)), (4, xI t)] 6 rfl (by decide) (by omega) rfl dX7_changes_169 ?_
                        refine x_goto G 131 (by decide) dX7_changes_172 ?_
                        refine x_sub [(0, xR 195), (1, xI sh), (2, xI (V 12 sh.toNat)), (3, xI ((smL V sh).length : Int)), (4, xI t), (5, xI 1), (6, xI (q + 1))] [2, 3, 4, 5, 6, 1, 0] rfl ?_
                        exact ih131 _ (by omega) (q + 1) 1 rfl (by omega) (by (rcases hlk with ⟨g1, g2, g3⟩ | ⟨g1, g2⟩; (first | exact Or.inr ⟨rfl, fun e => absurd (show (ltL V sh t).getD q.toNat 0 = (smL V sh).getD q.toNat 0 by rw [e]) (by omega)⟩ | exact Or.inl ⟨rfl, g2, fun j hj => by rcases Int.lt_or_le j q with g | g; exact g3 j g; have e : j = q.toNat := (by omega); rw [e]; omega⟩); omega))
                refine x_sub [(0, xR 195), (1, xI sh), (2, xI (V 12 sh.toNat)), (3, xI ((smL V sh).length : Int)), (4, xI t), (5, xI 0), (6, xI 0)] [2, 3, 4, 5, 6, 1, 0] rfl ?_
                exact loop131 _ 0 0 rfl (by omega) (by first | exact Or.inl ⟨rfl, by omega, fun j hj => by omega⟩ | exact Or.inr ⟨rfl, fun e => by have e2 := congrArg List.length e; omega⟩)
              · skip
                refine x_iconst G (by decide) dX7_changes_121 ?_
                refine x_goto G 126 (by decide) dX7_changes_122 ?_
                have hlt12 : (ltL V sh t).length ≤ 12 := by (unfold ltL; rw [List.length_take]; omega)
                refine x_istore G [(5, xI 1), (0, xR 195), (1, xI sh), (2, xI (V 12 sh.toNat)), (3, xI ((smL V sh).length : Int)), (4, xI t)] (by decide) rfl dX7_changes_126 ?_
                refine x_iconst G (by decide) dX7_changes_128 ?_
                refine x_istore G [(6, xI 0), (5, xI 1), (0, xR 195), (1, xI sh), (2, xI (V 12 sh.toNat)), (3, xI ((smL V sh).length : Int)), (4, xI t)] (by decide) rfl dX7_changes_129 ?_
                have loop131 : ∀ (d : Nat) (q : Int) (like : Int), ((ltL V sh t).length + 1 - q + like).toNat = d → (0 ≤ q ∧ q ≤ (ltL V sh t).length) → ((like = 1 ∧ (ltL V sh t).length = (smL V sh).length ∧ ∀ j : Nat, (j : Int) < q → (ltL V sh t).getD j 0 = (smL V sh).getD j 0) ∨ (like = 0 ∧ ¬ (ltL V sh t) = (smL V sh))) → xX Γ 0 0 n T 131 [(0, xR 195), (1, xI sh), (2, xI (V 12 sh.toNat)), (3, xI ((smL V sh).length : Int)), (4, xI t), (5, xI like), (6, xI q)] [] (xst M98 195 8 (((alL V sh ((V 0 11) + t) (V 12 sh.toNat) (V 0 10)).take (V 11 sh.toNat).toNat).length : Int)) := by
                  intro d
                  induction d using Nat.strongRecOn with
                  | ind d ih131 =>
                  intro q like hd131 hq9 hlk
                  refine x_iload G 6 rfl dX7_changes_131 ?_
                  refine x_aload_n G 0 rfl rfl dX7_changes_133 ?_
                  refine x_get G (xI ((xst M98 195 8 (((alL V sh ((V 0 11) + t) (V 12 sh.toNat) (V 0 10)).take (V 11 sh.toNat).toNat).length : Int)) 195 8)) xf7_8 lk_X7_103 (ly_n hY 195 (by decide)) (ly_k hY 195 (by decide)) (Or.inl ⟨rfl, rfl⟩) dX7_changes_134 ?_
                  rw [show (xst M98 195 8 (((alL V sh ((V 0 11) + t) (V 12 sh.toNat) (V 0 10)).take (V 11 sh.toNat).toNat).length : Int)) 195 8 = ((ltL V sh t).length : Int) from (show Rw _ (ltL V sh t) from (rw_take h98.1 (xst_same ..) (xst_row (by decide)))).1]
                  refine x_icmp_ge G 175 (by decide) dX7_changes_137 (fun c137 => ?_) (fun c137 => ?_)
                  · skip
                    refine x_iload G 5 rfl dX7_changes_175 ?_
                    refine x_if_ne G 183 (by decide) dX7_changes_177 (fun c177 => ?_) (fun c177 => ?_)
                    · skip
                      have heq : ltL V sh t = smL V sh := by (rcases hlk with ⟨g1, g2, g3⟩ | ⟨g1, g2⟩; exact list_eq g2 (fun j hj => g3 j (by omega)); omega)
                      have hin9 := sm_in c20 heq
                      refine x_aload_n G 0 rfl rfl dX7_changes_183 ?_
                      refine x_iload_n G 1 rfl rfl dX7_changes_184 ?_
                      refine x_iload G 4 rfl dX7_changes_185 ?_
                      refine x_callVI G [] [xI sh, xI t] rfl (by decide) (ly_n hY 195 (by decide)) (ly_k hY 195 (by decide)) hy_X7_nextDeath hi_X7_nextDeath hs_X7_nextDeath ml_X7_183 rfl rfl (kX7_nextDeath _ _ V sh t hY (mr_cg (mr_cg (mr_cg hN (hf1.1 196 (by omega))) (h98.2.1.1 196 (by omega))) (xst_row (by omega))) hv (by omega) (by omega)) (by decide) (by decide) (Nat.le_of_ble_eq_true rfl) dX7_changes_187 (fun z187 M187 h187 => ?_)
                      obtain ⟨hq187, hm187⟩ := h187
                      have hm187 := hm187.symm
                      subst hm187
                      refine x_istore G [(4, xI z187), (0, xR 195), (1, xI sh), (2, xI (V 12 sh.toNat)), (3, xI ((smL V sh).length : Int)), (5, xI like), (6, xI q)] (by decide) rfl dX7_changes_190 ?_
                      refine x_goto G 73 (by decide) dX7_changes_192 ?_
                      refine x_sub [(0, xR 195), (1, xI sh), (2, xI (V 12 sh.toNat)), (3, xI ((smL V sh).length : Int)), (4, xI z187)] [1, 2, 3, 4, 0] rfl ?_
                      exact ih73 _ (by omega) z187 (xst M98 195 8 (((alL V sh ((V 0 11) + t) (V 12 sh.toNat) (V 0 10)).take (V 11 sh.toNat).toNat).length : Int)) rfl (by omega) ((mfr_st (mfr_tr hf1 (mfx_w 207 h98.2.1 (by decide))) (by omega))) ((rk_cg h98.2.2 (xst_nq (by omega)) (xst_row (by omega)))) ((fun j hj => (congrFun (xst_row (by decide)) j).trans ((fun j hj => (congrFun (h98.2.1.1 204 (by omega)) j).trans (hsv2 j hj)) j hj))) (fun j hj => by have g := sm_it hs hj; have g2 := al_und (List.mem_of_mem_take hj); exact hq187.2 j g g2.1 g2.2 (hin9 j hj))
                    · skip
                      have hne : ¬ ltL V sh t = smL V sh := by (rcases hlk with ⟨g1, g2, g3⟩ | ⟨g1, g2⟩; omega; exact g2)
                      refine x_iload G 4 rfl dX7_changes_180 ?_
                      exact x_iret G Rt dX7_changes_182 ⟨rfl, rfl, _, rfl, ⟨Or.inr (Or.inr ⟨by omega, c20, by obtain ⟨j, hj1, hj2⟩ := sm_out (by omega) c20 hne; have := htd j hj1; exact ⟨j, hj1, by omega⟩, fun j hj => htd j hj⟩), (mfr_st (mfr_tr hf1 (mfx_w 207 h98.2.1 (by decide))) (by omega)), (rk_cg h98.2.2 (xst_nq (by omega)) (xst_row (by omega)))⟩⟩
                  · skip
                    refine x_iload G 5 rfl dX7_changes_140 ?_
                    refine x_if_eq G 175 (by decide) dX7_changes_142 (fun c142 => ?_) (fun c142 => ?_)
                    · skip
                      refine x_iload G 5 rfl dX7_changes_175 ?_
                      refine x_if_ne G 183 (by decide) dX7_changes_177 (fun c177 => ?_) (fun c177 => ?_)
                      · skip
                        have heq : ltL V sh t = smL V sh := by (rcases hlk with ⟨g1, g2, g3⟩ | ⟨g1, g2⟩; exact list_eq g2 (fun j hj => g3 j (by omega)); omega)
                        have hin9 := sm_in c20 heq
                        refine x_aload_n G 0 rfl rfl dX7_changes_183 ?_
                        refine x_iload_n G 1 rfl rfl dX7_changes_184 ?_
                        refine x_iload G 4 rfl dX7_changes_185 ?_
                        refine x_callVI G [] [xI sh, xI t] rfl (by decide) (ly_n hY 195 (by decide)) (ly_k hY 195 (by decide)) hy_X7_nextDeath hi_X7_nextDeath hs_X7_nextDeath ml_X7_183 rfl rfl (kX7_nextDeath _ _ V sh t hY (mr_cg (mr_cg (mr_cg hN (hf1.1 196 (by omega))) (h98.2.1.1 196 (by omega))) (xst_row (by omega))) hv (by omega) (by omega)) (by decide) (by decide) (Nat.le_of_ble_eq_true rfl) dX7_changes_187 (fun z187 M187 h187 => ?_)
                        obtain ⟨hq187, hm187⟩ := h187
                        have hm187 := hm187.symm
                        subst hm187
                        refine x_istore G [(4, xI z187), (0, xR 195), (1, xI sh), (2, xI (V 12 sh.toNat)), (3, xI ((smL V sh).length : Int)), (5, xI like), (6, xI q)] (by decide) rfl dX7_changes_190 ?_
                        refine x_goto G 73 (by decide) dX7_changes_192 ?_
                        refine x_sub [(0, xR 195), (1, xI sh), (2, xI (V 12 sh.toNat)), (3, xI ((smL V sh).length : Int)), (4, xI z187)] [1, 2, 3, 4, 0] rfl ?_
                        exact ih73 _ (by omega) z187 (xst M98 195 8 (((alL V sh ((V 0 11) + t) (V 12 sh.toNat) (V 0 10)).take (V 11 sh.toNat).toNat).length : Int)) rfl (by omega) ((mfr_st (mfr_tr hf1 (mfx_w 207 h98.2.1 (by decide))) (by omega))) ((rk_cg h98.2.2 (xst_nq (by omega)) (xst_row (by omega)))) ((fun j hj => (congrFun (xst_row (by decide)) j).trans ((fun j hj => (congrFun (h98.2.1.1 204 (by omega)) j).trans (hsv2 j hj)) j hj))) (fun j hj => by have g := sm_it hs hj; have g2 := al_und (List.mem_of_mem_take hj); exact hq187.2 j g g2.1 g2.2 (hin9 j hj))
                      · skip
                        have hne : ¬ ltL V sh t = smL V sh := by (rcases hlk with ⟨g1, g2, g3⟩ | ⟨g1, g2⟩; omega; exact g2)
                        refine x_iload G 4 rfl dX7_changes_180 ?_
                        exact x_iret G Rt dX7_changes_182 ⟨rfl, rfl, _, rfl, ⟨Or.inr (Or.inr ⟨by omega, c20, by obtain ⟨j, hj1, hj2⟩ := sm_out (by omega) c20 hne; have := htd j hj1; exact ⟨j, hj1, by omega⟩, fun j hj => htd j hj⟩), (mfr_st (mfr_tr hf1 (mfx_w 207 h98.2.1 (by decide))) (by omega)), (rk_cg h98.2.2 (xst_nq (by omega)) (xst_row (by omega)))⟩⟩
                    · skip
                      have hsq := hsv2 q.toNat (by omega)
                      refine x_aload_n G 0 rfl rfl dX7_changes_145 ?_
                      refine x_get G (xR 202) xf7_7 lk_X7_29 (ly_n hY 195 (by decide)) (ly_k hY 195 (by decide)) (Or.inr ⟨rfl, _, (ly_r hY 195 7 (by decide) (by decide)), rfl⟩) dX7_changes_146 ?_
                      refine x_iload G 6 rfl dX7_changes_149 ?_
                      refine x_iald G (ly_n hY 202 (by decide)) (ly_k hY 202 (by decide)) (show _ = 100 from ly_l hY 202 (by decide)) (by omega) (by omega) dX7_changes_151 ?_
                      rw [show (xst M98 195 8 (((alL V sh ((V 0 11) + t) (V 12 sh.toNat) (V 0 10)).take (V 11 sh.toNat).toNat).length : Int)) 202 q.toNat = (((ltL V sh t).getD q.toNat 0 : Nat) : Int) from ((show Rw _ (ltL V sh t) from (rw_take h98.1 (xst_same ..) (xst_row (by decide)))).2 q.toNat (by omega))]
                      refine x_aload_n G 0 rfl rfl dX7_changes_152 ?_
                      refine x_get G (xR 204) xf7_11 lk_X7_35 (ly_n hY 195 (by decide)) (ly_k hY 195 (by decide)) (Or.inr ⟨rfl, _, (ly_r hY 195 11 (by decide) (by decide)), rfl⟩) dX7_changes_153 ?_
                      refine x_iload G 6 rfl dX7_changes_156 ?_
                      refine x_iald G (ly_n hY 204 (by decide)) (ly_k hY 204 (by decide)) (show _ = 12 from ly_l hY 204 (by decide)) (by omega) (by omega) dX7_changes_158 ?_
                      rw [show (xst M98 195 8 (((alL V sh ((V 0 11) + t) (V 12 sh.toNat) (V 0 10)).take (V 11 sh.toNat).toNat).length : Int)) 204 q.toNat = (N2 204 q.toNat) from ((xst_nq (by omega)).trans (congrFun (h98.2.1.1 204 (by omega)) q.toNat))]
                      refine x_icmp_ne G 166 (by decide) dX7_changes_159 (fun c159 => ?_) (fun c159 => ?_)
                      · skip
                        refine x_iconst G (by decide) dX7_changes_166 ?_
                        refine x_istore G [(5, xI 0), (0, xR 195), (1, xI sh), (2, xI (V 12 sh.toNat)), (3, xI ((smL V sh).length : Int)), (4, xI t), (6, xI q)] (by decide) rfl dX7_changes_167 ?_
                        refine x_iinc G [(6, xI (q + 1)), (5, xI 0), (0, xR 195), (1, xI sh), (2, xI (V 12 sh.toNat)), (3, xI ((smL V sh).length : Int)), (4, xI t)] 6 rfl (by decide) (by omega) rfl dX7_changes_169 ?_
                        refine x_goto G 131 (by decide) dX7_changes_172 ?_
                        refine x_sub [(0, xR 195), (1, xI sh), (2, xI (V 12 sh.toNat)), (3, xI ((smL V sh).length : Int)), (4, xI t), (5, xI 0), (6, xI (q + 1))] [2, 3, 4, 5, 6, 1, 0] rfl ?_
                        exact ih131 _ (by omega) (q + 1) 0 rfl (by omega) (by (rcases hlk with ⟨g1, g2, g3⟩ | ⟨g1, g2⟩; (first | exact Or.inr ⟨rfl, fun e => absurd (show (ltL V sh t).getD q.toNat 0 = (smL V sh).getD q.toNat 0 by rw [e]) (by omega)⟩ | exact Or.inl ⟨rfl, g2, fun j hj => by rcases Int.lt_or_le j q with g | g; exact g3 j g; have e : j = q.toNat := (by omega); rw [e]; omega⟩); omega))
                      · skip
                        refine x_iconst G (by decide) dX7_changes_162 ?_
                        refine x_goto G 167 (by decide) dX7_changes_163 ?_
                        refine x_istore G [(5, xI 1), (0, xR 195), (1, xI sh), (2, xI (V 12 sh.toNat)), (3, xI ((smL V sh).length : Int)), (4, xI t), (6, xI q)] (by decide) rfl dX7_changes_167 ?_
                        refine x_iinc G [(6, xI (q + 1)), (5, xI 1), (0, xR 195), (1, xI sh), (2, xI (V 12 sh.toNat)), (3, xI ((smL V sh).length : Int)), (4, xI t)] 6 rfl (by decide) (by omega) rfl dX7_changes_169 ?_
                        refine x_goto G 131 (by decide) dX7_changes_172 ?_
                        refine x_sub [(0, xR 195), (1, xI sh), (2, xI (V 12 sh.toNat)), (3, xI ((smL V sh).length : Int)), (4, xI t), (5, xI 1), (6, xI (q + 1))] [2, 3, 4, 5, 6, 1, 0] rfl ?_
                        exact ih131 _ (by omega) (q + 1) 1 rfl (by omega) (by (rcases hlk with ⟨g1, g2, g3⟩ | ⟨g1, g2⟩; (first | exact Or.inr ⟨rfl, fun e => absurd (show (ltL V sh t).getD q.toNat 0 = (smL V sh).getD q.toNat 0 by rw [e]) (by omega)⟩ | exact Or.inl ⟨rfl, g2, fun j hj => by rcases Int.lt_or_le j q with g | g; exact g3 j g; have e : j = q.toNat := (by omega); rw [e]; omega⟩); omega))
                refine x_sub [(0, xR 195), (1, xI sh), (2, xI (V 12 sh.toNat)), (3, xI ((smL V sh).length : Int)), (4, xI t), (5, xI 1), (6, xI 0)] [2, 3, 4, 5, 6, 1, 0] rfl ?_
                exact loop131 _ 0 1 rfl (by omega) (by first | exact Or.inl ⟨rfl, by omega, fun j hj => by omega⟩ | exact Or.inr ⟨rfl, fun e => by have e2 := congrArg List.length e; omega⟩)
          refine x_sub [(0, xR 195), (1, xI sh), (2, xI (V 12 sh.toNat)), (3, xI ((smL V sh).length : Int)), (4, xI z68)] [1, 2, 3, 4, 0] rfl ?_
          exact loop73 _ z68 N1 rfl (by omega) (hf1) (hR1) (by have e9 : k = ((smL V sh).length : Int) := (by omega); rw [← e9]; exact hsv) (fun j hj => by have g := sm_it hs hj; have g2 := al_und (List.mem_of_mem_take hj); exact hq68.2 j g g2.1 g2.2 (sm_now c20 j hj))
        · skip
          refine x_aload_n G 0 rfl rfl dX7_changes_45 ?_
          refine x_get G (xR 204) xf7_11 lk_X7_35 (ly_n hY 195 (by decide)) (ly_k hY 195 (by decide)) (Or.inr ⟨rfl, _, (ly_r hY 195 11 (by decide) (by decide)), rfl⟩) dX7_changes_46 ?_
          refine x_iload G 4 rfl dX7_changes_49 ?_
          refine x_aload_n G 0 rfl rfl dX7_changes_51 ?_
          refine x_get G (xR 202) xf7_7 lk_X7_29 (ly_n hY 195 (by decide)) (ly_k hY 195 (by decide)) (Or.inr ⟨rfl, _, (ly_r hY 195 7 (by decide) (by decide)), rfl⟩) dX7_changes_52 ?_
          refine x_iload G 4 rfl dX7_changes_55 ?_
          refine x_iald G (ly_n hY 202 (by decide)) (ly_k hY 202 (by decide)) (show _ = 100 from ly_l hY 202 (by decide)) (by omega) (by omega) dX7_changes_57 ?_
          rw [show N1 202 k.toNat = (((smL V sh).getD k.toNat 0 : Nat) : Int) from (hw1.2 k.toNat (by omega))]
          refine x_iast G (ly_n hY 204 (by decide)) (ly_k hY 204 (by decide)) (show _ = 12 from ly_l hY 204 (by decide)) (by omega) (by omega) dX7_changes_58 ?_
          refine x_iinc G [(4, xI (k + 1)), (0, xR 195), (1, xI sh), (2, xI (V 12 sh.toNat)), (3, xI ((smL V sh).length : Int))] 4 rfl (by decide) (by omega) rfl dX7_changes_59 ?_
          refine x_goto G 39 (by decide) dX7_changes_62 ?_
          refine x_sub [(0, xR 195), (1, xI sh), (2, xI (V 12 sh.toNat)), (3, xI ((smL V sh).length : Int)), (4, xI (k + 1))] [1, 2, 3, 4, 0] rfl ?_
          exact ih39 _ (by omega) (k + 1) (xst N1 204 k.toNat (((smL V sh).getD k.toNat 0 : Nat) : Int)) rfl (by omega) ((mfr_st hf1 (by omega))) ((rk_cg hR1 (xst_nq (by omega)) (xst_row (by omega)))) ((rw_cg hw1 (xst_nq (by omega)) (xst_row (by omega)))) ((sav_st hsv hk.1))
      refine x_sub [(0, xR 195), (1, xI sh), (2, xI (V 12 sh.toNat)), (3, xI ((smL V sh).length : Int)), (4, xI 0)] [3, 4, 2, 1, 0] rfl ?_
      exact loop39 _ 0 M28 rfl (by omega) ((mfr_tr (mfr_refl _) (mfx_w 207 h28.2.1 (by decide)))) (h28.2.2) (h28.1) (fun j hj => by omega)
    · skip
      refine x_bipush G (by decide) dX7_changes_23 ?_
      exact x_iret G Rt dX7_changes_25 ⟨rfl, rfl, _, rfl, ⟨Or.inr (Or.inl ⟨by omega, Or.inl c20, rfl⟩), (mfr_refl _), hR⟩⟩
  · skip
    have c4 := b2i_eq0.mp c4
    refine x_iconst G (by decide) dX7_changes_7 ?_
    exact x_iret G Rt dX7_changes_8 ⟨rfl, rfl, _, rfl, ⟨Or.inl ⟨by omega, rfl⟩, (mfr_refl _), hR⟩⟩
