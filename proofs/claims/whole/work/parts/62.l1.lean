theorem mpk_it {V : xM} (hv : VOK V) {j : Nat} (hj : (j : Int) < V 0 10) : itm V j := hv.2.2.1 j hj
theorem drw_lo (s : Int) : 1 ≤ drw s / 64 ∧ drw s / 64 ≤ 1023 := by have := drw_b s; omega
theorem aMvA_ok {V : xM} {fr lab to : Int} (hv : VOK V) (h : okS to) : VOK (nxV V (aMvA V fr lab to)) := by
  unfold nxV aMvA
  by_cases g : cntU V fr lab = 0
  · rw [if_pos g]; exact hv
  · rw [if_neg g]; exact mpk_ok hv (by decide) (fun j hj => by have hij := hv.2.2.1 j hj; simp [xst_eq, itm]; omega)
set_option maxHeartbeats 1000000 in
theorem aPut_ok {V : xM} {sh lab w lo : Int} (hv : VOK V) : VOK (nxV V (aPut V sh lab w lo)) := by
  unfold nxV aPut
  split
  · rename_i c
    by_cases g : 100 ≤ V 0 10
    · rw [if_pos g]; exact hv
    · rw [if_neg g]; exact addV_ok hv (by omega) c.1 c.2.1 c.2.2.1 c.2.2.2
  · exact hv
set_option maxHeartbeats 1000000 in
theorem aCome_ok {V : xM} {sh lab w : Int} (hv : VOK V) : VOK (nxV V (aCome V sh lab w)) := by
  unfold nxV aCome
  split
  · rename_i c
    by_cases g : 100 ≤ V 0 10
    · rw [if_pos g]; exact hv
    · rw [if_neg g]
      have := drw_b (V 0 12)
      exact addV_ok (V := sdV V) (ok_seed hv (by omega)) (show V 0 10 < 100 by omega) c.1 c.2.1 c.2.2 (drw_lo _)
  · exact hv
set_option maxHeartbeats 1000000 in
theorem aPass_ok {V : xM} {t : Int} (hv : VOK V) : VOK (nxV V (aPass V t)) := by
  unfold nxV aPass
  split
  · rename_i c
    by_cases g : 99999 < V 0 11 + t
    · rw [if_pos g]; exact hv
    · rw [if_neg g]; exact ok_tick hv (by omega)
  · exact hv
set_option maxHeartbeats 1000000 in
theorem aSize_ok {V : xM} {sh m : Int} (hv : VOK V) : VOK (nxV V (aSize V sh m)) := by
  unfold nxV aSize
  split
  · rename_i c
    by_cases g : V 11 sh.toNat = m
    · rw [if_pos g]; exact hv
    · rw [if_neg g]; exact ok_size hv c.2
  · exact hv
set_option maxHeartbeats 1000000 in
theorem aWind_ok {V : xM} {sh m : Int} (hv : VOK V) : VOK (nxV V (aWind V sh m)) := by
  unfold nxV aWind
  split
  · rename_i c
    by_cases g : V 12 sh.toNat = m
    · rw [if_pos g]; exact hv
    · rw [if_neg g]; exact ok_wind hv c.2
  · exact hv
set_option maxHeartbeats 1000000 in
theorem aWeigh_ok {V : xM} {i w : Int} (hv : VOK V) : VOK (nxV V (aWeigh V i w)) := by
  unfold nxV aWeigh
  split
  · rename_i c
    by_cases g : V 6 i.toNat = w
    · rw [if_pos g]; exact hv
    · rw [if_neg g]
      have hi := ok_i hv c.1.1.1 c.1.1.2
      exact ok_item hv (by decide) (fun _ => by simp [xst_eq, itm]; omega)
  · exact hv
set_option maxHeartbeats 1000000 in
theorem aAgain_ok {V : xM} {i : Int} (hv : VOK V) : VOK (nxV V (aAgain V i)) := by
  unfold nxV aAgain
  split
  · rename_i c
    have hi := ok_i hv c.1.1 c.1.2
    have hb := drw_b (V 0 12)
    have hl := drw_lo (V 0 12)
    exact ok_item (ok_seed hv (by omega)) (by decide) (fun _ => by simp [xst_eq, itm]; omega)
  · exact hv
set_option maxHeartbeats 1000000 in
theorem aDrop_ok {V : xM} {i : Int} (hv : VOK V) : VOK (nxV V (aDrop V i)) := by
  unfold nxV aDrop
  split
  · rename_i c
    have hi := ok_i hv c.1.1 c.1.2
    exact ok_item hv (by decide) (fun _ => by simp [xst_eq, itm]; omega)
  · exact hv
set_option maxHeartbeats 1000000 in
theorem aMove_ok {V : xM} {i sh : Int} (hv : VOK V) : VOK (nxV V (aMove V i sh)) := by
  unfold nxV aMove
  split
  · rename_i c
    by_cases g : V 4 i.toNat = sh
    · rw [if_pos g]; exact hv
    · rw [if_neg g]
      have hi := ok_i hv c.1.1.1 c.1.1.2
      exact ok_item hv (by decide) (fun _ => by simp [xst_eq, itm]; omega)
  · exact hv
set_option maxHeartbeats 1000000 in
theorem aMerge_ok {V : xM} {fr to : Int} (hv : VOK V) : VOK (nxV V (aMerge V fr to)) := by
  unfold nxV aMerge
  split
  · rename_i c
    exact aMvA_ok hv c.2.1
  · exact hv
set_option maxHeartbeats 1000000 in
theorem aSplit_ok {V : xM} {fr lab to : Int} (hv : VOK V) : VOK (nxV V (aSplit V fr lab to)) := by
  unfold nxV aSplit
  split
  · rename_i c
    exact aMvA_ok hv c.2.2.1
  · exact hv
set_option maxHeartbeats 1000000 in
theorem aRen_ok {V : xM} {lab ot : Int} (hv : VOK V) : VOK (nxV V (aRen V lab ot)) := by
  unfold nxV aRen
  split
  · rename_i c
    by_cases g : cntU V (-1) lab = 0
    · rw [if_pos g]; exact hv
    · rw [if_neg g]; exact mpk_ok hv (by decide) (fun j hj => by have hij := hv.2.2.1 j hj; simp [xst_eq, itm]; omega)
  · exact hv
set_option maxHeartbeats 1000000 in
theorem aThin_ok {V : xM} {sh : Int} (hv : VOK V) : VOK (nxV V (aThin V sh)) := by
  unfold nxV aThin
  split
  · rename_i c
    by_cases g : cntU V sh (-1) - (smL V sh).length = 0
    · rw [if_pos g]; exact hv
    · rw [if_neg g]; exact mpk_ok hv (by decide) (fun j hj => by have hij := hv.2.2.1 j hj; simp [xst_eq, itm]; omega)
  · exact hv
set_option maxHeartbeats 1000000 in
theorem aSwap_ok {V : xM} {i j : Int} (hv : VOK V) : VOK (nxV V (aSwap V i j)) := by
  unfold nxV aSwap
  split
  · rename_i c
    by_cases g : V 7 i.toNat = V 7 j.toNat
    · rw [if_pos g]; exact hv
    · rw [if_neg g]
      have hi := ok_i hv c.1.1.1 c.1.1.2
      have hj := ok_i hv c.2.1.1.1 c.2.1.1.2
      exact ok_item (ok_item hv (by decide) (fun _ => by simp [xst_eq, itm]; omega)) (by decide) (fun _ => by simp [xst_eq, itm]; omega)
  · exact hv
set_option maxHeartbeats 1000000 in
theorem aWAll_ok {V : xM} {sh m : Int} (hv : VOK V) : VOK (nxV V (aWAll V sh m)) := by
  unfold nxV aWAll
  split
  · rename_i c
    by_cases g : wAC V sh = 0
    · rw [if_pos g]; exact hv
    · rw [if_neg g]; exact mpk_ok hv (by decide) (fun j hj => by have hij := hv.2.2.1 j hj; (have hb1 := Int.mul_le_mul_of_nonneg_left (show (1 : Int) ≤ m by omega) (show (0 : Int) ≤ V 6 j by omega)); simp [xst_eq, itm]; split <;> omega)
  · exact hv
set_option maxHeartbeats 1000000 in
theorem aPurge_ok {V : xM} (hv : VOK V) : VOK (nxV V (aPurge V)) := by
  unfold nxV aPurge
  by_cases g : cntU V (-1) (-1) - cntA V (-1) (-1) = 0
  · rw [if_pos g]; exact hv
  · rw [if_neg g]; exact mpk_ok hv (by decide) (fun j hj => by have hij := hv.2.2.1 j hj; simp [xst_eq, itm]; omega)
set_option maxHeartbeats 1000000 in
theorem aSeed_ok {V : xM} {m : Int} (hv : VOK V) : VOK (nxV V (aSeed V m)) := by
  unfold nxV aSeed
  split
  · rename_i c
    by_cases g : V 0 12 = m
    · rw [if_pos g]; exact hv
    · rw [if_neg g]; exact ok_seed hv c
  · exact hv
/-- a State that may be kept: in range, its row in order -/
abbrev OKS (W : xM) : Prop := VOK W ∧ Srt W (W 10) (W 0 10).toNat
theorem nxH_ok {V : xM} {Hs : List xM} {r : Int × Option xM} (hV : OKS V) (hH : ∀ W ∈ Hs, OKS W) : ∀ W ∈ nxH V Hs r, OKS W := by
  unfold nxH
  split
  · exact hH
  · intro W hW
    rcases List.mem_cons.mp (List.mem_of_mem_take hW) with rfl | h
    · exact hV
    · exact hH W h
theorem mrel_seq {N : Nat → Int} {V W : xM} (h : seq V W) (hm : mrel N W) : mrel N V := by
  obtain ⟨⟨e1, e2, e3⟩, h2, h3⟩ := h
  obtain ⟨⟨m1, m2, m3⟩, g2, g3⟩ := hm
  refine ⟨⟨m1.trans e2.symm, m2.trans e3.symm, m3.trans e1.symm⟩, fun s hs => ⟨(g2 s hs).1.trans (h2 s hs).1.symm, (g2 s hs).2.trans (h2 s hs).2.symm⟩, fun i hi => ?_⟩
  have hi2 : (i : Int) < W 0 10 := by omega
  obtain ⟨a1, a2, a3, a4, a5, a6⟩ := h3 i hi2
  obtain ⟨b1, b2, b3, b4, b5⟩ := g3 i hi2
  exact ⟨by rw [b1, a1, a6], b2.trans a2.symm, b3.trans a3.symm, b4.trans a4.symm, b5.trans a5.symm⟩
theorem rk_seq {M V W : xM} (h : seq V W) (hv : VOK W) (hr : Rk M W) : Rk M V := by
  rcases hr with hr | ⟨h1, h2⟩
  · exact Or.inl hr
  · refine Or.inr ⟨h1, ?_⟩
    rw [h.1.1]
    exact srt_seq h (by have := hv.1.1; omega) h2
theorem oks_seq {V W : xM} {R : Nat → Int} (h : seq V W) (hv : VOK W) (hR : V 10 = R) (hs : Srt W R (W 0 10).toNat) : OKS V := by
  refine ⟨seq_ok h hv, ?_⟩
  rw [h.1.1, hR]
  exact srt_seq h (by have := hv.1.1; omega) hs
theorem oks_seqr {V W : xM} (h : seqr V W) (hv : OKS W) : OKS V := by
  refine ⟨seq_ok h.1 hv.1, ?_⟩
  rw [h.1.1.1]
  have hb := hv.1.1.1
  refine srt_cg (R := W 10) (fun p hp => h.2 p (by omega)) (srt_seq h.1 (by omega) hv.2)
/-- the kept shelves, of both -/
def Kep (M : xM) (Ws : Nat → xM) (kp : Int) : Prop := M 0 7 = kp ∧ (0 ≤ kp ∧ kp ≤ 3) ∧ ∀ s : Nat, s < 2 → M 199 s = b2i (bit kp s) ∧ (bit kp s → shw M (169 + 13 * s) (Ws s) ∧ OKS (Ws s) ∧ mrel (fun k => M 198 (511 * s + k)) (Ws s))
def Tap (M : xM) (bt : Int → Int) (len : Int) : Prop := TB bt len ∧ TM M bt len ∧ TMm M bt len
/-- the reference's own part -/
def Ref (M V : xM) (Hs : List xM) : Prop := mrel (M 196) V ∧ Rk M V ∧ mhst M Hs
def Cls (M V : xM) (Hs : List xM) : Prop := OKS V ∧ shw M 1 V ∧ Hst M Hs ∧ ∀ W ∈ Hs, OKS W
/-- what both are, over one value -/
def Inv (M V : xM) (Hs : List xM) (Ws : Nat → xM) (kp : Int) (bt : Int → Int) (len : Int) : Prop := Cls M V Hs ∧ Ref M V Hs ∧ Kep M Ws kp ∧ Tap M bt len
def Both (M : xM) : Prop := ∃ V Hs Ws kp bt len, Inv M V Hs Ws kp bt len
theorem kep_cg {M M2 : xM} {Ws : Nat → xM} {kp : Int} (h : Kep M Ws kp) (e0 : M2 0 = M 0) (e1 : ∀ q, 169 ≤ q → q < 195 → M2 q = M q) (e2 : M2 198 = M 198) (e3 : M2 199 = M 199) : Kep M2 Ws kp := by
  obtain ⟨h1, h2, h3⟩ := h
  refine ⟨by rw [e0]; exact h1, h2, fun s hs => ?_⟩
  rw [e2, e3]
  refine ⟨(h3 s hs).1, fun hb => ?_⟩
  obtain ⟨g1, g2, g3⟩ := (h3 s hs).2 hb
  exact ⟨shw_fr g1 (fun k hk _ _ => e1 _ (by omega) (by omega)), g2, g3⟩
theorem tap_cg {M M2 : xM} {bt : Int → Int} {len : Int} (h : Tap M bt len) (e0 : M2 146 = M 146) (e1 : M2 147 = M 147) (e2 : M2 195 18 = M 195 18) (e3 : M2 207 = M 207) : Tap M2 bt len := by
  refine ⟨h.1, ?_, tmm_cg h.2.2 e2 e3⟩
  unfold TM; rw [e0, e1]; exact h.2.1
theorem ref_cg {M M2 V : xM} {Hs : List xM} (h : Ref M V Hs) (e : ∀ q, 195 ≤ q → M2 q = M q) : Ref M2 V Hs := ⟨by rw [e 196 (by decide)]; exact h.1, rk_cg h.2.1 (by rw [e 195 (by decide)]) (e 203 (by decide)), mh_cg h.2.2 (by rw [e 195 (by decide)]) (e 197 (by decide))⟩
theorem cls_cg {M M2 V : xM} {Hs : List xM} (h : Cls M V Hs) (e1 : ∀ q, (1 ≤ q ∧ q < 146 ∧ q ≠ 3 ∧ q ≠ 4) → M2 q = M q) : Cls M2 V Hs := ⟨h.1, shw_fr h.2.1 (fun k hk _ _ => e1 _ (by omega)), hst_fr h.2.2.1 (e1 14 (by decide)) (fun q _ _ => e1 q (by omega)), h.2.2.2⟩
/-- after a question to both -/
theorem inv_q {M M1 M2 V : xM} {Hs : List xM} {Ws : Nat → xM} {kp : Int} {bt : Int → Int} {len : Int} (h : Inv M V Hs Ws kp bt len) (h1 : xof [3, 4, 162, 163, 164, 165, 166, 167, 168] M M1) (h2 : mfr M1 M2) (hR : Rk M2 V) : Both M2 := by
  obtain ⟨hc, hr, hk, ht⟩ := h
  have e : ∀ q, ¬ q ∈ [3, 4, 162, 163, 164, 165, 166, 167, 168] → (q < 195 ∨ (196 ≤ q ∧ q < 200) ∨ 207 ≤ q) → M2 q = M q := fun q hq hq2 => (h2.1 q hq2).trans (h1 q hq)
  have e5 : M1 195 = M 195 := h1 195 (by decide)
  refine ⟨V, Hs, Ws, kp, bt, len, cls_cg hc (fun q hq => e q (by simp; omega) (by omega)), ⟨?_, hR, mh_cg hr.2.2 (by rw [h2.2.1, e5]) (e 197 (by decide) (by decide))⟩, kep_cg hk (e 0 (by decide) (by decide)) (fun q g1 g2 => e q (by simp; omega) (by omega)) (e 198 (by decide) (by decide)) (e 199 (by decide) (by decide)), tap_cg ht (e 146 (by decide) (by decide)) (e 147 (by decide) (by decide)) (by rw [h2.2.2, e5]) (e 207 (by decide) (by decide))⟩
  rw [e 196 (by decide) (by decide)]
  exact hr.1
theorem xof_w {X Y : List Nat} {M M2 : xM} (h : xof X M M2) (hXY : ∀ q ∈ X, q ∈ Y) : xof Y M M2 := fun q hq => h q (fun g => hq (hXY q g))
/-- after an act of both -/
theorem inv_a {M M1 M2 V V' : xM} {Hs Hs' : List xM} {Ws : Nat → xM} {kp : Int} {bt : Int → Int} {len : Int} (h : Inv M V Hs Ws kp bt len) (hf : Fin1 M1 V' Hs') (ha : afr M M1) (hv : VOK V') (hH : ∀ W ∈ Hs', OKS W) (hm : mrel (M2 196) V') (hh : mhst M2 Hs') (hR : Rk M2 V') (hma : mafr M1 M2) : Both M2 := by
  obtain ⟨hc, hr, hk, ht⟩ := h
  have e : ∀ q, (q = 0 ∨ (146 ≤ q ∧ q < 162) ∨ 168 ≤ q) → (q < 195 ∨ q = 198 ∨ q = 199 ∨ 207 ≤ q) → M2 q = M q := fun q hq hq2 => (hma.1 q hq2).trans (ha q hq)
  have e5 : M1 195 = M 195 := ha 195 (by decide)
  have es : seq (vw M2 1) V' := by
    have : ∀ k, k < 13 → vw M2 1 k = vw M1 1 k := fun k hk => hma.1 (1 + k) (by omega)
    refine ⟨?_, fun s hs => ?_, fun i hi => ?_⟩
    · rw [this 0 (by decide)]; exact hf.1.1
    · rw [this 11 (by decide), this 12 (by decide)]; exact hf.1.2.1 s hs
    · rw [this 4 (by decide), this 5 (by decide), this 6 (by decide), this 7 (by decide), this 8 (by decide), this 9 (by decide)]; exact hf.1.2.2 i hi
  refine ⟨vw M2 1, Hs', Ws, kp, bt, len, ⟨oks_seq es hv (R := M1 (1 + 10)) (hma.1 11 (by decide)) hf.2.1, shw_self M2 1, hst_fr hf.2.2 (hma.1 14 (by decide)) (fun q _ _ => hma.1 q (by omega)), hH⟩, ⟨mrel_seq es hm, rk_seq es hv hR, hh⟩, kep_cg hk (e 0 (by decide) (by decide)) (fun q g1 g2 => e q (by omega) (by omega)) (e 198 (by decide) (by decide)) (e 199 (by decide) (by decide)), tap_cg ht (e 146 (by decide) (by decide)) (e 147 (by decide) (by decide)) (by rw [hma.2, e5]) (e 207 (by decide) (by decide))⟩
theorem one_needs {V : xM} {a b z y : Int} (h : qNeeds V a b z) (g : qNeeds V a b y) : z = y := by
  rcases h with ⟨h1, h2, h3⟩ | ⟨h1, h2⟩ <;> rcases g with ⟨g1, g2, g3⟩ | ⟨g1, g2⟩
  · exact lea_one h3 g3
  · exact absurd ⟨h1, h2⟩ g1
  · exact absurd ⟨g1, g2⟩ h1
  · rw [h2, g2]
theorem one_heavy {V : xM} {a b z y : Int} (h : qHeavy V a b z) (g : qHeavy V a b y) : z = y := by
  rcases h with ⟨h1, h2, h3⟩ | ⟨h1, h2⟩ <;> rcases g with ⟨g1, g2, g3⟩ | ⟨g1, g2⟩
  · exact lea_one h3 g3
  · exact absurd ⟨h1, h2⟩ g1
  · exact absurd ⟨g1, g2⟩ h1
  · rw [h2, g2]
theorem one_skip {V : xM} {a b z y : Int} (h : qSkip V a b z) (g : qSkip V a b y) : z = y := by
  rcases h with ⟨h1, h2, h3⟩ | ⟨h1, h2⟩ <;> rcases g with ⟨g1, g2, g3⟩ | ⟨g1, g2⟩
  · exact lea_one h3 g3
  · exact absurd ⟨h1, h2⟩ g1
  · exact absurd ⟨g1, g2⟩ h1
  · rw [h2, g2]
theorem one_lots {V : xM} {a b z y : Int} (h : qLots V a b z) (g : qLots V a b y) : z = y := by
  rcases h with ⟨h1, h2, h3⟩ | ⟨h1, h2⟩ <;> rcases g with ⟨g1, g2, g3⟩ | ⟨g1, g2⟩
  · rcases h3 with ⟨h3, h4⟩ | ⟨h3, h4⟩ <;> rcases g3 with ⟨g3, g4⟩ | ⟨g3, g4⟩
    · rw [h4, g4]
    · exact absurd g3 h3
    · exact absurd h3 g3
    · have := cut_one h4 g4; omega
  · exact absurd ⟨h1, h2⟩ g1
  · exact absurd ⟨g1, g2⟩ h1
  · rw [h2, g2]
theorem one_part {V : xM} {a b z y : Int} (h : qPart V a b z) (g : qPart V a b y) : z = y := by
  rcases h with ⟨h1, h2, h3⟩ | ⟨h1, h2⟩ <;> rcases g with ⟨g1, g2, g3⟩ | ⟨g1, g2⟩
  · exact cut_one h3 g3
  · exact absurd ⟨h1, h2⟩ g1
  · exact absurd ⟨g1, g2⟩ h1
  · rw [h2, g2]
theorem one_sfk {V : xM} {a b z y : Int} (h : qSfk V a b z) (g : qSfk V a b y) : z = y := by
  rcases h with ⟨h1, h2, h3⟩ | ⟨h1, h2⟩ <;> rcases g with ⟨g1, g2, g3⟩ | ⟨g1, g2⟩
  · exact lea_one h3 g3
  · exact absurd ⟨h1, h2⟩ g1
  · exact absurd ⟨g1, g2⟩ h1
  · rw [h2, g2]
theorem one_shared {V : xM} {a b z y : Int} (h : qShared V a b z) (g : qShared V a b y) : z = y := by
  rcases h with ⟨h1, h2, h3⟩ | ⟨h1, h2⟩ <;> rcases g with ⟨g1, g2, g3⟩ | ⟨g1, g2⟩
  · exact bits_one h3 g3
  · exact absurd ⟨h1, h2⟩ g1
  · exact absurd ⟨g1, g2⟩ h1
  · rw [h2, g2]
theorem one_weightFor {V : xM} {a z y : Int} (h : qWeightFor V a z) (g : qWeightFor V a y) : z = y := by
  rcases h with ⟨h1, h2⟩ | ⟨h1, h2, h3⟩ | ⟨h1, h2, h3⟩ <;> rcases g with ⟨g1, g2⟩ | ⟨g1, g2, g3⟩ | ⟨g1, g2, g3⟩ <;> first | exact absurd h1 g1 | exact absurd g1 h1 | exact absurd h2 g2 | exact absurd g2 h2 | exact lea_one h3 g3 | omega
theorem one_windowFor {V : xM} {a z y : Int} (h : qWindowFor V a z) (g : qWindowFor V a y) : z = y := by
  rcases h with ⟨h1, h2⟩ | ⟨h1, h2, h3⟩ | ⟨h1, h2, h3⟩ <;> rcases g with ⟨g1, g2⟩ | ⟨g1, g2, g3⟩ | ⟨g1, g2, g3⟩ <;> first | exact absurd h1 g1 | exact absurd g1 h1 | exact absurd h2 g2 | exact absurd g2 h2 | exact gre_one h3 g3 | omega
theorem one_enters {V : xM} {a z y : Int} (h : qEnters V a z) (g : qEnters V a y) : z = y := by
  rcases h with ⟨h1, h2⟩ | ⟨h1, h2, h3⟩ | ⟨h1, h2, h3⟩ <;> rcases g with ⟨g1, g2⟩ | ⟨g1, g2, g3⟩ | ⟨g1, g2, g3⟩ <;> first | exact absurd h1 g1 | exact absurd g1 h1 | exact absurd h2 g2 | exact absurd g2 h2 | exact lea_one h3 g3 | omega
theorem one_outBy {V : xM} {a z y : Int} (h : qOutBy V a z) (g : qOutBy V a y) : z = y := by
  rcases h with ⟨h1, h2⟩ | ⟨h1, h2, h3⟩ | ⟨h1, h2, h3⟩ <;> rcases g with ⟨g1, g2⟩ | ⟨g1, g2, g3⟩ | ⟨g1, g2, g3⟩ <;> first | exact absurd h1 g1 | exact absurd g1 h1 | exact absurd h2 g2 | exact absurd g2 h2 | exact lea_one h3 g3 | omega
theorem one_changes {V : xM} {a z y : Int} (h : qChanges V a z) (g : qChanges V a y) : z = y := by
  rcases h with ⟨h1, h2⟩ | ⟨h1, h2, h3⟩ | ⟨h1, h2, ⟨j, h3, h4⟩, h5⟩ <;> rcases g with ⟨g1, g2⟩ | ⟨g1, g2, g3⟩ | ⟨g1, g2, ⟨k, g3, g4⟩, g5⟩
  · omega
  · exact absurd g1 h1
  · exact absurd g1 h1
  · exact absurd h1 g1
  · omega
  · rcases h2 with h2 | h2
    · exact absurd h2 g2
    · have e := List.length_eq_zero_iff.mp h2
      rw [e] at g3
      exact absurd g3 List.not_mem_nil
  · exact absurd h1 g1
  · rcases g2 with g2 | g2
    · exact absurd g2 h2
    · have e := List.length_eq_zero_iff.mp g2
      rw [e] at h3
      exact absurd h3 List.not_mem_nil
  · have a := h5 k g3
    have b := g5 j h3
    omega
theorem one_mode {V : xM} {a z y : Int} (h : qMode V a z) (g : qMode V a y) : z = y := by
  rcases h with ⟨h1, h2⟩ | ⟨h1, h2, h3⟩ | ⟨h1, h2, h3, h4, h5⟩ <;> rcases g with ⟨g1, g2⟩ | ⟨g1, g2, g3⟩ | ⟨g1, g2, g3, g4, g5⟩
  · omega
  · exact absurd g1 h1
  · exact absurd g1 h1
  · exact absurd h1 g1
  · omega
  · have a := h3 y.toNat (by omega)
    rw [show ((y.toNat : Nat) : Int) = y by omega] at a
    omega
  · exact absurd h1 g1
  · have a := g3 z.toNat (by omega)
    rw [show ((z.toNat : Nat) : Int) = z by omega] at a
    omega
  · have a1 := h4 y.toNat (by omega)
    have a2 := g4 z.toNat (by omega)
    rw [show ((y.toNat : Nat) : Int) = y by omega] at a1
    rw [show ((z.toNat : Nat) : Int) = z by omega] at a2
    rcases Int.lt_trichotomy z y with c | c | c
    · have b := g5 z.toNat (by omega)
      rw [show ((z.toNat : Nat) : Int) = z by omega] at b
      omega
    · exact c
    · have b := h5 y.toNat (by omega)
      rw [show ((y.toNat : Nat) : Int) = y by omega] at b
      omega
