abbrev Fin1 (M : xM) (V : xM) (Hs : List xM) : Prop := seq (vw M 1) V ∧ Srt V (M (1 + 10)) (V 0 10).toNat ∧ Hst M Hs
abbrev afr (M M2 : xM) : Prop := ∀ q, q = 0 ∨ (146 ≤ q ∧ q < 162) ∨ 168 ≤ q → M2 q = M q
def nxV (V : xM) (r : Int × Option xM) : xM := r.2.getD V
def nxH (V : xM) (Hs : List xM) (r : Int × Option xM) : List xM := match r.2 with
  | none => Hs
  | some _ => (V :: Hs).take 10
theorem fin_same {M V : xM} {Hs : List xM} (h : shw M 1 V) (hs : Srt V (V 10) (V 0 10).toNat) (hh : Hst M Hs) : Fin1 M V Hs := ⟨(shw_seqr h).1, by rw [h 10 (by decide) (by decide) (by decide)]; exact hs, hh⟩
theorem fin_rank {M M2 V : xM} {Hs : List xM} (h : shw M 1 V) (hx : xof [1 + 2, 1 + 3, 1 + 10] M M2) (hs : Srt V (M2 (1 + 10)) (V 0 10).toNat) (hh : Hst M2 Hs) : Fin1 M2 V Hs := by
  have e : ∀ k, k < 13 → k ≠ 2 → k ≠ 3 → k ≠ 10 → vw M2 1 k = V k := fun k g1 g2 g3 g4 => by
    show M2 (1 + k) = V k
    rw [hx _ (by simp; omega)]; exact h k g1 g2 g3
  refine ⟨⟨?_, fun s _ => ?_, fun i _ => ?_⟩, hs, hh⟩
  · rw [e 0 (by decide) (by decide) (by decide) (by decide)]; exact ⟨rfl, rfl, rfl⟩
  · rw [e 11 (by decide) (by decide) (by decide) (by decide), e 12 (by decide) (by decide) (by decide) (by decide)]; exact ⟨rfl, rfl⟩
  · rw [e 4 (by decide) (by decide) (by decide) (by decide), e 5 (by decide) (by decide) (by decide) (by decide), e 6 (by decide) (by decide) (by decide) (by decide), e 7 (by decide) (by decide) (by decide) (by decide), e 8 (by decide) (by decide) (by decide) (by decide), e 9 (by decide) (by decide) (by decide) (by decide)]
    exact ⟨rfl, rfl, rfl, rfl, rfl, rfl⟩
theorem hst_fr {M M2 : xM} {Hs : List xM} (h : Hst M Hs) (h1 : M2 14 = M 14) (h2 : ∀ q, 16 ≤ q → q < 146 → M2 q = M q) : Hst M2 Hs := by
  obtain ⟨g1, g2, g3, g4⟩ := h
  have er : ∀ j, hrow M2 j = hrow M j := fun j => by unfold hrow; rw [h1]
  refine ⟨by rw [h1]; exact g1, by rw [h1]; exact g2, g3, fun j hj => ?_⟩
  rw [er]
  have hb : hrow M j < 10 := by unfold hrow; omega
  exact vw_cg (fun k hk => h2 _ (by omega) (by omega)) (g4 j hj)
theorem hst_st {M : xM} {Hs : List xM} {r j : Nat} {z : Int} (h : Hst M Hs) (hr : r ≠ 14 ∧ (r < 16 ∨ 146 ≤ r)) : Hst (xst M r j z) Hs := hst_fr h (xst_row (by omega)) fun q _ _ => xst_row (by omega)
theorem afr_refl (M : xM) : afr M M := fun _ _ => rfl
theorem afr_trans {M M1 M2 : xM} (h : afr M M1) (h2 : afr M1 M2) : afr M M2 := fun q hq => (h2 q hq).trans (h q hq)
theorem afr_st {M M1 : xM} {r j : Nat} {z : Int} (h : afr M M1) (hr : 1 ≤ r ∧ (r < 146 ∨ (162 ≤ r ∧ r < 168))) : afr M (xst M1 r j z) := fun q hq => (xst_row (by omega)).trans (h q hq)
theorem ok_item {V : xM} {fd i : Nat} {z : Int} (hv : VOK V) (hfd : fd = 4 ∨ fd = 5 ∨ fd = 6 ∨ fd = 7 ∨ fd = 9) (h : (i : Int) < V 0 10 → itm (xst V fd i z) i) : VOK (xst V fd i z) := by
  have e0 : xst V fd i z 0 = V 0 := xst_row (by omega)
  have e8 : xst V fd i z 8 = V 8 := xst_row (by omega)
  have e11 : xst V fd i z 11 = V 11 := xst_row (by omega)
  have e12 : xst V fd i z 12 = V 12 := xst_row (by omega)
  refine ⟨by unfold scl; rw [e0]; exact hv.1, fun s hs => by unfold swd; rw [e11, e12]; exact hv.2.1 s hs, fun j hj => ?_, fun a b hab hb => by rw [e8]; rw [e0] at hb; exact hv.2.2.2 a b hab hb⟩
  rw [e0] at hj
  by_cases e : j = i
  · subst e; exact h hj
  · have hj2 := hv.2.2.1 j hj
    have g : ∀ q, xst V fd i z q j = V q j := fun q => xst_nq (Or.inr e)
    unfold itm
    rw [g 4, g 5, g 6, g 7, g 8, g 9, e0]
    exact hj2
theorem ok_size {V : xM} {s : Nat} {z : Int} (hv : VOK V) (h : 1 ≤ z ∧ z ≤ 12) : VOK (xst V 11 s z) := by
  refine ⟨hv.1, fun q hq => ?_, hv.2.2.1, hv.2.2.2⟩
  have := hv.2.1 q hq
  unfold swd
  rw [xst_row (show 12 ≠ 11 by decide), xst_eq]
  split
  · exact ⟨h, this.2⟩
  · exact this
theorem ok_wind {V : xM} {s : Nat} {z : Int} (hv : VOK V) (h : 0 ≤ z ∧ z ≤ 9999) : VOK (xst V 12 s z) := by
  refine ⟨hv.1, fun q hq => ?_, hv.2.2.1, hv.2.2.2⟩
  have := hv.2.1 q hq
  unfold swd
  rw [xst_row (show 11 ≠ 12 by decide), xst_eq]
  split
  · exact ⟨this.1, h⟩
  · exact this
theorem ok_seed {V : xM} {z : Int} (hv : VOK V) (h : 0 ≤ z ∧ z ≤ 65535) : VOK (xst V 0 12 z) := ⟨⟨hv.1.1, hv.1.2.1, h⟩, hv.2.1, hv.2.2.1, hv.2.2.2⟩
theorem ok_tick {V : xM} {z : Int} (hv : VOK V) (h : V 0 11 ≤ z ∧ z ≤ 99999) : VOK (xst V 0 11 z) := by
  refine ⟨⟨hv.1.1, ⟨?_, h.2⟩, hv.1.2.2⟩, hv.2.1, fun i hi => ?_, hv.2.2.2⟩
  · have := hv.1.2.1
    show 0 ≤ z
    omega
  · have g := hv.2.2.1 i hi
    have e : xst V 0 11 z 0 11 = z := xst_same ..
    unfold itm
    rw [e]
    refine ⟨g.1, g.2.1, g.2.2.1, g.2.2.2.1, ⟨g.2.2.2.2.1.1, ?_⟩, g.2.2.2.2.2⟩
    have := g.2.2.2.2.1.2
    show V 8 i ≤ z
    omega
/-- one field of all items below k of which a thing holds -/
def mpk (V : xM) (fd k : Nat) (P : Nat → Prop) [DecidablePred P] (f : Nat → Int) : xM := fun q => if q = fd then (fun j => if j < k ∧ P j then f j else V q j) else V q
theorem mpk_row {V : xM} {fd k q : Nat} {P : Nat → Prop} [DecidablePred P] {f : Nat → Int} (h : q ≠ fd) : mpk V fd k P f q = V q := if_neg h
theorem mpk_at {V : xM} {fd k q j : Nat} {P : Nat → Prop} [DecidablePred P] {f : Nat → Int} (h : k ≤ j) : mpk V fd k P f q j = V q j := by
  unfold mpk
  by_cases e : q = fd
  · rw [if_pos e, if_neg (by omega)]
  · rw [if_neg e]
theorem mpk_0 {V : xM} {fd : Nat} {P : Nat → Prop} [DecidablePred P] {f : Nat → Int} : mpk V fd 0 P f = V := by
  funext q
  unfold mpk
  split
  · funext j; rw [if_neg (by omega)]
  · rfl
theorem mpk_y {V : xM} {fd k : Nat} {P : Nat → Prop} [DecidablePred P] {f : Nat → Int} (h : P k) : xst (mpk V fd k P f) fd k (f k) = mpk V fd (k + 1) P f := by
  funext q j
  rw [xst_eq]
  unfold mpk
  by_cases e : q = fd
  · rw [if_pos e, if_pos e]
    by_cases e2 : j = k
    · rw [if_pos ⟨e, e2⟩, if_pos ⟨by omega, by rw [e2]; exact h⟩, e2]
    · rw [if_neg (fun g => e2 g.2)]
      by_cases e3 : j < k ∧ P j
      · rw [if_pos e3, if_pos ⟨by omega, e3.2⟩]
      · rw [if_neg e3, if_neg (fun g => e3 ⟨by omega, g.2⟩)]
  · rw [if_neg (fun g => e g.1), if_neg e, if_neg e]
theorem mpk_n {V : xM} {fd k : Nat} {P : Nat → Prop} [DecidablePred P] {f : Nat → Int} (h : ¬ P k) : mpk V fd k P f = mpk V fd (k + 1) P f := by
  funext q
  unfold mpk
  by_cases e : q = fd
  · rw [if_pos e, if_pos e]
    funext j
    by_cases e3 : j < k ∧ P j
    · rw [if_pos e3, if_pos ⟨by omega, e3.2⟩]
    · rw [if_neg e3, if_neg (fun g => e3 ⟨by
        rcases Nat.lt_or_ge j k with c | c
        · exact c
        · exact absurd (show P k by rw [show k = j by omega]; exact g.2) h, g.2⟩)]
  · rw [if_neg e, if_neg e]
theorem mpk_ok {V : xM} {fd k : Nat} {P : Nat → Prop} [DecidablePred P] {f : Nat → Int} (hv : VOK V) (hfd : fd = 4 ∨ fd = 5 ∨ fd = 6 ∨ fd = 7 ∨ fd = 9) (h : ∀ j : Nat, (j : Int) < V 0 10 → itm (xst V fd j (f j)) j) : VOK (mpk V fd k P f) := by
  have e0 : mpk V fd k P f 0 = V 0 := mpk_row (by omega)
  have e8 : mpk V fd k P f 8 = V 8 := mpk_row (by omega)
  have e11 : mpk V fd k P f 11 = V 11 := mpk_row (by omega)
  have e12 : mpk V fd k P f 12 = V 12 := mpk_row (by omega)
  refine ⟨by unfold scl; rw [e0]; exact hv.1, fun s hs => by unfold swd; rw [e11, e12]; exact hv.2.1 s hs, fun j hj => ?_, fun a b hab hb => by rw [e8]; rw [e0] at hb; exact hv.2.2.2 a b hab hb⟩
  rw [e0] at hj
  by_cases e : j < k ∧ P j
  · have g : ∀ q, mpk V fd k P f q j = xst V fd j (f j) q j := fun q => by
      rw [xst_eq]; unfold mpk
      by_cases e2 : q = fd
      · rw [if_pos e2, if_pos e, if_pos ⟨e2, rfl⟩]
      · rw [if_neg e2, if_neg (fun g => e2 g.1)]
    have h2 := h j hj
    have e3 : xst V fd j (f j) 0 = V 0 := xst_row (by omega)
    unfold itm at h2 ⊢
    rw [g 4, g 5, g 6, g 7, g 8, g 9, e0]
    rw [e3] at h2
    exact h2
  · have g : ∀ q, mpk V fd k P f q j = V q j := fun q => by
      unfold mpk
      by_cases e2 : q = fd
      · rw [if_pos e2, if_neg e]
      · rw [if_neg e2]
    have h2 := hv.2.2.1 j hj
    unfold itm
    rw [g 4, g 5, g 6, g 7, g 8, g 9, e0]
    exact h2
abbrev okB (lab : Int) : Prop := 0 ≤ lab ∧ lab ≤ 25
abbrev isT (V : xM) (i : Int) : Prop := isI V i ∧ V 9 i.toNat = 0
def aPut (V : xM) (sh lab w lo : Int) : Int × Option xM := if okS sh ∧ okB lab ∧ okW w ∧ okL lo then (if 100 ≤ V 0 10 then (-2, none) else (V 0 10, some (addV V sh lab w lo))) else (-1, none)
abbrev sdV (V : xM) : xM := xst V 0 12 (drw (V 0 12))
def aCome (V : xM) (sh lab w : Int) : Int × Option xM := if okS sh ∧ okB lab ∧ okW w then (if 100 ≤ V 0 10 then (-2, none) else (V 0 10, some (addV (sdV V) sh lab w (drw (V 0 12) / 64)))) else (-1, none)
def aPass (V : xM) (t : Int) : Int × Option xM := if 1 ≤ t ∧ t ≤ 9999 then (if 99999 < V 0 11 + t then (-2, none) else (V 0 11 + t, some (xst V 0 11 (V 0 11 + t)))) else (-1, none)
def aSize (V : xM) (sh m : Int) : Int × Option xM := if okS sh ∧ 1 ≤ m ∧ m ≤ 12 then (if V 11 sh.toNat = m then (-2, none) else (V 11 sh.toNat, some (xst V 11 sh.toNat m))) else (-1, none)
def aWind (V : xM) (sh m : Int) : Int × Option xM := if okS sh ∧ 0 ≤ m ∧ m ≤ 9999 then (if V 12 sh.toNat = m then (-2, none) else (V 12 sh.toNat, some (xst V 12 sh.toNat m))) else (-1, none)
def aWeigh (V : xM) (i w : Int) : Int × Option xM := if isT V i ∧ okW w then (if V 6 i.toNat = w then (-2, none) else (V 6 i.toNat, some (xst V 6 i.toNat w))) else (-1, none)
def aAgain (V : xM) (i : Int) : Int × Option xM := if isT V i then (drw (V 0 12) / 64, some (xst (sdV V) 7 i.toNat (drw (V 0 12) / 64))) else (-1, none)
def aDrop (V : xM) (i : Int) : Int × Option xM := if isT V i then (cntU (xst V 9 i.toNat 1) (V 4 i.toNat) (-1), some (xst V 9 i.toNat 1)) else (-1, none)
def aMove (V : xM) (i sh : Int) : Int × Option xM := if isT V i ∧ okS sh then (if V 4 i.toNat = sh then (-2, none) else (V 4 i.toNat, some (xst V 4 i.toNat sh))) else (-1, none)
def aMvA (V : xM) (fr lab to : Int) : Int × Option xM := if cntU V fr lab = 0 then (-2, none) else (cntU V fr lab, some (mpk V 4 (V 0 10).toNat (fun j => und V j fr lab) (fun _ => to)))
def aMerge (V : xM) (fr to : Int) : Int × Option xM := if okS fr ∧ okS to ∧ fr ≠ to then aMvA V fr (-1) to else (-1, none)
def aSplit (V : xM) (fr lab to : Int) : Int × Option xM := if okS fr ∧ okB lab ∧ okS to ∧ fr ≠ to then aMvA V fr lab to else (-1, none)
def aRen (V : xM) (lab ot : Int) : Int × Option xM := if okB lab ∧ okB ot ∧ lab ≠ ot then (if cntU V (-1) lab = 0 then (-2, none) else (cntU V (-1) lab, some (mpk V 5 (V 0 10).toNat (fun j => und V j (-1) lab) (fun _ => ot)))) else (-1, none)
def aThin (V : xM) (sh : Int) : Int × Option xM := if okS sh then (if cntU V sh (-1) - (smL V sh).length = 0 then (-2, none) else (cntU V sh (-1) - (smL V sh).length, some (mpk V 9 (V 0 10).toNat (fun j => und V j sh (-1) ∧ j ∉ smL V sh) (fun _ => 1)))) else (-1, none)
def aSwap (V : xM) (i j : Int) : Int × Option xM := if isT V i ∧ isT V j ∧ i ≠ j then (if V 7 i.toNat = V 7 j.toNat then (-2, none) else (1, some (xst (xst V 7 i.toNat (V 7 j.toNat)) 7 j.toNat (V 7 i.toNat)))) else (-1, none)
def wAC (V : xM) (sh : Int) : Int := fb_si (fun j => b2i (und V j sh (-1) ∧ V 6 j < 20)) (V 0 10).toNat
def aWAll (V : xM) (sh m : Int) : Int × Option xM := if okS sh ∧ 2 ≤ m ∧ m ≤ 20 then (if wAC V sh = 0 then (-2, none) else (wAC V sh, some (mpk V 6 (V 0 10).toNat (fun j => und V j sh (-1)) (fun j => if 20 < V 6 j * m then 20 else V 6 j * m)))) else (-1, none)
def aPurge (V : xM) : Int × Option xM := if cntU V (-1) (-1) - cntA V (-1) (-1) = 0 then (-2, none) else (cntU V (-1) (-1) - cntA V (-1) (-1), some (mpk V 9 (V 0 10).toNat (fun j => ¬ alv V j (V 0 11)) (fun _ => 1)))
def aSeed (V : xM) (m : Int) : Int × Option xM := if 0 ≤ m ∧ m ≤ 65535 then (if V 0 12 = m then (-2, none) else (V 0 12, some (xst V 0 12 m))) else (-1, none)
