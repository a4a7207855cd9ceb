abbrev dgt (c : Int) : Prop := 48 ≤ c ∧ c ≤ 57
abbrev ltr (c : Int) : Prop := 97 ≤ c ∧ c ≤ 122
abbrev Run (P : Int → Prop) (a e : Int) : Prop := a ≤ e ∧ (∀ k, a ≤ k → k < e → P k) ∧ ¬ P e
theorem run_one {P : Int → Prop} {a e e2 : Int} (h : Run P a e) (h2 : Run P a e2) : e = e2 := by
  rcases Int.lt_trichotomy e e2 with g | g | g
  · exact absurd (h2.2.1 e h.1 g) h.2.2
  · exact g
  · exact absurd (h.2.1 e2 h2.1 g) h2.2.2
noncomputable def runE (P : Int → Prop) (a : Int) : Int := Classical.epsilon fun e => Run P a e
theorem runE_eq {P : Int → Prop} {a e : Int} (h : Run P a e) : runE P a = e := run_one (Classical.epsilon_spec (p := fun e => Run P a e) ⟨e, h⟩) h
theorem run_ex {P : Int → Prop} (hd : ∀ k, P k ∨ ¬ P k) {a n : Int} (ha : a ≤ n) (hn : ¬ P n) : ∃ e, Run P a e ∧ e ≤ n := by
  obtain ⟨d, hd9⟩ : ∃ d : Nat, (n - a).toNat = d := ⟨_, rfl⟩
  induction d generalizing a with
  | zero => exact ⟨a, ⟨Int.le_refl _, fun k h1 h2 => by omega, by rw [show a = n by omega]; exact hn⟩, ha⟩
  | succ d ih =>
    rcases hd a with g | g
    · obtain ⟨e, ⟨h1, h2, h3⟩, h4⟩ := ih (a := a + 1) (by omega) (by omega)
      exact ⟨e, ⟨by omega, fun k k1 k2 => by
        rcases Int.lt_or_le a k with b | b
        · exact h2 k (by omega) k2
        · rw [show k = a by omega]; exact g, h3⟩, h4⟩
    · exact ⟨a, ⟨Int.le_refl _, fun k h1 h2 => by omega, g⟩, ha⟩
/-- a tape: its bytes, -1 behind its end -/
abbrev TB (bt : Int → Int) (len : Int) : Prop := (0 ≤ len ∧ len ≤ 400) ∧ (∀ k, 0 ≤ k → k < len → 0 ≤ bt k ∧ bt k ≤ 255) ∧ ∀ k, len ≤ k → bt k = -1
noncomputable def skp (bt : Int → Int) (a : Int) : Int := runE (fun k => bt k = 32) a
noncomputable def dge (bt : Int → Int) (a : Int) : Int := runE (fun k => dgt (bt k)) a
theorem skp_run {bt : Int → Int} {len a : Int} (h : TB bt len) (ha : a ≤ len) : Run (fun k => bt k = 32) a (skp bt a) ∧ skp bt a ≤ len := by
  obtain ⟨e, h1, h2⟩ := run_ex (P := fun k => bt k = 32) (fun k => Decidable.em _) ha (by show ¬ bt len = 32; rw [h.2.2 len (Int.le_refl _)]; decide)
  have := runE_eq h1
  unfold skp
  rw [this]
  exact ⟨h1, h2⟩
theorem dge_run {bt : Int → Int} {len a : Int} (h : TB bt len) (ha : a ≤ len) : Run (fun k => dgt (bt k)) a (dge bt a) ∧ dge bt a ≤ len := by
  obtain ⟨e, h1, h2⟩ := run_ex (P := fun k => dgt (bt k)) (fun k => Decidable.em _) ha (by show ¬ dgt (bt len); rw [h.2.2 len (Int.le_refl _)]; decide)
  have := runE_eq h1
  unfold dge
  rw [this]
  exact ⟨h1, h2⟩
theorem skp_b {bt : Int → Int} {len a : Int} (h : TB bt len) (ha : a ≤ len) : a ≤ skp bt a ∧ skp bt a ≤ len ∧ ¬ bt (skp bt a) = 32 := ⟨(skp_run h ha).1.1, (skp_run h ha).2, (skp_run h ha).1.2.2⟩
theorem skp_id {bt : Int → Int} {a : Int} (h : ¬ bt a = 32) : skp bt a = a := runE_eq ⟨Int.le_refl _, fun k h1 h2 => by omega, h⟩
def dvl (bt : Int → Int) (s : Int) : Nat → Int
  | 0 => 0
  | n + 1 => 10 * dvl bt s n + (bt (s + n) - 48)
noncomputable def pnum (bt : Int → Int) (a lo hi : Int) : Int × Int × Int := if dgt (bt (skp bt a)) then (if lo ≤ dvl bt (skp bt a) (dge bt (skp bt a) - skp bt a).toNat ∧ dvl bt (skp bt a) (dge bt (skp bt a) - skp bt a).toNat ≤ hi then (-1, dvl bt (skp bt a) (dge bt (skp bt a) - skp bt a).toNat, dge bt (skp bt a)) else (8 * skp bt a + 2, 0, 0)) else (8 * skp bt a + 1, 0, 0)
noncomputable def plab (bt : Int → Int) (a : Int) : Int × Int × Int := if ltr (bt (skp bt a)) ∧ ¬ ltr (bt (skp bt a + 1)) then (-1, bt (skp bt a) - 97, skp bt a + 1) else (8 * skp bt a + 1, 0, 0)
abbrev tkw (bt : Int → Int) (s : Int) (w : List Int) : Prop := (∀ j, j < w.length → bt (s + (j : Nat)) = w.getD j 0) ∧ ¬ ltr (bt (s + w.length))
theorem pnum_b {bt : Int → Int} {len a lo hi : Int} (h : TB bt len) (h0 : 0 ≤ a) (ha : a ≤ len) : ((pnum bt a lo hi).1 = -1 ∧ (lo ≤ (pnum bt a lo hi).2.1 ∧ (pnum bt a lo hi).2.1 ≤ hi) ∧ 0 ≤ (pnum bt a lo hi).2.2 ∧ (pnum bt a lo hi).2.2 ≤ len) ∨ (1 ≤ (pnum bt a lo hi).1 ∧ (pnum bt a lo hi).1 ≤ 4000) := by
  have h1 := skp_b h ha
  have h2 := dge_run h h1.2.1
  have h3 := h2.1.1
  have hL := h.1
  unfold pnum
  split
  · split
    · next g => exact Or.inl ⟨rfl, g, by show 0 ≤ dge bt (skp bt a); omega, h2.2⟩
    · exact Or.inr ⟨by show 1 ≤ 8 * skp bt a + 2; omega, by show 8 * skp bt a + 2 ≤ 4000; omega⟩
  · exact Or.inr ⟨by show 1 ≤ 8 * skp bt a + 1; omega, by show 8 * skp bt a + 1 ≤ 4000; omega⟩
theorem plab_b {bt : Int → Int} {len a : Int} (h : TB bt len) (h0 : 0 ≤ a) (ha : a ≤ len) : ((plab bt a).1 = -1 ∧ (0 ≤ (plab bt a).2.1 ∧ (plab bt a).2.1 ≤ 25) ∧ 0 ≤ (plab bt a).2.2 ∧ (plab bt a).2.2 ≤ len) ∨ (1 ≤ (plab bt a).1 ∧ (plab bt a).1 ≤ 4000) := by
  have h1 := skp_b h ha
  have hL := h.1
  unfold plab
  split
  · next g =>
    have hlt : skp bt a < len := by
      rcases Int.lt_or_le (skp bt a) len with c | c
      · exact c
      · have := h.2.2 _ c; omega
    exact Or.inl ⟨rfl, ⟨by show 0 ≤ bt (skp bt a) - 97; omega, by show bt (skp bt a) - 97 ≤ 25; omega⟩, by show 0 ≤ skp bt a + 1; omega, by show skp bt a + 1 ≤ len; omega⟩
  · exact Or.inr ⟨by show 1 ≤ 8 * skp bt a + 1; omega, by show 8 * skp bt a + 1 ≤ 4000; omega⟩
theorem tkw_b {bt : Int → Int} {len s : Int} {w : List Int} (h : TB bt len) (hw : ∀ j, j < w.length → 97 ≤ w.getD j 0) (hs : s ≤ len) (g : tkw bt s w) : s + w.length ≤ len := by
  rcases Int.lt_or_le len (s + w.length) with c | c
  · have e := g.1 (len - s).toNat (by omega)
    have e2 := hw (len - s).toNat (by omega)
    have e3 := h.2.2 (s + ((len - s).toNat : Nat)) (by omega)
    omega
  · exact c
def wSize : List Int := [115, 105, 122, 101]
def wWindow : List Int := [119, 105, 110, 100, 111, 119]
def wSeed : List Int := [115, 101, 101, 100]
def wWait : List Int := [119, 97, 105, 116]
def wItem : List Int := [105, 116, 101, 109]
def wTimes : List Int := [116, 105, 109, 101, 115]
def wKey : List Int := [107, 101, 121]
abbrev pR : Type := Int × Int × xM
noncomputable def bnd (r : Int × Int × Int) (V : xM) (f : Int → Int → pR) : pR := if r.1 = -1 then f r.2.1 r.2.2 else (r.1, 0, V)
noncomputable def pSize (bt : Int → Int) (a : Int) (V : xM) : pR := bnd (pnum bt a 0 3) V fun sh a1 => bnd (pnum bt a1 1 12) V fun m a2 => (-1, a2, xst V 11 sh.toNat m)
noncomputable def pWind (bt : Int → Int) (a : Int) (V : xM) : pR := bnd (pnum bt a 0 3) V fun sh a1 => bnd (pnum bt a1 0 9999) V fun m a2 => (-1, a2, xst V 12 sh.toNat m)
noncomputable def pSeed (bt : Int → Int) (a : Int) (V : xM) : pR := bnd (pnum bt a 0 65535) V fun m a1 => (-1, a1, xst V 0 12 m)
noncomputable def pWait (bt : Int → Int) (st a : Int) (V : xM) : pR := bnd (pnum bt a 0 9999) V fun t a1 => if 99999 < V 0 11 + t then (8 * st + 3, 0, V) else (-1, a1, xst V 0 11 (V 0 11 + t))
def its (sh lab w : Int) : Nat → xM → xM
  | 0, V => V
  | k + 1, V => addV (sdV (its sh lab w k V)) sh lab w (drw (its sh lab w k V 0 12) / 64)
noncomputable def pItm (bt : Int → Int) (st a : Int) (V : xM) : pR := bnd (pnum bt a 0 3) V fun sh a1 => bnd (plab bt a1) V fun lab a2 => bnd (pnum bt a2 1 20) V fun w a3 => bnd (if tkw bt (skp bt a3) wTimes then pnum bt (skp bt a3 + 5) 1 50 else (-1, 1, skp bt a3)) V fun t a4 => if 100 < V 0 10 + t then (8 * st + 3, 0, V) else (-1, a4, its sh lab w t.toNat V)
noncomputable def pKey (bt : Int → Int) (st a : Int) (V : xM) : pR := bnd (pnum bt a 0 3) V fun sh a1 => bnd (plab bt a1) V fun lab a2 => bnd (pnum bt a2 1 20) V fun w a3 => bnd (pnum bt a3 1 1023) V fun lo a4 => if 100 ≤ V 0 10 then (8 * st + 3, 0, V) else (-1, a4, addV V sh lab w lo)
noncomputable def pStm (bt : Int → Int) (a : Int) (V : xM) : pR :=
  if tkw bt (skp bt a) wSize then pSize bt (skp bt a + 4) V
  else if tkw bt (skp bt a) wWindow then pWind bt (skp bt a + 6) V
  else if tkw bt (skp bt a) wSeed then pSeed bt (skp bt a + 4) V
  else if tkw bt (skp bt a) wWait then pWait bt (skp bt a) (skp bt a + 4) V
  else if tkw bt (skp bt a) wItem then pItm bt (skp bt a) (skp bt a + 4) V
  else if tkw bt (skp bt a) wKey then pKey bt (skp bt a) (skp bt a + 3) V
  else (8 * skp bt a + 1, 0, V)
/-- a text: its fault, or -1 and the state that it tells -/
noncomputable def pAll (bt : Int → Int) (len : Int) : Nat → Int → xM → Int × xM
  | 0, _, V => (-1, V)
  | k + 1, a, V => if (pStm bt a V).1 = -1 then (if bt (skp bt (pStm bt a V).2.1) = 59 then pAll bt len k (skp bt (pStm bt a V).2.1 + 1) (pStm bt a V).2.2 else if len ≤ skp bt (pStm bt a V).2.1 then (-1, (pStm bt a V).2.2) else (8 * skp bt (pStm bt a V).2.1 + 1, V)) else ((pStm bt a V).1, V)
theorem xst_id {M : xM} {k j : Nat} {z : Int} (h : M k j = z) : xst M k j z = M := by
  funext a b
  rw [xst_eq]
  split
  · next g => rw [g.1, g.2]; exact h.symm
  · rfl
theorem xst_xst (M : xM) (k j : Nat) (y z : Int) : xst (xst M k j y) k j z = xst M k j z := by
  funext a b
  simp only [xst_eq]
  split <;> rfl
abbrev tpM (M : xM) (a f : Int) : xM := xst (xst M 146 3 a) 146 4 f
theorem tp_id {M : xM} {a f : Int} (h1 : M 146 3 = a) (h2 : M 146 4 = f) : tpM M a f = M := by
  unfold tpM
  rw [xst_id h1, xst_id h2]
theorem tp_a (M : xM) (a f b : Int) : xst (tpM M a f) 146 3 b = tpM M b f := by
  funext q j
  simp only [tpM, xst_eq]
  by_cases g1 : q = 146 ∧ j = 3
  · rw [if_pos g1, if_neg (by omega), if_pos g1]
  · rw [if_neg g1]
    by_cases g2 : q = 146 ∧ j = 4
    · simp only [if_neg g1, if_pos g2]
    · simp only [if_neg g1, if_neg g2]
theorem tp_f (M : xM) (a f g : Int) : xst (tpM M a f) 146 4 g = tpM M a g := xst_xst _ _ _ _ _
theorem tp_tp (M : xM) (a f b g : Int) : tpM (tpM M a f) b g = tpM M b g := by
  rw [show tpM (tpM M a f) b g = xst (xst (tpM M a f) 146 3 b) 146 4 g from rfl, tp_a, tp_f]
theorem tp_row {M : xM} {a f : Int} {q : Nat} (h : q ≠ 146) : tpM M a f q = M q := by
  unfold tpM
  rw [xst_row h, xst_row h]
theorem tp_2 (M : xM) (a f : Int) : tpM M a f 146 2 = M 146 2 := by
  unfold tpM
  rw [xst_nq (by omega), xst_nq (by omega)]
theorem tp_3 (M : xM) (a f : Int) : tpM M a f 146 3 = a := by
  unfold tpM
  rw [xst_nq (by omega), xst_same]
theorem tp_4 (M : xM) (a f : Int) : tpM M a f 146 4 = f := xst_same ..
abbrev TM (M : xM) (bt : Int → Int) (len : Int) : Prop := M 146 2 = len ∧ ∀ k : Nat, (k : Int) < len → M 147 k = bt k
theorem tm_tp {M : xM} {bt : Int → Int} {len a f : Int} (h : TM M bt len) : TM (tpM M a f) bt len := ⟨by rw [tp_2]; exact h.1, fun k hk => by rw [tp_row (by decide)]; exact h.2 k hk⟩
theorem its_c (sh lab w : Int) (V : xM) : ∀ k, its sh lab w k V 0 10 = V 0 10 + k := fun k => by
  induction k with
  | zero => show V 0 10 = V 0 10 + 0; omega
  | succ k ih =>
    have e : its sh lab w (k + 1) V 0 10 = its sh lab w k V 0 10 + 1 := rfl
    rw [e, ih]; omega
theorem its_ok {V : xM} {sh lab w : Int} (hv : VOK V) (h1 : 0 ≤ sh ∧ sh ≤ 3) (h2 : 0 ≤ lab ∧ lab ≤ 25) (h3 : 1 ≤ w ∧ w ≤ 20) : ∀ k : Nat, V 0 10 + k ≤ 100 → VOK (its sh lab w k V) := fun k => by
  induction k with
  | zero => intro _; exact hv
  | succ k ih =>
    intro hk
    have hd := drw_b (its sh lab w k V 0 12)
    have hc := its_c sh lab w V k
    exact addV_ok (ok_seed (ih (by omega)) (by omega)) (by show its sh lab w k V 0 10 < 100; omega) h1 h2 h3 (by omega)
