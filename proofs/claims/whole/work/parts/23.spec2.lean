/-- from where on a thing holds that holds of all greater numbers -/
abbrev Cut (P : Int → Prop) (N c : Int) : Prop := (0 ≤ c ∧ c ≤ N) ∧ (∀ x, 1 ≤ x → x ≤ c → ¬ P x) ∧ ∀ x, c < x → x ≤ N → P x
theorem cut_ex {P : Int → Prop} (hd : ∀ x, P x ∨ ¬ P x) (hm : ∀ x y, 1 ≤ x → x ≤ y → P x → P y) (N : Nat) : ∃ c, Cut P N c := by
  induction N with
  | zero => exact ⟨0, ⟨by omega, by omega⟩, fun x h1 h2 => by omega, fun x h1 h2 => by omega⟩
  | succ N ih =>
    obtain ⟨c, h1, h2, h3⟩ := ih
    by_cases e : c = N
    · rcases hd ((N : Int) + 1) with g | g
      · exact ⟨c, ⟨by omega, by omega⟩, h2, fun x a b => by rw [show x = (N : Int) + 1 by omega]; exact g⟩
      · exact ⟨(N : Int) + 1, ⟨by omega, by omega⟩, fun x a b => fun hp => g (hm x _ a (by omega) hp), fun x a b => by omega⟩
    · exact ⟨c, ⟨by omega, by omega⟩, h2, fun x a b => by
        rcases Int.lt_or_le (N : Int) x with g | g
        · exact hm (c + 1) x (by omega) (by omega) (h3 (c + 1) (by omega) (by omega))
        · exact h3 x a g⟩
theorem cut_one {P : Int → Prop} {N c d : Int} (h : Cut P N c) (h2 : Cut P N d) : c = d := by
  rcases Int.lt_trichotomy c d with g | g | g
  · exact absurd (h.2.2 (c + 1) (by omega) (by omega)) (h2.2.1 (c + 1) (by omega) (by omega))
  · exact g
  · exact absurd (h2.2.2 (d + 1) (by omega) (by omega)) (h.2.1 (d + 1) (by omega) (by omega))
theorem kc_mono {l l2 w L W : Int} (h1 : 1 ≤ l) (h : l ≤ l2) (hp : 0 < kc l w L W) : 0 < kc l2 w L W := by
  unfold kc at *
  rw [xcmp_gt] at *
  have e := ipow_le (show (0 : Int) ≤ l by omega) h W.toNat
  have := Int.mul_le_mul_of_nonneg_right e (show (0 : Int) ≤ 1024 ^ w.toNat from Int.pow_nonneg (by decide))
  omega
abbrev pGt (w L W : Int) (x : Int) : Prop := 0 < kc x w L W
theorem pGt_cut (w L W : Int) : ∃ c, Cut (pGt w L W) 1023 c := cut_ex (fun _ => Decidable.em _) (fun _ _ h1 h2 hp => kc_mono h1 h2 hp) 1023
/-- parts by n are more than a key -/
abbrev pPt (q L W : Int) (x : Int) : Prop := ¬ x ^ W.toNat * 1024 ≤ q ^ W.toNat * L
theorem pPt_cut (q L W : Int) (N : Nat) : ∃ c, Cut (pPt q L W) N c := cut_ex (fun _ => Decidable.em _) (fun x y h1 h2 hp => by
  have e := ipow_le (show (0 : Int) ≤ x by omega) h2 W.toNat
  have := Int.mul_le_mul_of_nonneg_right e (show (0 : Int) ≤ 1024 by decide)
  intro h
  exact hp (by omega)) N
theorem pPt_top {q L W : Int} (hq : 1 ≤ q) (hL : L ≤ 1023) : pPt q L W q := by
  have e := ipow_pos hq W.toNat
  intro h
  have := Int.mul_le_mul_of_nonneg_left hL (show (0 : Int) ≤ q ^ W.toNat by omega)
  omega
def itd : Nat → Int → Int
  | 0, s => s
  | k + 1, s => drw (itd k s)
theorem itd_b {s : Int} (h : 0 ≤ s ∧ s < 65536) : ∀ k, 0 ≤ itd k s ∧ itd k s < 65536 := fun k => by
  cases k with
  | zero => exact h
  | succ k => have := drw_b (itd k s); unfold itd; omega
def rival (V : xM) (sh : Int) : Nat := (qFull V sh).toNat
/-- whether a new one of a lot and a weight would be in a shard's sample -/
abbrev wbi (V : xM) (sh lo w : Int) : Prop := qFull V sh = -2 ∨ 0 < kc lo w (V 7 (rival V sh)) (V 6 (rival V sh))
theorem full_it {V : xM} (hv : VOK V) (hs : Srt V (V 10) (V 0 10).toNat) {sh : Int} (hsh : 0 ≤ sh ∧ sh ≤ 3) : qFull V sh = -2 ∨ (0 ≤ qFull V sh ∧ qFull V sh < V 0 10) := by
  unfold qFull
  split
  · exact Or.inl rfl
  · have hw := ok_s hv hsh.1 hsh.2
    have hp : 0 < (smL V sh).length := by omega
    have h1 := lst_in hp
    have h2 := sm_it hs h1.1
    exact Or.inr ⟨h1.2, by omega⟩
abbrev okS (sh : Int) : Prop := 0 ≤ sh ∧ sh ≤ 3
abbrev okW (w : Int) : Prop := 1 ≤ w ∧ w ≤ 20
abbrev okL (lo : Int) : Prop := 1 ≤ lo ∧ lo ≤ 1023
abbrev qNeeds (V : xM) (sh w z : Int) : Prop := (okS sh ∧ okW w ∧ Lea (fun lo => wbi V sh lo w) 1 1023 z) ∨ (¬ (okS sh ∧ okW w) ∧ z = -1)
abbrev qHeavy (V : xM) (sh lo z : Int) : Prop := (okS sh ∧ okL lo ∧ Lea (fun w => wbi V sh lo w) 1 20 z) ∨ (¬ (okS sh ∧ okL lo) ∧ z = -1)
abbrev qSkip (V : xM) (sh w z : Int) : Prop := (okS sh ∧ okW w ∧ Lea (fun k => wbi V sh (itd (k.toNat + 1) (V 0 12) / 64) w) 0 999 z) ∨ (¬ (okS sh ∧ okW w) ∧ z = -1)
abbrev qLots (V : xM) (i w z : Int) : Prop := (isI V i ∧ okW w ∧ ((¬ V 9 i.toNat = 0 ∧ z = -2) ∨ (V 9 i.toNat = 0 ∧ Cut (pGt w (V 7 i.toNat) (V 6 i.toNat)) 1023 (1023 - z)))) ∨ (¬ (isI V i ∧ okW w) ∧ z = -1)
abbrev qPart (V : xM) (i q z : Int) : Prop := (isI V i ∧ (1 ≤ q ∧ q ≤ 1000) ∧ Cut (pPt q (V 7 i.toNat) (V 6 i.toNat)) q z) ∨ (¬ (isI V i ∧ 1 ≤ q ∧ q ≤ 1000) ∧ z = -1)
def qNext (V : xM) (k : Int) : Int := if 0 ≤ k ∧ k ≤ 999 then itd (k.toNat + 1) (V 0 12) / 64 else -1
def kdL (V : xM) (L : List Nat) : Int := fb_si (fun q => b2i (0 < lb1 V L q)) 26
def alN (V : xM) (sh : Int) : List Nat := alL V sh (V 0 11) (V 12 sh.toNat) (V 0 10)
def qKinds (V : xM) (sh m : Int) : Int := if okS sh ∧ 1 ≤ m ∧ m ≤ 12 then kdL V ((alN V sh).take m.toNat) else -1
abbrev qSfk (V : xM) (sh m z : Int) : Prop := (okS sh ∧ (1 ≤ m ∧ m ≤ 12) ∧ Lea (fun k => m ≤ kdL V ((alN V sh).take k.toNat)) 1 12 z) ∨ (¬ (okS sh ∧ 1 ≤ m ∧ m ≤ 12) ∧ z = -1)
abbrev bitsOf (P : Nat → Prop) (z : Int) : Prop := ∃ r : Nat, z = (r : Int) ∧ r < 2 ^ 26 ∧ ∀ q, r.testBit q = true ↔ (q < 26 ∧ P q)
theorem bits_one {P : Nat → Prop} {z z2 : Int} (h : bitsOf P z) (h2 : bitsOf P z2) : z = z2 := by
  obtain ⟨r, e, _, b⟩ := h
  obtain ⟨r2, e2, _, b2⟩ := h2
  have : r = r2 := by
    apply Nat.eq_of_testBit_eq
    intro q
    have g := (b q).trans (b2 q).symm
    cases h1 : r.testBit q <;> cases h3 : r2.testBit q <;> simp_all
  rw [e, e2, this]
abbrev qShared (V : xM) (sh sh2 z : Int) : Prop := (okS sh ∧ okS sh2 ∧ bitsOf (fun q => 0 < lb1 V (smL V sh) q ∧ 0 < lb1 V (smL V sh2) q) z) ∨ (¬ (okS sh ∧ okS sh2) ∧ z = -1)
theorem x_or_pow {a b : Nat} (ha : a < 2 ^ 26) (hb : b < 26) : (Int32.ofInt (a : Int) ||| Int32.ofInt ((2 : Int) ^ b)) = Int32.ofInt ((a ||| 2 ^ b : Nat) : Int) ∧ a ||| 2 ^ b < 2 ^ 26 := by
  have e2 : ((2 : Int) ^ b) = ((2 ^ b : Nat) : Int) := by simp
  rw [e2]
  exact ⟨fa_or a (2 ^ b), Nat.or_lt_two_pow ha (Nat.pow_lt_pow_right (by decide) hb)⟩
theorem fil_kd {V : xM} (hv : VOK V) (hs : Srt V (V 10) (V 0 10).toNat) {sh mo : Int} (h : 0 ≤ sh ∧ sh ≤ 3) : fil V (fun i => decide (asd V (2 ^ sh.toNat) (V 0 11) 100 (-1) i)) mo 100 (rkl V) = (alN V sh).take mo.toNat := by
  unfold alN
  rw [fil_al hv hs h, alL_up hs (by have := ok_c hv; omega)]
