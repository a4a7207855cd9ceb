/-! the text that is told, a list of its bytes -/
def dgr : Nat → Int → List Int
  | 0, _ => []
  | f + 1, n => if n ≤ 9 then [48 + n % 10] else dgr f (n / 10) ++ [48 + n % 10]
def dg1 (n w : Int) : List Int := if w ≤ n ∨ w = 1 then [48 + n / w % 10] else []
def dgp (n u : Int) : List Int := (if u < 10000 then dg1 n 10000 else []) ++ ((if u < 1000 then dg1 n 1000 else []) ++ ((if u < 100 then dg1 n 100 else []) ++ ((if u < 10 then dg1 n 10 else []) ++ (if u < 1 then dg1 n 1 else []))))
def numT (L : List Int) (n : Int) : List Int := L ++ [32] ++ dgp n 0
def wrdT (L w : List Int) : List Int := (if 0 < L.length then L ++ [59] else L) ++ w
def twn : Nat → List Int → Int → List Int
  | 0, L, _ => L
  | f + 1, L, t => if 0 < t then twn f (numT (wrdT L wWait) (if 9999 < t then 9999 else t)) (t - 9999) else L
def shT (V : xM) (s : Nat) (L : List Int) : List Int := numT (numT (wrdT (numT (numT (wrdT L wSize) s) (V 11 s)) wWindow) s) (V 12 s)
def itT (V : xM) (i : Nat) (L : List Int) : List Int := numT (numT (numT (wrdT L wKey) (V 4 i) ++ [32] ++ [97 + V 5 i]) (V 6 i)) (V 7 i)
def alT (V : xM) : Nat → List Int × Int
  | 0 => (shT V 3 (shT V 2 (shT V 1 (shT V 0 []))), 0)
  | k + 1 => if V 9 k = 0 then (itT V k (twn 12 (alT V k).1 (V 8 k - (alT V k).2)), V 8 k) else alT V k
def txt (V : xM) : List Int := numT (wrdT (twn 12 (alT V (V 0 10).toNat).1 (V 0 11 - (alT V (V 0 10).toNat).2)) wSeed) (V 0 12)
def kthI (L : List Int) (k : Int) : Int := if k = -1 then (L.length : Int) else if 0 ≤ k ∧ k < L.length then L.getD k.toNat 0 else -2
def qTold (V : xM) (k : Int) : Int := if k < -1 then -1 else kthI (txt V) k
theorem dg1_len (n w : Int) : (dg1 n w).length ≤ 1 := by unfold dg1; split <;> simp
theorem dgp_len (n u : Int) : (dgp n u).length ≤ 5 := by
  have h1 := dg1_len n 10000
  have h2 := dg1_len n 1000
  have h3 := dg1_len n 100
  have h4 := dg1_len n 10
  have h5 := dg1_len n 1
  unfold dgp
  simp only [List.length_append]
  have g : ∀ (c : Prop) [Decidable c] (l : List Int), l.length ≤ 1 → (if c then l else []).length ≤ 1 := fun c _ l hl => by split; exact hl; simp
  have g1 := g (u < 10000) _ h1
  have g2 := g (u < 1000) _ h2
  have g3 := g (u < 100) _ h3
  have g4 := g (u < 10) _ h4
  have g5 := g (u < 1) _ h5
  omega
theorem numT_len (L : List Int) (n : Int) : (numT L n).length ≤ L.length + 6 := by
  have := dgp_len n 0
  unfold numT
  simp only [List.length_append, List.length_cons, List.length_nil]
  omega
theorem wrdT_len (L w : List Int) : (wrdT L w).length ≤ L.length + 1 + w.length := by
  unfold wrdT
  rw [List.length_append]
  split
  · simp only [List.length_append, List.length_cons, List.length_nil]; omega
  · omega
theorem twn_len : ∀ (f : Nat) (L : List Int) (t : Int), (twn f L t).length ≤ L.length + 11 * f := fun f => by
  induction f with
  | zero => intro L t; exact Nat.le_refl _
  | succ f ih =>
    intro L t
    unfold twn
    split
    · have h1 := ih (numT (wrdT L wWait) (if 9999 < t then 9999 else t)) (t - 9999)
      have h2 := numT_len (wrdT L wWait) (if 9999 < t then 9999 else t)
      have h3 := wrdT_len L wWait
      have h4 : wWait.length = 4 := rfl
      omega
    · omega
theorem shT_len (V : xM) (s : Nat) (L : List Int) : (shT V s L).length ≤ L.length + 40 := by
  unfold shT
  have h1 := wrdT_len L wSize
  have h2 := numT_len (wrdT L wSize) s
  have h3 := numT_len (numT (wrdT L wSize) s) (V 11 s)
  have h4 := wrdT_len (numT (numT (wrdT L wSize) s) (V 11 s)) wWindow
  have h5 := numT_len (wrdT (numT (numT (wrdT L wSize) s) (V 11 s)) wWindow) s
  have h6 := numT_len (numT (wrdT (numT (numT (wrdT L wSize) s) (V 11 s)) wWindow) s) (V 12 s)
  have l1 : wSize.length = 4 := rfl
  have l2 : wWindow.length = 6 := rfl
  omega
theorem itT_len (V : xM) (i : Nat) (L : List Int) : (itT V i L).length ≤ L.length + 30 := by
  unfold itT
  have h1 := wrdT_len L wKey
  have h2 := numT_len (wrdT L wKey) (V 4 i)
  have h3 := numT_len (numT (wrdT L wKey) (V 4 i) ++ [32] ++ [97 + V 5 i]) (V 6 i)
  have h4 := numT_len (numT (numT (wrdT L wKey) (V 4 i) ++ [32] ++ [97 + V 5 i]) (V 6 i)) (V 7 i)
  have l1 : wKey.length = 3 := rfl
  have h5 : (numT (wrdT L wKey) (V 4 i) ++ [32] ++ [97 + V 5 i]).length = (numT (wrdT L wKey) (V 4 i)).length + 2 := by simp
  omega
theorem alT_len (V : xM) : ∀ k, (alT V k).1.length ≤ 160 + 200 * k := fun k => by
  induction k with
  | zero =>
    have h1 := shT_len V 0 []
    have h2 := shT_len V 1 (shT V 0 [])
    have h3 := shT_len V 2 (shT V 1 (shT V 0 []))
    have h4 := shT_len V 3 (shT V 2 (shT V 1 (shT V 0 [])))
    have h5 : ([] : List Int).length = 0 := rfl
    show (shT V 3 (shT V 2 (shT V 1 (shT V 0 [])))).length ≤ _
    omega
  | succ k ih =>
    unfold alT
    split
    · have h1 := itT_len V k (twn 12 (alT V k).1 (V 8 k - (alT V k).2))
      have h2 := twn_len 12 (alT V k).1 (V 8 k - (alT V k).2)
      show (itT V k (twn 12 (alT V k).1 (V 8 k - (alT V k).2))).length ≤ _
      omega
    · omega
theorem alT_t {V : xM} (hv : VOK V) : ∀ k : Nat, (k : Int) ≤ V 0 10 → 0 ≤ (alT V k).2 ∧ (alT V k).2 ≤ V 0 11 ∧ ∀ j : Nat, k ≤ j → (j : Int) < V 0 10 → (alT V k).2 ≤ V 8 j := fun k => by
  induction k with
  | zero =>
    intro _
    refine ⟨Int.le_refl _, hv.1.2.1.1, fun j _ hj => (hv.2.2.1 j hj).2.2.2.2.1.1⟩
  | succ k ih =>
    intro hk
    have h := ih (by omega)
    have hi := hv.2.2.1 k (by omega)
    unfold alT
    split
    · exact ⟨hi.2.2.2.2.1.1, hi.2.2.2.2.1.2, fun j h1 h2 => hv.2.2.2 k j (by omega) h2⟩
    · exact ⟨h.1, h.2.1, fun j h1 h2 => h.2.2 j (by omega) h2⟩
/-- what a teller has told: the wanted place, what was heard there, how much -/
def hrd (L : List Int) (k : Int) : Int := if 0 ≤ k ∧ k < L.length then L.getD k.toNat 0 else -2
theorem hrd_add {L : List Int} {k c : Int} : hrd (L ++ [c]) k = if (L.length : Int) = k then c else hrd L k := by
  unfold hrd
  by_cases g : (L.length : Int) = k
  · rw [if_pos g, if_pos (by simp; omega)]
    rw [show k.toNat = L.length by omega]
    simp [List.getD]
  · rw [if_neg g]
    by_cases g2 : 0 ≤ k ∧ k < L.length
    · rw [if_pos g2, if_pos (by simp; omega)]
      have : k.toNat < L.length := by omega
      simp [List.getD, List.getElem?_append_left this]
    · rw [if_neg g2, if_neg (by simp; omega)]
theorem dgr_dgp {n : Int} (h : 0 ≤ n ∧ n < 100000) : dgr 6 n = dgp n 0 := by
  have e0 : dgp n 0 = dg1 n 10000 ++ (dg1 n 1000 ++ (dg1 n 100 ++ (dg1 n 10 ++ dg1 n 1))) := rfl
  rw [e0]
  have d1 : dg1 n 1 = [48 + n % 10] := by unfold dg1; rw [if_pos (Or.inr rfl), Int.ediv_one]
  have dd : ∀ w, ¬ w ≤ n → w ≠ 1 → dg1 n w = [] := fun w h1 h2 => by unfold dg1; rw [if_neg (by omega)]
  have dy : ∀ w, w ≤ n → dg1 n w = [48 + n / w % 10] := fun w h1 => by unfold dg1; rw [if_pos (Or.inl h1)]
  rw [d1]
  by_cases c1 : n ≤ 9
  · rw [dd 10000 (by omega) (by decide), dd 1000 (by omega) (by decide), dd 100 (by omega) (by decide), dd 10 (by omega) (by decide)]
    unfold dgr
    rw [if_pos c1]; rfl
  · unfold dgr
    rw [if_neg c1]
    by_cases c2 : n / 10 ≤ 9
    · rw [dd 10000 (by omega) (by decide), dd 1000 (by omega) (by decide), dd 100 (by omega) (by decide), dy 10 (by omega)]
      unfold dgr
      rw [if_pos c2]; rfl
    · unfold dgr
      rw [if_neg c2]
      by_cases c3 : n / 10 / 10 ≤ 9
      · rw [dd 10000 (by omega) (by decide), dd 1000 (by omega) (by decide), dy 100 (by omega), dy 10 (by omega)]
        unfold dgr
        rw [if_pos c3, show n / 10 / 10 = n / 100 by omega]; rfl
      · unfold dgr
        rw [if_neg c3]
        by_cases c4 : n / 10 / 10 / 10 ≤ 9
        · rw [dd 10000 (by omega) (by decide), dy 1000 (by omega), dy 100 (by omega), dy 10 (by omega)]
          unfold dgr
          rw [if_pos c4, show n / 10 / 10 / 10 = n / 1000 by omega, show n / 10 / 10 = n / 100 by omega]; rfl
        · rw [dy 10000 (by omega), dy 1000 (by omega), dy 100 (by omega), dy 10 (by omega)]
          unfold dgr
          rw [if_neg c4]
          unfold dgr
          rw [if_pos (by omega), show n / 10 / 10 / 10 / 10 = n / 10000 by omega, show n / 10 / 10 / 10 = n / 1000 by omega, show n / 10 / 10 = n / 100 by omega]; rfl
