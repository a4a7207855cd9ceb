def b2i (p : Prop) [Decidable p] : Int := if p then 1 else 0
theorem b2i_t {p : Prop} [Decidable p] (h : p) : b2i p = 1 := if_pos h
theorem b2i_f {p : Prop} [Decidable p] (h : ¬ p) : b2i p = 0 := if_neg h
theorem b2i_eq0 {p : Prop} [Decidable p] : b2i p = 0 ↔ ¬ p := by unfold b2i; split <;> simp [*]
theorem b2i_ne0 {p : Prop} [Decidable p] : ¬ b2i p = 0 ↔ p := by unfold b2i; split <;> simp [*]
theorem b2i_eq1 {p : Prop} [Decidable p] : b2i p = 1 ↔ p := by unfold b2i; split <;> simp [*]
theorem b2i_01 {p : Prop} [Decidable p] : b2i p = 0 ∨ b2i p = 1 := by unfold b2i; split <;> simp
theorem b2i_cg {p q : Prop} [Decidable p] [Decidable q] (h : p ↔ q) : b2i p = b2i q := by unfold b2i; simp [h]
theorem x_sub {Γ : xΓ} {cells slots n pc : Nat} {T : xT} {L : List (Nat × xV)} {st : List xV} {M : xM} (L' : List (Nat × xV)) (ks : List Nat) (h : ks.filterMap (fun k => L[k]?) = L') (k : xX Γ cells slots n T pc L' st M) : xX Γ cells slots n T pc L st M := by
  obtain ⟨D, p, l, e, R, s, m, args, below, meth, c, Q⟩ := Γ
  intro ls H locs hl hL hs hH
  have hm : ∀ q ∈ L', q ∈ L := by
    intro q hq
    rw [← h] at hq
    obtain ⟨i, -, hi⟩ := List.mem_filterMap.mp hq
    exact List.mem_of_getElem? hi
  refine k ls H locs ⟨hl.1, hl.2.1, fun q hq => ?_⟩ (fun q hq => hL q (hm q hq)) hs hH
  obtain ⟨q0, h0, rfl⟩ := List.mem_map.mp hq
  exact hl.2.2 _ (List.mem_map.mpr ⟨q0, hm q0 h0, rfl⟩)
/-- forms of contracts: no cell is made; an answer that is told (p), an int (I), a long (L), none (V) -/
def xS (n : Nat) (T : xT) (Q : Option xV → xM → Prop) : xPt := fun r n2 T2 M2 => n2 = n ∧ T2 = T ∧ Q r M2
abbrev xPp (n : Nat) (T : xT) (M : xM) (z : Int) : xPt := xS n T (fun r M2 => r = some (xI z) ∧ M2 = M)
abbrev xPI (n : Nat) (T : xT) (q : Int → xM → Prop) : xPt := xS n T (fun r M2 => ∃ z, r = some (xI z) ∧ q z M2)
abbrev xPL (n : Nat) (T : xT) (q : Int → xM → Prop) : xPt := xS n T (fun r M2 => ∃ z, r = some (xL z) ∧ q z M2)
abbrev xPV (n : Nat) (T : xT) (q : xM → Prop) : xPt := xS n T (fun r M2 => r = none ∧ q M2)
theorem x_callSp {Γ : xΓ} {own : String} {cc : ByteArray} {nL fr lo mc ms : Nat} (G : xG Γ own cc nL fr lo mc ms) {cells slots n pc : Nat} {T : xT} {L : List (Nat × xV)} (st : List xV) {st0 : List xV} {M : xM} {y : xY} {np idx fr2 lo2 : Nat} (as : List xV) {z : Int}  (hy : xYb y np) (hsta : Cond.static y.1 ∈ WS) (hlk : xMl own idx y.1) (hnp : as.length = np) (hst : as.reverse ++ st = st0) (hC : xC Γ.1 Γ.2.2.1 y fr2 lo2 0 0 as n T M (xPp n T M z)) (hRo : fr2 + 1 ≤ fr ∧ 8 + (y.2.2.1 + 11) + lo2 ≤ lo) (hCe : cells ≤ mc ∧ slots ≤ ms) (hcat : (st.map xcat).sum ≤ 8) (hd : decode cc pc = .ok (.invokestatic idx, 3)) (kk : xX Γ cells slots n T (pc + 3) L (xI z :: st) M) : xX Γ cells slots n T pc L st0 M := by
  subst hst
  refine x_callS G hy hsta hlk hnp hC hRo hCe hcat hd fun r n2 T2 M2 h => ?_
  obtain ⟨rfl, rfl, rfl, rfl⟩ := h
  exact kk
theorem x_callSI {Γ : xΓ} {own : String} {cc : ByteArray} {nL fr lo mc ms : Nat} (G : xG Γ own cc nL fr lo mc ms) {cells slots n pc : Nat} {T : xT} {L : List (Nat × xV)} (st : List xV) {st0 : List xV} {M : xM} {y : xY} {np idx fr2 lo2 : Nat} (as : List xV) {q : Int → xM → Prop}  (hy : xYb y np) (hsta : Cond.static y.1 ∈ WS) (hlk : xMl own idx y.1) (hnp : as.length = np) (hst : as.reverse ++ st = st0) (hC : xC Γ.1 Γ.2.2.1 y fr2 lo2 0 0 as n T M (xPI n T q)) (hRo : fr2 + 1 ≤ fr ∧ 8 + (y.2.2.1 + 11) + lo2 ≤ lo) (hCe : cells ≤ mc ∧ slots ≤ ms) (hcat : (st.map xcat).sum ≤ 8) (hd : decode cc pc = .ok (.invokestatic idx, 3)) (kk : ∀ z M2, q z M2 → xX Γ cells slots n T (pc + 3) L (xI z :: st) M2) : xX Γ cells slots n T pc L st0 M := by
  subst hst
  refine x_callS G hy hsta hlk hnp hC hRo hCe hcat hd fun r n2 T2 M2 h => ?_
  obtain ⟨rfl, rfl, z, rfl, h⟩ := h
  exact kk z M2 h
theorem x_callSL {Γ : xΓ} {own : String} {cc : ByteArray} {nL fr lo mc ms : Nat} (G : xG Γ own cc nL fr lo mc ms) {cells slots n pc : Nat} {T : xT} {L : List (Nat × xV)} (st : List xV) {st0 : List xV} {M : xM} {y : xY} {np idx fr2 lo2 : Nat} (as : List xV) {q : Int → xM → Prop}  (hy : xYb y np) (hsta : Cond.static y.1 ∈ WS) (hlk : xMl own idx y.1) (hnp : as.length = np) (hst : as.reverse ++ st = st0) (hC : xC Γ.1 Γ.2.2.1 y fr2 lo2 0 0 as n T M (xPL n T q)) (hRo : fr2 + 1 ≤ fr ∧ 8 + (y.2.2.1 + 11) + lo2 ≤ lo) (hCe : cells ≤ mc ∧ slots ≤ ms) (hcat : (st.map xcat).sum ≤ 8) (hd : decode cc pc = .ok (.invokestatic idx, 3)) (kk : ∀ z M2, q z M2 → xX Γ cells slots n T (pc + 3) L (xL z :: st) M2) : xX Γ cells slots n T pc L st0 M := by
  subst hst
  refine x_callS G hy hsta hlk hnp hC hRo hCe hcat hd fun r n2 T2 M2 h => ?_
  obtain ⟨rfl, rfl, z, rfl, h⟩ := h
  exact kk z M2 h
theorem x_callSV {Γ : xΓ} {own : String} {cc : ByteArray} {nL fr lo mc ms : Nat} (G : xG Γ own cc nL fr lo mc ms) {cells slots n pc : Nat} {T : xT} {L : List (Nat × xV)} (st : List xV) {st0 : List xV} {M : xM} {y : xY} {np idx fr2 lo2 : Nat} (as : List xV) {q : xM → Prop}  (hy : xYb y np) (hsta : Cond.static y.1 ∈ WS) (hlk : xMl own idx y.1) (hnp : as.length = np) (hst : as.reverse ++ st = st0) (hC : xC Γ.1 Γ.2.2.1 y fr2 lo2 0 0 as n T M (xPV n T q)) (hRo : fr2 + 1 ≤ fr ∧ 8 + (y.2.2.1 + 11) + lo2 ≤ lo) (hCe : cells ≤ mc ∧ slots ≤ ms) (hcat : (st.map xcat).sum ≤ 8) (hd : decode cc pc = .ok (.invokestatic idx, 3)) (kk : ∀ M2, q M2 → xX Γ cells slots n T (pc + 3) L st M2) : xX Γ cells slots n T pc L st0 M := by
  subst hst
  refine x_callS G hy hsta hlk hnp hC hRo hCe hcat hd fun r n2 T2 M2 h => ?_
  obtain ⟨rfl, rfl, rfl, h⟩ := h
  exact kk M2 h
theorem x_callVp {Γ : xΓ} {own : String} {cc : ByteArray} {nL fr lo mc ms : Nat} (G : xG Γ own cc nL fr lo mc ms) {cells slots n pc : Nat} {T : xT} {L : List (Nat × xV)} (st : List xV) {st0 : List xV} {M : xM} {y : xY} {np idx fr2 lo2 : Nat} (as : List xV) {z : Int} {a ci : Nat} {Tf : u_T} {N : Nat} (hvc : vwCl[ci]? = some (y.1.cls, Tf, N)) (hci : ci < 8) (ha : a < n) (hT : (T a).1 = ci) (hy : xYb y np) (hins : Cond.instanceMethod y.1 ∈ WS) (hsel : Cond.selects y.1.cls y.1 y.1 ∈ WS) (hlk : xMl own idx y.1) (hnp : as.length = np) (hst : as.reverse ++ xR a :: st = st0) (hC : xC Γ.1 Γ.2.2.1 y fr2 lo2 0 0 (xR a :: as) n T M (xPp n T M z)) (hRo : fr2 + 1 ≤ fr ∧ 8 + (y.2.2.1 + 11) + lo2 ≤ lo) (hCe : cells ≤ mc ∧ slots ≤ ms) (hcat : (st.map xcat).sum ≤ 8) (hd : decode cc pc = .ok (.invokevirtual idx, 3)) (kk : xX Γ cells slots n T (pc + 3) L (xI z :: st) M) : xX Γ cells slots n T pc L st0 M := by
  subst hst
  refine x_callV G hvc hci ha hT hy hins hsel hlk hnp hC hRo hCe hcat hd fun r n2 T2 M2 h => ?_
  obtain ⟨rfl, rfl, rfl, rfl⟩ := h
  exact kk
theorem x_callVI {Γ : xΓ} {own : String} {cc : ByteArray} {nL fr lo mc ms : Nat} (G : xG Γ own cc nL fr lo mc ms) {cells slots n pc : Nat} {T : xT} {L : List (Nat × xV)} (st : List xV) {st0 : List xV} {M : xM} {y : xY} {np idx fr2 lo2 : Nat} (as : List xV) {q : Int → xM → Prop} {a ci : Nat} {Tf : u_T} {N : Nat} (hvc : vwCl[ci]? = some (y.1.cls, Tf, N)) (hci : ci < 8) (ha : a < n) (hT : (T a).1 = ci) (hy : xYb y np) (hins : Cond.instanceMethod y.1 ∈ WS) (hsel : Cond.selects y.1.cls y.1 y.1 ∈ WS) (hlk : xMl own idx y.1) (hnp : as.length = np) (hst : as.reverse ++ xR a :: st = st0) (hC : xC Γ.1 Γ.2.2.1 y fr2 lo2 0 0 (xR a :: as) n T M (xPI n T q)) (hRo : fr2 + 1 ≤ fr ∧ 8 + (y.2.2.1 + 11) + lo2 ≤ lo) (hCe : cells ≤ mc ∧ slots ≤ ms) (hcat : (st.map xcat).sum ≤ 8) (hd : decode cc pc = .ok (.invokevirtual idx, 3)) (kk : ∀ z M2, q z M2 → xX Γ cells slots n T (pc + 3) L (xI z :: st) M2) : xX Γ cells slots n T pc L st0 M := by
  subst hst
  refine x_callV G hvc hci ha hT hy hins hsel hlk hnp hC hRo hCe hcat hd fun r n2 T2 M2 h => ?_
  obtain ⟨rfl, rfl, z, rfl, h⟩ := h
  exact kk z M2 h
theorem x_callVL {Γ : xΓ} {own : String} {cc : ByteArray} {nL fr lo mc ms : Nat} (G : xG Γ own cc nL fr lo mc ms) {cells slots n pc : Nat} {T : xT} {L : List (Nat × xV)} (st : List xV) {st0 : List xV} {M : xM} {y : xY} {np idx fr2 lo2 : Nat} (as : List xV) {q : Int → xM → Prop} {a ci : Nat} {Tf : u_T} {N : Nat} (hvc : vwCl[ci]? = some (y.1.cls, Tf, N)) (hci : ci < 8) (ha : a < n) (hT : (T a).1 = ci) (hy : xYb y np) (hins : Cond.instanceMethod y.1 ∈ WS) (hsel : Cond.selects y.1.cls y.1 y.1 ∈ WS) (hlk : xMl own idx y.1) (hnp : as.length = np) (hst : as.reverse ++ xR a :: st = st0) (hC : xC Γ.1 Γ.2.2.1 y fr2 lo2 0 0 (xR a :: as) n T M (xPL n T q)) (hRo : fr2 + 1 ≤ fr ∧ 8 + (y.2.2.1 + 11) + lo2 ≤ lo) (hCe : cells ≤ mc ∧ slots ≤ ms) (hcat : (st.map xcat).sum ≤ 8) (hd : decode cc pc = .ok (.invokevirtual idx, 3)) (kk : ∀ z M2, q z M2 → xX Γ cells slots n T (pc + 3) L (xL z :: st) M2) : xX Γ cells slots n T pc L st0 M := by
  subst hst
  refine x_callV G hvc hci ha hT hy hins hsel hlk hnp hC hRo hCe hcat hd fun r n2 T2 M2 h => ?_
  obtain ⟨rfl, rfl, z, rfl, h⟩ := h
  exact kk z M2 h
theorem x_callVV {Γ : xΓ} {own : String} {cc : ByteArray} {nL fr lo mc ms : Nat} (G : xG Γ own cc nL fr lo mc ms) {cells slots n pc : Nat} {T : xT} {L : List (Nat × xV)} (st : List xV) {st0 : List xV} {M : xM} {y : xY} {np idx fr2 lo2 : Nat} (as : List xV) {q : xM → Prop} {a ci : Nat} {Tf : u_T} {N : Nat} (hvc : vwCl[ci]? = some (y.1.cls, Tf, N)) (hci : ci < 8) (ha : a < n) (hT : (T a).1 = ci) (hy : xYb y np) (hins : Cond.instanceMethod y.1 ∈ WS) (hsel : Cond.selects y.1.cls y.1 y.1 ∈ WS) (hlk : xMl own idx y.1) (hnp : as.length = np) (hst : as.reverse ++ xR a :: st = st0) (hC : xC Γ.1 Γ.2.2.1 y fr2 lo2 0 0 (xR a :: as) n T M (xPV n T q)) (hRo : fr2 + 1 ≤ fr ∧ 8 + (y.2.2.1 + 11) + lo2 ≤ lo) (hCe : cells ≤ mc ∧ slots ≤ ms) (hcat : (st.map xcat).sum ≤ 8) (hd : decode cc pc = .ok (.invokevirtual idx, 3)) (kk : ∀ M2, q M2 → xX Γ cells slots n T (pc + 3) L st M2) : xX Γ cells slots n T pc L st0 M := by
  subst hst
  refine x_callV G hvc hci ha hT hy hins hsel hlk hnp hC hRo hCe hcat hd fun r n2 T2 M2 h => ?_
  obtain ⟨rfl, rfl, rfl, h⟩ := h
  exact kk M2 h
theorem x_callIV {Γ : xΓ} {own : String} {cc : ByteArray} {nL fr lo mc ms : Nat} (G : xG Γ own cc nL fr lo mc ms) {cells slots n pc : Nat} {T : xT} {L : List (Nat × xV)} (st : List xV) {st0 : List xV} {M : xM} {y : xY} {np idx fr2 lo2 : Nat} (as : List xV) {q : xM → Prop} {a : Nat} (hy : xYb y np) (hins : Cond.instanceMethod y.1 ∈ WS) (hini : y.1.name = "<init>") (hret : y.2.2.2 = none) (hlk : xMl own idx y.1) (hnp : as.length = np) (hst : as.reverse ++ xR a :: st = st0) (hC : xC Γ.1 Γ.2.2.1 y fr2 lo2 0 0 (xR a :: as) n T M (xPV n T q)) (hRo : fr2 + 1 ≤ fr ∧ 8 + (y.2.2.1 + 11) + lo2 ≤ lo) (hCe : cells ≤ mc ∧ slots ≤ ms) (hcat : (st.map xcat).sum ≤ 8) (hd : decode cc pc = .ok (.invokespecial idx, 3)) (kk : ∀ M2, q M2 → xX Γ cells slots n T (pc + 3) L st M2) : xX Γ cells slots n T pc L st0 M := by
  subst hst
  refine x_callI G hy hins hini hret hlk hnp hC hRo hCe hcat hd fun r n2 T2 M2 h => ?_
  obtain ⟨rfl, rfl, rfl, h⟩ := h
  exact kk M2 h
/-- the cells in the order in which the two constructors make them: kinds, lengths, references -/
def cK : List Nat := [6, 3, 1, 10, 10, 9, 9, 9, 9, 9, 11, 9, 9, 9, 0, 12, 3, 1, 10, 10, 9, 9, 9, 9, 9, 11, 9, 9, 9, 3, 1, 10, 10, 9, 9, 9, 9, 9, 11, 9, 9, 9, 3, 1, 10, 10, 9, 9, 9, 9, 9, 11, 9, 9, 9, 3, 1, 10, 10, 9, 9, 9, 9, 9, 11, 9, 9, 9, 3, 1, 10, 10, 9, 9, 9, 9, 9, 11, 9, 9, 9, 3, 1, 10, 10, 9, 9, 9, 9, 9, 11, 9, 9, 9, 3, 1, 10, 10, 9, 9, 9, 9, 9, 11, 9, 9, 9, 3, 1, 10, 10, 9, 9, 9, 9, 9, 11, 9, 9, 9, 3, 1, 10, 10, 9, 9, 9, 9, 9, 11, 9, 9, 9, 3, 1, 10, 10, 9, 9, 9, 9, 9, 11, 9, 9, 9, 4, 9, 3, 1, 10, 10, 9, 9, 9, 9, 9, 11, 9, 9, 9, 12, 2, 9, 9, 2, 9, 9, 5, 3, 1, 10, 10, 9, 9, 9, 9, 9, 11, 9, 9, 9, 3, 1, 10, 10, 9, 9, 9, 9, 9, 11, 9, 9, 9, 7, 9, 9, 9, 11, 9, 9, 9, 9, 9, 9, 9, 8]
def cN : List Nat := [0, 0, 0, 5, 5, 100, 100, 100, 100, 100, 100, 100, 4, 4, 0, 10, 0, 0, 5, 5, 100, 100, 100, 100, 100, 100, 100, 4, 4, 0, 0, 5, 5, 100, 100, 100, 100, 100, 100, 100, 4, 4, 0, 0, 5, 5, 100, 100, 100, 100, 100, 100, 100, 4, 4, 0, 0, 5, 5, 100, 100, 100, 100, 100, 100, 100, 4, 4, 0, 0, 5, 5, 100, 100, 100, 100, 100, 100, 100, 4, 4, 0, 0, 5, 5, 100, 100, 100, 100, 100, 100, 100, 4, 4, 0, 0, 5, 5, 100, 100, 100, 100, 100, 100, 100, 4, 4, 0, 0, 5, 5, 100, 100, 100, 100, 100, 100, 100, 4, 4, 0, 0, 5, 5, 100, 100, 100, 100, 100, 100, 100, 4, 4, 0, 0, 5, 5, 100, 100, 100, 100, 100, 100, 100, 4, 4, 0, 400, 0, 0, 5, 5, 100, 100, 100, 100, 100, 100, 100, 4, 4, 2, 0, 100, 26, 0, 100, 26, 0, 0, 0, 5, 5, 100, 100, 100, 100, 100, 100, 100, 4, 4, 0, 0, 5, 5, 100, 100, 100, 100, 100, 100, 100, 4, 4, 0, 511, 5110, 1022, 2, 64, 64, 100, 100, 12, 26, 511, 400]
def cR : List (List (Option Nat)) := [[some 1, some 14, some 146, some 161, some 162, some 165, some 168], [some 2, some 5, some 6, some 7, some 8, some 9, some 10, some 11, some 12, some 13], [some 3, some 4], [], [], [], [], [], [], [], [], [], [], [], [some 15], [some 16, some 29, some 42, some 55, some 68, some 81, some 94, some 107, some 120, some 133], [some 17, some 20, some 21, some 22, some 23, some 24, some 25, some 26, some 27, some 28], [some 18, some 19], [], [], [], [], [], [], [], [], [], [], [], [some 30, some 33, some 34, some 35, some 36, some 37, some 38, some 39, some 40, some 41], [some 31, some 32], [], [], [], [], [], [], [], [], [], [], [], [some 43, some 46, some 47, some 48, some 49, some 50, some 51, some 52, some 53, some 54], [some 44, some 45], [], [], [], [], [], [], [], [], [], [], [], [some 56, some 59, some 60, some 61, some 62, some 63, some 64, some 65, some 66, some 67], [some 57, some 58], [], [], [], [], [], [], [], [], [], [], [], [some 69, some 72, some 73, some 74, some 75, some 76, some 77, some 78, some 79, some 80], [some 70, some 71], [], [], [], [], [], [], [], [], [], [], [], [some 82, some 85, some 86, some 87, some 88, some 89, some 90, some 91, some 92, some 93], [some 83, some 84], [], [], [], [], [], [], [], [], [], [], [], [some 95, some 98, some 99, some 100, some 101, some 102, some 103, some 104, some 105, some 106], [some 96, some 97], [], [], [], [], [], [], [], [], [], [], [], [some 108, some 111, some 112, some 113, some 114, some 115, some 116, some 117, some 118, some 119], [some 109, some 110], [], [], [], [], [], [], [], [], [], [], [], [some 121, some 124, some 125, some 126, some 127, some 128, some 129, some 130, some 131, some 132], [some 122, some 123], [], [], [], [], [], [], [], [], [], [], [], [some 134, some 137, some 138, some 139, some 140, some 141, some 142, some 143, some 144, some 145], [some 135, some 136], [], [], [], [], [], [], [], [], [], [], [], [some 147, some 148], [], [some 149, some 152, some 153, some 154, some 155, some 156, some 157, some 158, some 159, some 160], [some 150, some 151], [], [], [], [], [], [], [], [], [], [], [], [some 169, some 182], [some 163, some 164], [], [], [some 166, some 167], [], [], [], [some 170, some 173, some 174, some 175, some 176, some 177, some 178, some 179, some 180, some 181], [some 171, some 172], [], [], [], [], [], [], [], [], [], [], [], [some 183, some 186, some 187, some 188, some 189, some 190, some 191, some 192, some 193, some 194], [some 184, some 185], [], [], [], [], [], [], [], [], [], [], [], [some 196, some 197, none, some 198, some 199, some 200, some 201, some 202, none, some 203, none, some 204, some 205, some 206, none, none, none, some 207], [], [], [], [], [], [], [], [], [], [], [], []]
def stK : List Nat := [3, 1, 10, 10, 9, 9, 9, 9, 9, 11, 9, 9, 9]
def stN : List Nat := [0, 0, 5, 5, 100, 100, 100, 100, 100, 100, 100, 4, 4]
def stR : List (List (Option Nat)) := [[some 1, some 4, some 5, some 6, some 7, some 8, some 9, some 10, some 11, some 12], [some 2, some 3], [], [], [], [], [], [], [], [], [], [], []]
def saK : List Nat := [2, 9, 9]
def saN : List Nat := [0, 100, 26]
def saR : List (List (Option Nat)) := [[some 1, some 2], [], []]
/-- the layout of a State at a, of a Sampler at a, of all 208 cells -/
def StL (n : Nat) (T : xT) (a : Nat) : Prop := a + 13 ≤ n ∧ ∀ i, i < 13 → (T (a + i)).1 = stK.getD i 0 ∧ (T (a + i)).2.1 = stN.getD i 0 ∧ ∀ j, j < 10 → (T (a + i)).2.2 j = ((stR.getD i []).getD j none).map (a + ·)
def SaL (n : Nat) (T : xT) (a : Nat) : Prop := a + 3 ≤ n ∧ ∀ i, i < 3 → (T (a + i)).1 = saK.getD i 0 ∧ (T (a + i)).2.1 = saN.getD i 0 ∧ ∀ j, j < 2 → (T (a + i)).2.2 j = ((saR.getD i []).getD j none).map (a + ·)
def LayOK (n : Nat) (T : xT) : Prop := n = 208 ∧ ∀ k, k < 208 → (T k).1 = cK.getD k 0 ∧ (T k).2.1 = cN.getD k 0 ∧ ∀ j, j < 22 → (T k).2.2 j = (cR.getD k []).getD j none
theorem st_n {n a : Nat} {T : xT} (h : StL n T a) (i : Nat) (hi : i < 13) : a + i < n := by have := h.1; omega
theorem st_k {n a : Nat} {T : xT} (h : StL n T a) (i : Nat) (hi : i < 13) : (T (a + i)).1 = stK.getD i 0 := (h.2 i hi).1
theorem st_l {n a : Nat} {T : xT} (h : StL n T a) (i : Nat) (hi : i < 13) : (T (a + i)).2.1 = stN.getD i 0 := (h.2 i hi).2.1
theorem st_r {n a : Nat} {T : xT} (h : StL n T a) (i j : Nat) (hi : i < 13) (hj : j < 10) : (T (a + i)).2.2 j = ((stR.getD i []).getD j none).map (a + ·) := (h.2 i hi).2.2 j hj
theorem sa_n {n a : Nat} {T : xT} (h : SaL n T a) (i : Nat) (hi : i < 3) : a + i < n := by have := h.1; omega
theorem sa_k {n a : Nat} {T : xT} (h : SaL n T a) (i : Nat) (hi : i < 3) : (T (a + i)).1 = saK.getD i 0 := (h.2 i hi).1
theorem sa_l {n a : Nat} {T : xT} (h : SaL n T a) (i : Nat) (hi : i < 3) : (T (a + i)).2.1 = saN.getD i 0 := (h.2 i hi).2.1
theorem sa_r {n a : Nat} {T : xT} (h : SaL n T a) (i j : Nat) (hi : i < 3) (hj : j < 2) : (T (a + i)).2.2 j = ((saR.getD i []).getD j none).map (a + ·) := (h.2 i hi).2.2 j hj
theorem ly_n {n : Nat} {T : xT} (h : LayOK n T) (k : Nat) (hk : k < 208) : k < n := by have := h.1; omega
theorem ly_k {n : Nat} {T : xT} (h : LayOK n T) (k : Nat) (hk : k < 208) : (T k).1 = cK.getD k 0 := (h.2 k hk).1
theorem ly_l {n : Nat} {T : xT} (h : LayOK n T) (k : Nat) (hk : k < 208) : (T k).2.1 = cN.getD k 0 := (h.2 k hk).2.1
theorem ly_r {n : Nat} {T : xT} (h : LayOK n T) (k j : Nat) (hk : k < 208) (hj : j < 22) : (T k).2.2 j = (cR.getD k []).getD j none := (h.2 k hk).2.2 j hj
theorem ly_st {n : Nat} {T : xT} (h : LayOK n T) (a : Nat) (ha : a + 13 ≤ 208) (hd : ∀ i, i < 13 → cK.getD (a + i) 0 = stK.getD i 0 ∧ cN.getD (a + i) 0 = stN.getD i 0 ∧ ∀ j, j < 10 → (cR.getD (a + i) []).getD j none = ((stR.getD i []).getD j none).map (a + ·)) : StL n T a :=
  ⟨by have := h.1; omega, fun i hi => ⟨(ly_k h (a + i) (by omega)).trans (hd i hi).1, (ly_l h (a + i) (by omega)).trans (hd i hi).2.1, fun j hj => (ly_r h (a + i) j (by omega) (by omega)).trans ((hd i hi).2.2 j hj)⟩⟩
theorem ly_sa {n : Nat} {T : xT} (h : LayOK n T) (a : Nat) (ha : a + 3 ≤ 208) (hd : ∀ i, i < 3 → cK.getD (a + i) 0 = saK.getD i 0 ∧ cN.getD (a + i) 0 = saN.getD i 0 ∧ ∀ j, j < 2 → (cR.getD (a + i) []).getD j none = ((saR.getD i []).getD j none).map (a + ·)) : SaL n T a :=
  ⟨by have := h.1; omega, fun i hi => ⟨(ly_k h (a + i) (by omega)).trans (hd i hi).1, (ly_l h (a + i) (by omega)).trans (hd i hi).2.1, fun j hj => (ly_r h (a + i) j (by omega) (by omega)).trans ((hd i hi).2.2 j hj)⟩⟩
theorem ly_st1 {n : Nat} {T : xT} (h : LayOK n T) : StL n T 1 := ly_st h 1 (by decide) (by decide +kernel)
theorem ly_st16 {n : Nat} {T : xT} (h : LayOK n T) : StL n T 16 := ly_st h 16 (by decide) (by decide +kernel)
theorem ly_st29 {n : Nat} {T : xT} (h : LayOK n T) : StL n T 29 := ly_st h 29 (by decide) (by decide +kernel)
theorem ly_st42 {n : Nat} {T : xT} (h : LayOK n T) : StL n T 42 := ly_st h 42 (by decide) (by decide +kernel)
theorem ly_st55 {n : Nat} {T : xT} (h : LayOK n T) : StL n T 55 := ly_st h 55 (by decide) (by decide +kernel)
theorem ly_st68 {n : Nat} {T : xT} (h : LayOK n T) : StL n T 68 := ly_st h 68 (by decide) (by decide +kernel)
theorem ly_st81 {n : Nat} {T : xT} (h : LayOK n T) : StL n T 81 := ly_st h 81 (by decide) (by decide +kernel)
theorem ly_st94 {n : Nat} {T : xT} (h : LayOK n T) : StL n T 94 := ly_st h 94 (by decide) (by decide +kernel)
theorem ly_st107 {n : Nat} {T : xT} (h : LayOK n T) : StL n T 107 := ly_st h 107 (by decide) (by decide +kernel)
theorem ly_st120 {n : Nat} {T : xT} (h : LayOK n T) : StL n T 120 := ly_st h 120 (by decide) (by decide +kernel)
theorem ly_st133 {n : Nat} {T : xT} (h : LayOK n T) : StL n T 133 := ly_st h 133 (by decide) (by decide +kernel)
theorem ly_st148 {n : Nat} {T : xT} (h : LayOK n T) : StL n T 148 := ly_st h 148 (by decide) (by decide +kernel)
theorem ly_st169 {n : Nat} {T : xT} (h : LayOK n T) : StL n T 169 := ly_st h 169 (by decide) (by decide +kernel)
theorem ly_st182 {n : Nat} {T : xT} (h : LayOK n T) : StL n T 182 := ly_st h 182 (by decide) (by decide +kernel)
theorem ly_sa162 {n : Nat} {T : xT} (h : LayOK n T) : SaL n T 162 := ly_sa h 162 (by decide) (by decide +kernel)
theorem ly_sa165 {n : Nat} {T : xT} (h : LayOK n T) : SaL n T 165 := ly_sa h 165 (by decide) (by decide +kernel)
