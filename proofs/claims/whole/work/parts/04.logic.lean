/-! links to private members of nest mates; the String constants with their bytes -/
def xnF : List (String × Nat × String × String × String) := [("FairDraws$Teller", 72, "FairDraws$State", "shardOf", "[I"), ("FairDraws$Sampler", 67, "FairDraws$State", "shardOf", "[I"), ("FairDraws", 133, "FairDraws$State", "shardOf", "[I"), ("FairDraws$Teller", 78, "FairDraws$State", "labelOf", "[I"), ("FairDraws$Sampler", 60, "FairDraws$State", "labelOf", "[I"), ("FairDraws", 147, "FairDraws$State", "labelOf", "[I"), ("FairDraws$Teller", 81, "FairDraws$State", "weightOf", "[I"), ("FairDraws", 123, "FairDraws$State", "weightOf", "[I"), ("FairDraws$Teller", 84, "FairDraws$State", "lotOf", "[I"), ("FairDraws", 126, "FairDraws$State", "lotOf", "[I"), ("FairDraws$Teller", 34, "FairDraws$State", "timeOf", "[I"), ("FairDraws", 190, "FairDraws$State", "timeOf", "[I"), ("FairDraws$Teller", 30, "FairDraws$State", "isDropped", "[Z"), ("FairDraws", 129, "FairDraws$State", "isDropped", "[Z"), ("FairDraws$Sampler", 57, "FairDraws$State", "ranked", "[I"), ("FairDraws$Sampler", 33, "FairDraws$State", "sizes", "[I"), ("FairDraws$Teller", 62, "FairDraws$State", "sizes", "[I"), ("FairDraws$Tape", 84, "FairDraws$State", "sizes", "[I"), ("FairDraws", 113, "FairDraws$State", "sizes", "[I"), ("FairDraws$Teller", 67, "FairDraws$State", "windows", "[I"), ("FairDraws$Tape", 87, "FairDraws$State", "windows", "[I"), ("FairDraws", 117, "FairDraws$State", "windows", "[I"), ("FairDraws$Teller", 25, "FairDraws$State", "came", "I"), ("FairDraws$Sampler", 54, "FairDraws$State", "came", "I"), ("FairDraws", 83, "FairDraws$State", "came", "I"), ("FairDraws$Tape", 103, "FairDraws$State", "came", "I"), ("FairDraws$Teller", 46, "FairDraws$State", "tick", "I"), ("FairDraws$Sampler", 41, "FairDraws$State", "tick", "I"), ("FairDraws", 109, "FairDraws$State", "tick", "I"), ("FairDraws$Tape", 93, "FairDraws$State", "tick", "I"), ("FairDraws$Teller", 55, "FairDraws$State", "seed", "I"), ("FairDraws$Tape", 91, "FairDraws$State", "seed", "I"), ("FairDraws", 173, "FairDraws$State", "seed", "I"), ("FairDraws", 180, "FairDraws$History", "length", "I"), ("FairDraws", 70, "FairDraws$Tape", "draft", "LFairDraws$State;"), ("FairDraws", 55, "FairDraws$Tape", "length", "I"), ("FairDraws", 227, "FairDraws$Sampler", "found", "[I"), ("FairDraws", 260, "FairDraws$Sampler", "ofLabel", "[I"), ("FairDraws", 154, "FairDraws$Sampler", "n", "I"), ("FairDraws", 236, "FairDraws$Sampler", "set", "I"), ("FairDraws", 211, "FairDraws$Sampler", "most", "I"), ("FairDraws", 275, "FairDraws$Sampler", "tick", "I"), ("FairDraws", 289, "FairDraws$Sampler", "upTo", "I"), ("FairDraws", 276, "FairDraws$Sampler", "leftOut", "I"), ("FairDraws", 230, "FairDraws$Sampler", "cap", "I")]
def xnM : List (String × Nat × MethodName) := [("FairDraws$State", 11, ⟨"FairDraws$Keys", "<init>", "()V"⟩), ("FairDraws", 25, ⟨"FairDraws$Tape", "<init>", "()V"⟩), ("FairDraws", 36, ⟨"FairDraws$Sampler", "<init>", "()V"⟩), ("FairDraws", 46, ⟨"FairDraws$Teller", "<init>", "()V"⟩), ("FairDraws$Tape", 113, ⟨"FairDraws", "isWithin", "(III)Z"⟩), ("FairDraws$State", 68, ⟨"FairDraws", "seedOfNextLot", "(I)I"⟩), ("FairDraws$State", 72, ⟨"FairDraws", "lotOfSeed", "(I)I"⟩), ("FairDraws$State", 60, ⟨"FairDraws", "isWithin", "(III)Z"⟩)]
def xStr : List (String × Nat × String × List Int) := [("FairDraws$Tape", 45, "size", [115, 105, 122, 101]), ("FairDraws$Tape", 54, "window", [119, 105, 110, 100, 111, 119]), ("FairDraws$Tape", 59, "seed", [115, 101, 101, 100]), ("FairDraws$Tape", 64, "wait", [119, 97, 105, 116]), ("FairDraws$Tape", 70, "item", [105, 116, 101, 109]), ("FairDraws$Tape", 101, "times", [116, 105, 109, 101, 115]), ("FairDraws$Tape", 75, "key", [107, 101, 121]), ("FairDraws$Teller", 60, "size", [115, 105, 122, 101]), ("FairDraws$Teller", 65, "window", [119, 105, 110, 100, 111, 119]), ("FairDraws$Teller", 87, "wait", [119, 97, 105, 116]), ("FairDraws$Teller", 70, "key", [107, 101, 121]), ("FairDraws$Teller", 49, "seed", [115, 101, 101, 100]), ("FairDrawsModel", 264, "size", [115, 105, 122, 101]), ("FairDrawsModel", 266, "window", [119, 105, 110, 100, 111, 119]), ("FairDrawsModel", 255, "wait", [119, 97, 105, 116]), ("FairDrawsModel", 271, "key", [107, 101, 121]), ("FairDrawsModel", 273, "seed", [115, 101, 101, 100]), ("FairDrawsModel", 339, "item", [105, 116, 101, 109]), ("FairDrawsModel", 322, "times", [116, 105, 109, 101, 115])]
def xES (D : xD) (U : State) : Prop :=
  (∀ (i : Nat) (q : String × Nat × String × List Int), xStr[i]? = some q → vk_R q.1 q.2.1 q.2.2.1 (D.1 (1000000 + i)) U ∧ va_O "java/lang/String" (D.1 (1000000 + i)) (xA D.2.2.1) U U.heap ∧ va_OF "java/lang/String" "coder" "B" (.int 0) (D.1 (1000000 + i)) (xA D.2.2.1) U U.heap ∧ va_OF "java/lang/String" "value" "[B" (.ref (D.1 (2000000 + i))) (D.1 (1000000 + i)) (xA D.2.2.1) U U.heap ∧ va_T .byte (D.1 (2000000 + i)) q.2.2.2.length (fun j => .int (Int32.ofInt (q.2.2.2.getD j 0))) (xA D.2.2.1) U U.heap)
  ∧ va_Z "java/lang/String" "COMPACT_STRINGS" "Z" (.int 1) (xA D.2.2.1) U U.heap ∧ va_Zq "jdk/internal/util/Preconditions" "SIOOBE_FORMATTER" "Ljava/util/function/BiFunction;" (xA D.2.2.1) U U.heap
/-- what a state's tables and its old cells say, whoever asks -/
def xE (D : xD) (U : State) : Prop :=
  (∀ k, k < 1000000 → D.1 k = D.2.2.1 + k) ∧ va_K D.2.2.2 vwCl (xty D.2.1) U ∧ (∀ q ∈ xnF, va_Nw (.fieldLinkNest q.1 q.2.1 q.2.2.1 q.2.2.2.1 q.2.2.2.2 "FairDraws") U) ∧ (∀ q ∈ xnM, va_Nw (.methodLinkNest q.1 q.2.1 q.2.2 "FairDraws") U) ∧ va_AO "FairDraws$State" U ∧ xES D U
theorem xE.same {D : xD} {u U : State} (hv : U.vm = u.vm) (hh : U.heap = u.heap) (h : xE D u) : xE D U := by
  obtain ⟨h1, h2, h3, h4, h0, h5, h6, h7⟩ := h
  have ha : u.vm.Alike U.vm := by rw [hv]; exact Vm.Alike.refl _
  refine ⟨h1, va_K.moved ha h2, fun q hq => va_Nw.same rfl hv.symm (h3 q hq), fun q hq => va_Nw.same rfl hv.symm (h4 q hq), va_AO.moved ha h0, fun i q hq => ?_, ?_, ?_⟩
  · obtain ⟨a1, a2, a3, a4, a5⟩ := h5 i q hq
    rw [hh]
    exact ⟨vk_R.same hv a1, a2.moved ha, a3.moved ha, a4.moved ha, a5.moved ha⟩
  · rw [hh]; exact h6.moved ha
  · rw [hh]; exact h7.moved ha
theorem xE.at {D : xD} {s U : State} {H : Heap} {locs : List Loc} (h : xE D s) (hS : va_S (xA D.2.2.1) s.heap H locs) (hh : U.heap = H) (hW : s.WarmedH U.vm) : xE D U := by
  obtain ⟨h1, h2, h3, h4, h0, h5, h6, h7⟩ := h
  have ha : s.vm.Alike U.vm := hW.alike
  subst hh
  refine ⟨h1, va_K.moved ha h2, fun q hq => va_Nw.warmF hW (h3 q hq), fun q hq => va_Nw.warmM hW (h4 q hq), va_AO.moved ha h0, fun i q hq => ?_, (h6.moved ha).kept hS.2.1, (h7.moved ha).kept hS.2.1⟩
  obtain ⟨a1, a2, a3, a4, a5⟩ := h5 i q hq
  exact ⟨vk_R.warm hW a1, (a2.moved ha).kept hS.2.1, (a3.moved ha).kept hS.2.1, (a4.moved ha).kept hS.2.1, (a5.moved ha).kept hS.2.1⟩
abbrev xKt : Type := Program × Launch × Env × Room × State × MethodId × Array Value × List Frame × Method × Code × (State → Prop)
abbrev xΓ : Type := xD × xKt
def xH (D : xD) (s : State) (n : Nat) (T : xT) (M : xM) (H : Heap) (locs : List Loc) : Prop :=
  va_P D.2.2.2 vwCl (xw D n T M) H ∧ va_D (xA D.2.2.1) (xw D n T M) ∧ va_S (xA D.2.2.1) s.heap H locs ∧ xr T M ∧ H.size = D.2.2.1 + n
def xX (Γ : xΓ) (cells slots n : Nat) (T : xT) (pc : Nat) (L : List (Nat × xV)) (st : List xV) (M : xM) : Prop := match Γ with
  | (D, p, l, e, R, s, m, args, below, meth, c, Q) => ∀ (ls : Array Slot) (H : Heap) (locs : List Loc), lv_has ls c.maxLocals (L.map fun q => (q.1, xc D.1 q.2)) → (∀ q ∈ L, xk q.2) → (∀ v ∈ st, xk v) → xH D s n T M H locs → W p l e R s m args below meth c H locs cells slots Q (F0 m pc ls (st.map (xc D.1)))
/-- what holds all along a method's walk: the machine, its code, its own class, the words, its room -/
def xG (Γ : xΓ) (own : String) (cc : ByteArray) (nL fr lo mc ms : Nat) : Prop := match Γ with
  | (D, p, _, _, R, s, m, args, _, _, c, _) => p.tables.exec = Jvm.exec ∧ c.code = cc ∧ c.maxLocals = nL ∧ s.vm.findClass own = some m.cls ∧ (∀ w ∈ WS, w.before args s = true) ∧ xE D s ∧ D.2.2.1 ≤ s.heap.size ∧ R = { frames := fr, cells := mc, slots := ms, locals := lo }
theorem x_iconst {Γ : xΓ} {own : String} {cc : ByteArray} {nL fr lo mc ms : Nat} (G : xG Γ own cc nL fr lo mc ms) {cells slots n pc : Nat} {T : xT} {L : List (Nat × xV)} {st : List xV} {M : xM} {z : Int} (hz : i32 z) (hd : decode cc pc = .ok (.iconst z, 1)) (k : xX Γ cells slots n T (pc + 1) L (xI z :: st) M) : xX Γ cells slots n T pc L st M := by
  obtain ⟨D, p, l, e, R, s, m, args, below, meth, c, Q⟩ := Γ
  obtain ⟨hx, hb, hml, hown, hts, hE, hB, hR⟩ := G
  intro ls H locs hl hL hs hH
  exact lv_iconst (v := Int32.ofInt z) hx hb hd rfl (k ls H locs hl hL (List.forall_mem_cons.mpr ⟨hz, hs⟩) hH)
theorem x_bipush {Γ : xΓ} {own : String} {cc : ByteArray} {nL fr lo mc ms : Nat} (G : xG Γ own cc nL fr lo mc ms) {cells slots n pc : Nat} {T : xT} {L : List (Nat × xV)} {st : List xV} {M : xM} {z : Int} (hz : -128 ≤ z ∧ z < 128) (hd : decode cc pc = .ok (.bipush z, 2)) (k : xX Γ cells slots n T (pc + 2) L (xI z :: st) M) : xX Γ cells slots n T pc L st M := by
  obtain ⟨D, p, l, e, R, s, m, args, below, meth, c, Q⟩ := Γ
  obtain ⟨hx, hb, hml, hown, hts, hE, hB, hR⟩ := G
  intro ls H locs hl hL hs hH
  refine lv_bipush (v := Int32.ofInt z) hx hb hd ?_ (k ls H locs hl hL (List.forall_mem_cons.mpr ⟨by show i32 z; omega, hs⟩) hH)
  apply Int32.toInt_inj.mp
  rw [Int8.toInt_toInt32, Int8.toInt_ofInt, x_toInt (by omega)]
  exact Int.bmod_eq_of_le (by simp; omega) (by simp; omega)
theorem x_sipush {Γ : xΓ} {own : String} {cc : ByteArray} {nL fr lo mc ms : Nat} (G : xG Γ own cc nL fr lo mc ms) {cells slots n pc : Nat} {T : xT} {L : List (Nat × xV)} {st : List xV} {M : xM} {z : Int} (hz : -32768 ≤ z ∧ z < 32768) (hd : decode cc pc = .ok (.sipush z, 3)) (k : xX Γ cells slots n T (pc + 3) L (xI z :: st) M) : xX Γ cells slots n T pc L st M := by
  obtain ⟨D, p, l, e, R, s, m, args, below, meth, c, Q⟩ := Γ
  obtain ⟨hx, hb, hml, hown, hts, hE, hB, hR⟩ := G
  intro ls H locs hl hL hs hH
  refine lv_sipush (v := Int32.ofInt z) hx hb hd ?_ (k ls H locs hl hL (List.forall_mem_cons.mpr ⟨by show i32 z; omega, hs⟩) hH)
  apply Int32.toInt_inj.mp
  rw [Int16.toInt_toInt32, Int16.toInt_ofInt, x_toInt (by omega)]
  exact Int.bmod_eq_of_le (by simp; omega) (by simp; omega)
theorem x_lconst {Γ : xΓ} {own : String} {cc : ByteArray} {nL fr lo mc ms : Nat} (G : xG Γ own cc nL fr lo mc ms) {cells slots n pc : Nat} {T : xT} {L : List (Nat × xV)} {st : List xV} {M : xM} {z : Fin 2} (hd : decode cc pc = .ok (.lconst z, 1)) (k : xX Γ cells slots n T (pc + 1) L (xL (z.val : Int) :: st) M) : xX Γ cells slots n T pc L st M := by
  obtain ⟨D, p, l, e, R, s, m, args, below, meth, c, Q⟩ := Γ
  obtain ⟨hx, hb, hml, hown, hts, hE, hB, hR⟩ := G
  intro ls H locs hl hL hs hH
  have hz := z.isLt
  exact lv_lconst (v := Int64.ofInt (z.val : Int)) hx hb hd (by apply Int64.toInt_inj.mp; rw [x_toInt64 (by omega)]; exact lN_toInt (by omega)) (k ls H locs hl hL (List.forall_mem_cons.mpr ⟨by show i64 _; omega, hs⟩) hH)
theorem x_ldc {Γ : xΓ} {own : String} {cc : ByteArray} {nL fr lo mc ms : Nat} (G : xG Γ own cc nL fr lo mc ms) {cells slots n pc : Nat} {T : xT} {L : List (Nat × xV)} {st : List xV} {M : xM} {idx : Nat} {z : Int} (hz : i32 z) (hw : Cond.constant own idx (Int32.ofInt z) ∈ WS) (hd : decode cc pc = .ok (.ldc idx, 2)) (k : xX Γ cells slots n T (pc + 2) L (xI z :: st) M) : xX Γ cells slots n T pc L st M := by
  obtain ⟨D, p, l, e, R, s, m, args, below, meth, c, Q⟩ := Γ
  obtain ⟨hx, hb, hml, hown, hts, hE, hB, hR⟩ := G
  intro ls H locs hl hL hs hH
  exact lv_ldc (v := Int32.ofInt z) hx hb hown (hts _ hw) hd (k ls H locs hl hL (List.forall_mem_cons.mpr ⟨hz, hs⟩) hH)
theorem x_ldcw {Γ : xΓ} {own : String} {cc : ByteArray} {nL fr lo mc ms : Nat} (G : xG Γ own cc nL fr lo mc ms) {cells slots n pc : Nat} {T : xT} {L : List (Nat × xV)} {st : List xV} {M : xM} {idx : Nat} {z : Int} (hz : i32 z) (hw : Cond.constant own idx (Int32.ofInt z) ∈ WS) (hd : decode cc pc = .ok (.ldc_w idx, 3)) (k : xX Γ cells slots n T (pc + 3) L (xI z :: st) M) : xX Γ cells slots n T pc L st M := by
  obtain ⟨D, p, l, e, R, s, m, args, below, meth, c, Q⟩ := Γ
  obtain ⟨hx, hb, hml, hown, hts, hE, hB, hR⟩ := G
  intro ls H locs hl hL hs hH
  exact lv_ldcw (v := Int32.ofInt z) hx hb hown (hts _ hw) hd (k ls H locs hl hL (List.forall_mem_cons.mpr ⟨hz, hs⟩) hH)
theorem x_ldcS {Γ : xΓ} {own : String} {cc : ByteArray} {nL fr lo mc ms : Nat} (G : xG Γ own cc nL fr lo mc ms) {cells slots n pc : Nat} {T : xT} {L : List (Nat × xV)} {st : List xV} {M : xM} {idx i : Nat} {tx : String} {bs : List Int} (hi : xStr[i]? = some (own, idx, tx, bs)) (hd : decode cc pc = .ok (.ldc idx, 2)) (k : xX Γ cells slots n T (pc + 2) L (xR (1000000 + i) :: st) M) : xX Γ cells slots n T pc L st M := by
  obtain ⟨D, p, l, e, R, s, m, args, below, meth, c, Q⟩ := Γ
  obtain ⟨hx, hb, hml, hown, hts, hE, hB, hR⟩ := G
  intro ls H locs hl hL hs hH
  exact va_ldcS hx hb hown (hE.2.2.2.2.2.1 i _ hi).1 hd (k ls H locs hl hL (List.forall_mem_cons.mpr ⟨True.intro, hs⟩) hH)
theorem x_ldcSw {Γ : xΓ} {own : String} {cc : ByteArray} {nL fr lo mc ms : Nat} (G : xG Γ own cc nL fr lo mc ms) {cells slots n pc : Nat} {T : xT} {L : List (Nat × xV)} {st : List xV} {M : xM} {idx i : Nat} {tx : String} {bs : List Int} (hi : xStr[i]? = some (own, idx, tx, bs)) (hd : decode cc pc = .ok (.ldc_w idx, 3)) (k : xX Γ cells slots n T (pc + 3) L (xR (1000000 + i) :: st) M) : xX Γ cells slots n T pc L st M := by
  obtain ⟨D, p, l, e, R, s, m, args, below, meth, c, Q⟩ := Γ
  obtain ⟨hx, hb, hml, hown, hts, hE, hB, hR⟩ := G
  intro ls H locs hl hL hs hH
  have hZ := (hE.2.2.2.2.2.1 i _ hi).1
  intro T9 hT9 X9
  obtain ⟨t, a1, b1⟩ := k ls H locs hl hL (List.forall_mem_cons.mpr ⟨True.intro, hs⟩) hH T9 hT9 X9
  exact ⟨t, X9.ldcStringW hx hown (text := tx) (a := D.1 (1000000 + i)) hZ.1 hZ.2 (g := F0 m pc ls (st.map (xc D.1))) rfl (by rw [hb]; exact hd) t a1, b1⟩
theorem x_ldc2 {Γ : xΓ} {own : String} {cc : ByteArray} {nL fr lo mc ms : Nat} (G : xG Γ own cc nL fr lo mc ms) {cells slots n pc : Nat} {T : xT} {L : List (Nat × xV)} {st : List xV} {M : xM} {idx : Nat} {z : Int} (hz : i64 z) (hw : Cond.constantLong own idx (Int64.ofInt z) ∈ WS) (hd : decode cc pc = .ok (.ldc2_w idx, 3)) (k : xX Γ cells slots n T (pc + 3) L (xL z :: st) M) : xX Γ cells slots n T pc L st M := by
  obtain ⟨D, p, l, e, R, s, m, args, below, meth, c, Q⟩ := Γ
  obtain ⟨hx, hb, hml, hown, hts, hE, hB, hR⟩ := G
  intro ls H locs hl hL hs hH
  exact lv_ldc2 (v := Int64.ofInt z) hx hb hown (hts _ hw) hd (k ls H locs hl hL (List.forall_mem_cons.mpr ⟨hz, hs⟩) hH)
theorem xl_at {σ : Nat → Nat} {L : List (Nat × xV)} {j i : Nat} {v : xV} (h : L[j]? = some (i, v)) : (L.map fun q => (q.1, xc σ q.2))[j]? = some (i, xc σ v) := by
  rw [List.getElem?_map, h]; rfl
theorem xl_ok {L : List (Nat × xV)} {j i : Nat} {v : xV} (hL : ∀ q ∈ L, xk q.2) (h : L[j]? = some (i, v)) : xk v := hL (i, v) (List.mem_of_getElem? h)
theorem x_iload_n {Γ : xΓ} {own : String} {cc : ByteArray} {nL fr lo mc ms : Nat} (G : xG Γ own cc nL fr lo mc ms) {cells slots n pc : Nat} {T : xT} {L : List (Nat × xV)} {st : List xV} {M : xM} {q : Fin 4} {i : Nat} {x : Int} (j : Nat) (hi : (q : Nat) = i) (hj : L[j]? = some (i, xI x)) (hd : decode cc pc = .ok (.iload_n q, 1)) (k : xX Γ cells slots n T (pc + 1) L (xI x :: st) M) : xX Γ cells slots n T pc L st M := by
  obtain ⟨D, p, l, e, R, s, m, args, below, meth, c, Q⟩ := Γ
  obtain ⟨hx, hb, hml, hown, hts, hE, hB, hR⟩ := G
  intro ls H locs hl hL hs hH
  exact lv_iload_n hx hb hd hi (lv_at hl j (xl_at hj)) (k ls H locs hl hL (List.forall_mem_cons.mpr ⟨xl_ok hL hj, hs⟩) hH)
theorem x_iload {Γ : xΓ} {own : String} {cc : ByteArray} {nL fr lo mc ms : Nat} (G : xG Γ own cc nL fr lo mc ms) {cells slots n pc : Nat} {T : xT} {L : List (Nat × xV)} {st : List xV} {M : xM} {i : Nat} {x : Int} (j : Nat) (hj : L[j]? = some (i, xI x)) (hd : decode cc pc = .ok (.iload i, 2)) (k : xX Γ cells slots n T (pc + 2) L (xI x :: st) M) : xX Γ cells slots n T pc L st M := by
  obtain ⟨D, p, l, e, R, s, m, args, below, meth, c, Q⟩ := Γ
  obtain ⟨hx, hb, hml, hown, hts, hE, hB, hR⟩ := G
  intro ls H locs hl hL hs hH
  exact lv_iload hx hb hd (lv_at hl j (xl_at hj)) (k ls H locs hl hL (List.forall_mem_cons.mpr ⟨xl_ok hL hj, hs⟩) hH)
theorem x_lload_n {Γ : xΓ} {own : String} {cc : ByteArray} {nL fr lo mc ms : Nat} (G : xG Γ own cc nL fr lo mc ms) {cells slots n pc : Nat} {T : xT} {L : List (Nat × xV)} {st : List xV} {M : xM} {q : Fin 4} {i : Nat} {x : Int} (j : Nat) (hi : (q : Nat) = i) (hj : L[j]? = some (i, xL x)) (hd : decode cc pc = .ok (.lload_n q, 1)) (k : xX Γ cells slots n T (pc + 1) L (xL x :: st) M) : xX Γ cells slots n T pc L st M := by
  obtain ⟨D, p, l, e, R, s, m, args, below, meth, c, Q⟩ := Γ
  obtain ⟨hx, hb, hml, hown, hts, hE, hB, hR⟩ := G
  intro ls H locs hl hL hs hH
  exact lv_lload_n hx hb hd hi (lv_at hl j (xl_at hj)) (k ls H locs hl hL (List.forall_mem_cons.mpr ⟨xl_ok hL hj, hs⟩) hH)
theorem x_lload {Γ : xΓ} {own : String} {cc : ByteArray} {nL fr lo mc ms : Nat} (G : xG Γ own cc nL fr lo mc ms) {cells slots n pc : Nat} {T : xT} {L : List (Nat × xV)} {st : List xV} {M : xM} {i : Nat} {x : Int} (j : Nat) (hj : L[j]? = some (i, xL x)) (hd : decode cc pc = .ok (.lload i, 2)) (k : xX Γ cells slots n T (pc + 2) L (xL x :: st) M) : xX Γ cells slots n T pc L st M := by
  obtain ⟨D, p, l, e, R, s, m, args, below, meth, c, Q⟩ := Γ
  obtain ⟨hx, hb, hml, hown, hts, hE, hB, hR⟩ := G
  intro ls H locs hl hL hs hH
  exact lv_lload hx hb hd (lv_at hl j (xl_at hj)) (k ls H locs hl hL (List.forall_mem_cons.mpr ⟨xl_ok hL hj, hs⟩) hH)
theorem x_aload_n {Γ : xΓ} {own : String} {cc : ByteArray} {nL fr lo mc ms : Nat} (G : xG Γ own cc nL fr lo mc ms) {cells slots n pc : Nat} {T : xT} {L : List (Nat × xV)} {st : List xV} {M : xM} {q : Fin 4} {i : Nat} {x : Nat} (j : Nat) (hi : (q : Nat) = i) (hj : L[j]? = some (i, xR x)) (hd : decode cc pc = .ok (.aload_n q, 1)) (k : xX Γ cells slots n T (pc + 1) L (xR x :: st) M) : xX Γ cells slots n T pc L st M := by
  obtain ⟨D, p, l, e, R, s, m, args, below, meth, c, Q⟩ := Γ
  obtain ⟨hx, hb, hml, hown, hts, hE, hB, hR⟩ := G
  intro ls H locs hl hL hs hH
  exact lv_aload_n hx hb hd hi (lv_at hl j (xl_at hj)) (k ls H locs hl hL (List.forall_mem_cons.mpr ⟨xl_ok hL hj, hs⟩) hH)
theorem x_aload {Γ : xΓ} {own : String} {cc : ByteArray} {nL fr lo mc ms : Nat} (G : xG Γ own cc nL fr lo mc ms) {cells slots n pc : Nat} {T : xT} {L : List (Nat × xV)} {st : List xV} {M : xM} {i : Nat} {x : Nat} (j : Nat) (hj : L[j]? = some (i, xR x)) (hd : decode cc pc = .ok (.aload i, 2)) (k : xX Γ cells slots n T (pc + 2) L (xR x :: st) M) : xX Γ cells slots n T pc L st M := by
  obtain ⟨D, p, l, e, R, s, m, args, below, meth, c, Q⟩ := Γ
  obtain ⟨hx, hb, hml, hown, hts, hE, hB, hR⟩ := G
  intro ls H locs hl hL hs hH
  exact lv_aload hx hb hd (lv_at hl j (xl_at hj)) (k ls H locs hl hL (List.forall_mem_cons.mpr ⟨xl_ok hL hj, hs⟩) hH)
theorem xl_f1 {σ : Nat → Nat} {L : List (Nat × xV)} {i : Nat} : (L.map fun q => (q.1, xc σ q.2)).filter (fun q => !(q.1 == i) && !(q.1 + 1 == i && q.2.category == 2)) = (L.filter (fun q => !(q.1 == i) && !(q.1 + 1 == i && xcat q.2 == 2))).map fun q => (q.1, xc σ q.2) := by
  rw [List.filter_map]
  congr 1
  apply List.filter_congr
  intro q _
  simp [Function.comp, xcat_eq]
theorem xl_f2 {σ : Nat → Nat} {L : List (Nat × xV)} {i : Nat} : (L.map fun q => (q.1, xc σ q.2)).filter (fun q => !(q.1 == i) && (!(q.1 == i + 1) && !(q.1 + 1 == i && q.2.category == 2))) = (L.filter (fun q => !(q.1 == i) && (!(q.1 == i + 1) && !(q.1 + 1 == i && xcat q.2 == 2)))).map fun q => (q.1, xc σ q.2) := by
  rw [List.filter_map]
  congr 1
  apply List.filter_congr
  intro q _
  simp [Function.comp, xcat_eq]
theorem xl_fk {L : List (Nat × xV)} {f : Nat × xV → Bool} {i : Nat} {v : xV} (hL : ∀ q ∈ L, xk q.2) (hv : xk v) : ∀ q ∈ (i, v) :: L.filter f, xk q.2 :=
  List.forall_mem_cons.mpr ⟨hv, fun q hq => hL q (List.mem_filter.mp hq).1⟩
theorem x_istore_n {Γ : xΓ} {own : String} {cc : ByteArray} {nL fr lo mc ms : Nat} (G : xG Γ own cc nL fr lo mc ms) {cells slots n pc : Nat} {T : xT} {L : List (Nat × xV)} {st : List xV} {M : xM} {q : Fin 4} {i : Nat} {x : Int} (L' : List (Nat × xV)) (hi : (q : Nat) = i) (hn : i < nL) (hL' : (i, xI x) :: L.filter (fun q => !(q.1 == i) && !(q.1 + 1 == i && xcat q.2 == 2)) = L') (hd : decode cc pc = .ok (.istore_n q, 1)) (k : xX Γ cells slots n T (pc + 1) L' st M) : xX Γ cells slots n T pc L (xI x :: st) M := by
  obtain ⟨D, p, l, e, R, s, m, args, below, meth, c, Q⟩ := Γ
  obtain ⟨hx, hb, hml, hown, hts, hE, hB, hR⟩ := G
  subst hL'
  intro ls H locs hl hL hs hH
  obtain ⟨hv, hs⟩ := List.forall_mem_cons.mp hs
  exact lv_istore_n hx hb hd hi hl (by rw [hml]; exact hn) (congrArg (List.cons _) xl_f1) (fun ls' hl' => k ls' H locs hl' (xl_fk hL hv) hs hH)
theorem x_istore {Γ : xΓ} {own : String} {cc : ByteArray} {nL fr lo mc ms : Nat} (G : xG Γ own cc nL fr lo mc ms) {cells slots n pc : Nat} {T : xT} {L : List (Nat × xV)} {st : List xV} {M : xM} {i : Nat} {x : Int} (L' : List (Nat × xV)) (hn : i < nL) (hL' : (i, xI x) :: L.filter (fun q => !(q.1 == i) && !(q.1 + 1 == i && xcat q.2 == 2)) = L') (hd : decode cc pc = .ok (.istore i, 2)) (k : xX Γ cells slots n T (pc + 2) L' st M) : xX Γ cells slots n T pc L (xI x :: st) M := by
  obtain ⟨D, p, l, e, R, s, m, args, below, meth, c, Q⟩ := Γ
  obtain ⟨hx, hb, hml, hown, hts, hE, hB, hR⟩ := G
  subst hL'
  intro ls H locs hl hL hs hH
  obtain ⟨hv, hs⟩ := List.forall_mem_cons.mp hs
  exact lv_istore hx hb hd hl (by rw [hml]; exact hn) (congrArg (List.cons _) xl_f1) (fun ls' hl' => k ls' H locs hl' (xl_fk hL hv) hs hH)
theorem x_astore_n {Γ : xΓ} {own : String} {cc : ByteArray} {nL fr lo mc ms : Nat} (G : xG Γ own cc nL fr lo mc ms) {cells slots n pc : Nat} {T : xT} {L : List (Nat × xV)} {st : List xV} {M : xM} {q : Fin 4} {i : Nat} {x : Nat} (L' : List (Nat × xV)) (hi : (q : Nat) = i) (hn : i < nL) (hL' : (i, xR x) :: L.filter (fun q => !(q.1 == i) && !(q.1 + 1 == i && xcat q.2 == 2)) = L') (hd : decode cc pc = .ok (.astore_n q, 1)) (k : xX Γ cells slots n T (pc + 1) L' st M) : xX Γ cells slots n T pc L (xR x :: st) M := by
  obtain ⟨D, p, l, e, R, s, m, args, below, meth, c, Q⟩ := Γ
  obtain ⟨hx, hb, hml, hown, hts, hE, hB, hR⟩ := G
  subst hL'
  intro ls H locs hl hL hs hH
  obtain ⟨hv, hs⟩ := List.forall_mem_cons.mp hs
  exact lv_astore_n hx hb hd hi hl (by rw [hml]; exact hn) (congrArg (List.cons _) xl_f1) (fun ls' hl' => k ls' H locs hl' (xl_fk hL hv) hs hH)
theorem x_astore {Γ : xΓ} {own : String} {cc : ByteArray} {nL fr lo mc ms : Nat} (G : xG Γ own cc nL fr lo mc ms) {cells slots n pc : Nat} {T : xT} {L : List (Nat × xV)} {st : List xV} {M : xM} {i : Nat} {x : Nat} (L' : List (Nat × xV)) (hn : i < nL) (hL' : (i, xR x) :: L.filter (fun q => !(q.1 == i) && !(q.1 + 1 == i && xcat q.2 == 2)) = L') (hd : decode cc pc = .ok (.astore i, 2)) (k : xX Γ cells slots n T (pc + 2) L' st M) : xX Γ cells slots n T pc L (xR x :: st) M := by
  obtain ⟨D, p, l, e, R, s, m, args, below, meth, c, Q⟩ := Γ
  obtain ⟨hx, hb, hml, hown, hts, hE, hB, hR⟩ := G
  subst hL'
  intro ls H locs hl hL hs hH
  obtain ⟨hv, hs⟩ := List.forall_mem_cons.mp hs
  exact lv_astore hx hb hd hl (by rw [hml]; exact hn) (congrArg (List.cons _) xl_f1) (fun ls' hl' => k ls' H locs hl' (xl_fk hL hv) hs hH)
theorem x_lstore_n {Γ : xΓ} {own : String} {cc : ByteArray} {nL fr lo mc ms : Nat} (G : xG Γ own cc nL fr lo mc ms) {cells slots n pc : Nat} {T : xT} {L : List (Nat × xV)} {st : List xV} {M : xM} {q : Fin 4} {i : Nat} {x : Int} (L' : List (Nat × xV)) (hi : (q : Nat) = i) (hn : i + 1 < nL) (hL' : (i, xL x) :: L.filter (fun q => !(q.1 == i) && (!(q.1 == i + 1) && !(q.1 + 1 == i && xcat q.2 == 2))) = L') (hd : decode cc pc = .ok (.lstore_n q, 1)) (k : xX Γ cells slots n T (pc + 1) L' st M) : xX Γ cells slots n T pc L (xL x :: st) M := by
  obtain ⟨D, p, l, e, R, s, m, args, below, meth, c, Q⟩ := Γ
  obtain ⟨hx, hb, hml, hown, hts, hE, hB, hR⟩ := G
  subst hL'
  intro ls H locs hl hL hs hH
  obtain ⟨hv, hs⟩ := List.forall_mem_cons.mp hs
  exact lv_lstore_n hx hb hd hi hl (by rw [hml]; exact hn) (congrArg (List.cons _) xl_f2) (fun ls' hl' => k ls' H locs hl' (xl_fk hL hv) hs hH)
theorem x_lstore {Γ : xΓ} {own : String} {cc : ByteArray} {nL fr lo mc ms : Nat} (G : xG Γ own cc nL fr lo mc ms) {cells slots n pc : Nat} {T : xT} {L : List (Nat × xV)} {st : List xV} {M : xM} {i : Nat} {x : Int} (L' : List (Nat × xV)) (hn : i + 1 < nL) (hL' : (i, xL x) :: L.filter (fun q => !(q.1 == i) && (!(q.1 == i + 1) && !(q.1 + 1 == i && xcat q.2 == 2))) = L') (hd : decode cc pc = .ok (.lstore i, 2)) (k : xX Γ cells slots n T (pc + 2) L' st M) : xX Γ cells slots n T pc L (xL x :: st) M := by
  obtain ⟨D, p, l, e, R, s, m, args, below, meth, c, Q⟩ := Γ
  obtain ⟨hx, hb, hml, hown, hts, hE, hB, hR⟩ := G
  subst hL'
  intro ls H locs hl hL hs hH
  obtain ⟨hv, hs⟩ := List.forall_mem_cons.mp hs
  exact lv_lstore hx hb hd hl (by rw [hml]; exact hn) (congrArg (List.cons _) xl_f2) (fun ls' hl' => k ls' H locs hl' (xl_fk hL hv) hs hH)
theorem x_iinc {Γ : xΓ} {own : String} {cc : ByteArray} {nL fr lo mc ms : Nat} (G : xG Γ own cc nL fr lo mc ms) {cells slots n pc : Nat} {T : xT} {L : List (Nat × xV)} {st : List xV} {M : xM} {i : Nat} {x z : Int} (L' : List (Nat × xV)) (j : Nat) (hj : L[j]? = some (i, xI x)) (hn : i < nL) (ho : i32 (x + z)) (hL' : (i, xI (x + z)) :: L.filter (fun q => !(q.1 == i) && !(q.1 + 1 == i && xcat q.2 == 2)) = L') (hd : decode cc pc = .ok (.iinc i z, 3)) (k : xX Γ cells slots n T (pc + 3) L' st M) : xX Γ cells slots n T pc L st M := by
  obtain ⟨D, p, l, e, R, s, m, args, below, meth, c, Q⟩ := Γ
  obtain ⟨hx, hb, hml, hown, hts, hE, hB, hR⟩ := G
  subst hL'
  intro ls H locs hl hL hs hH
  exact lv_iinc (v := Int32.ofInt (x + z)) hx hb hd hl (xl_at hj) (Int32.ofInt_add x z).symm (by rw [hml]; exact hn) (congrArg (List.cons _) xl_f1) (fun ls' hl' => k ls' H locs hl' (xl_fk hL ho) hs hH)
theorem x_iincW {Γ : xΓ} {own : String} {cc : ByteArray} {nL fr lo mc ms : Nat} (G : xG Γ own cc nL fr lo mc ms) {cells slots n pc : Nat} {T : xT} {L : List (Nat × xV)} {st : List xV} {M : xM} {i : Nat} {x z : Int} (L' : List (Nat × xV)) (j : Nat) (hj : L[j]? = some (i, xI x)) (hn : i < nL) (ho : i32 (x + z)) (hL' : (i, xI (x + z)) :: L.filter (fun q => !(q.1 == i) && !(q.1 + 1 == i && xcat q.2 == 2)) = L') (hd : decode cc pc = .ok (.iinc i z, 6)) (k : xX Γ cells slots n T (pc + 6) L' st M) : xX Γ cells slots n T pc L st M := by
  obtain ⟨D, p, l, e, R, s, m, args, below, meth, c, Q⟩ := Γ
  obtain ⟨hx, hb, hml, hown, hts, hE, hB, hR⟩ := G
  subst hL'
  intro ls H locs hl hL hs hH
  exact lv_iincW (v := Int32.ofInt (x + z)) hx hb hd hl (xl_at hj) (Int32.ofInt_add x z).symm (by rw [hml]; exact hn) (congrArg (List.cons _) xl_f1) (fun ls' hl' => k ls' H locs hl' (xl_fk hL ho) hs hH)
theorem x_iadd {Γ : xΓ} {own : String} {cc : ByteArray} {nL fr lo mc ms : Nat} (G : xG Γ own cc nL fr lo mc ms) {cells slots n pc : Nat} {T : xT} {L : List (Nat × xV)} {st : List xV} {M : xM} {x y : Int} (ho : i32 (x + y)) (hd : decode cc pc = .ok (.iadd, 1)) (k : xX Γ cells slots n T (pc + 1) L (xI (x + y) :: st) M) : xX Γ cells slots n T pc L (xI y :: xI x :: st) M := by
  obtain ⟨D, p, l, e, R, s, m, args, below, meth, c, Q⟩ := Γ
  obtain ⟨hx, hb, hml, hown, hts, hE, hB, hR⟩ := G
  intro ls H locs hl hL hs hH
  obtain ⟨hy, hs⟩ := List.forall_mem_cons.mp hs
  obtain ⟨hxx, hs⟩ := List.forall_mem_cons.mp hs
  refine lv_iadd hx hb hd ?_
  have h9 := k ls H locs hl hL (List.forall_mem_cons.mpr ⟨ho, hs⟩) hH
  rw [List.map_cons] at h9
  rw [← Int32.ofInt_add]
  exact h9
theorem x_isub {Γ : xΓ} {own : String} {cc : ByteArray} {nL fr lo mc ms : Nat} (G : xG Γ own cc nL fr lo mc ms) {cells slots n pc : Nat} {T : xT} {L : List (Nat × xV)} {st : List xV} {M : xM} {x y : Int} (ho : i32 (x - y)) (hd : decode cc pc = .ok (.isub, 1)) (k : xX Γ cells slots n T (pc + 1) L (xI (x - y) :: st) M) : xX Γ cells slots n T pc L (xI y :: xI x :: st) M := by
  obtain ⟨D, p, l, e, R, s, m, args, below, meth, c, Q⟩ := Γ
  obtain ⟨hx, hb, hml, hown, hts, hE, hB, hR⟩ := G
  intro ls H locs hl hL hs hH
  obtain ⟨hy, hs⟩ := List.forall_mem_cons.mp hs
  obtain ⟨hxx, hs⟩ := List.forall_mem_cons.mp hs
  refine lv_isub hx hb hd ?_
  have h9 := k ls H locs hl hL (List.forall_mem_cons.mpr ⟨ho, hs⟩) hH
  rw [List.map_cons] at h9
  rw [← Int32.ofInt_sub]
  exact h9
theorem x_imul {Γ : xΓ} {own : String} {cc : ByteArray} {nL fr lo mc ms : Nat} (G : xG Γ own cc nL fr lo mc ms) {cells slots n pc : Nat} {T : xT} {L : List (Nat × xV)} {st : List xV} {M : xM} {x y : Int} (ho : i32 (x * y)) (hd : decode cc pc = .ok (.imul, 1)) (k : xX Γ cells slots n T (pc + 1) L (xI (x * y) :: st) M) : xX Γ cells slots n T pc L (xI y :: xI x :: st) M := by
  obtain ⟨D, p, l, e, R, s, m, args, below, meth, c, Q⟩ := Γ
  obtain ⟨hx, hb, hml, hown, hts, hE, hB, hR⟩ := G
  intro ls H locs hl hL hs hH
  obtain ⟨hy, hs⟩ := List.forall_mem_cons.mp hs
  obtain ⟨hxx, hs⟩ := List.forall_mem_cons.mp hs
  refine lv_imul hx hb hd ?_
  have h9 := k ls H locs hl hL (List.forall_mem_cons.mpr ⟨ho, hs⟩) hH
  rw [List.map_cons] at h9
  rw [← Int32.ofInt_mul]
  exact h9
theorem x_ladd {Γ : xΓ} {own : String} {cc : ByteArray} {nL fr lo mc ms : Nat} (G : xG Γ own cc nL fr lo mc ms) {cells slots n pc : Nat} {T : xT} {L : List (Nat × xV)} {st : List xV} {M : xM} {x y : Int} (ho : i64 (x + y)) (hd : decode cc pc = .ok (.ladd, 1)) (k : xX Γ cells slots n T (pc + 1) L (xL (x + y) :: st) M) : xX Γ cells slots n T pc L (xL y :: xL x :: st) M := by
  obtain ⟨D, p, l, e, R, s, m, args, below, meth, c, Q⟩ := Γ
  obtain ⟨hx, hb, hml, hown, hts, hE, hB, hR⟩ := G
  intro ls H locs hl hL hs hH
  obtain ⟨hy, hs⟩ := List.forall_mem_cons.mp hs
  obtain ⟨hxx, hs⟩ := List.forall_mem_cons.mp hs
  refine lv_ladd hx hb hd ?_
  have h9 := k ls H locs hl hL (List.forall_mem_cons.mpr ⟨ho, hs⟩) hH
  rw [List.map_cons] at h9
  rw [← Int64.ofInt_add]
  exact h9
theorem x_lsub {Γ : xΓ} {own : String} {cc : ByteArray} {nL fr lo mc ms : Nat} (G : xG Γ own cc nL fr lo mc ms) {cells slots n pc : Nat} {T : xT} {L : List (Nat × xV)} {st : List xV} {M : xM} {x y : Int} (ho : i64 (x - y)) (hd : decode cc pc = .ok (.lsub, 1)) (k : xX Γ cells slots n T (pc + 1) L (xL (x - y) :: st) M) : xX Γ cells slots n T pc L (xL y :: xL x :: st) M := by
  obtain ⟨D, p, l, e, R, s, m, args, below, meth, c, Q⟩ := Γ
  obtain ⟨hx, hb, hml, hown, hts, hE, hB, hR⟩ := G
  intro ls H locs hl hL hs hH
  obtain ⟨hy, hs⟩ := List.forall_mem_cons.mp hs
  obtain ⟨hxx, hs⟩ := List.forall_mem_cons.mp hs
  refine lv_lsub hx hb hd ?_
  have h9 := k ls H locs hl hL (List.forall_mem_cons.mpr ⟨ho, hs⟩) hH
  rw [List.map_cons] at h9
  rw [← Int64.ofInt_sub]
  exact h9
theorem x_lmul {Γ : xΓ} {own : String} {cc : ByteArray} {nL fr lo mc ms : Nat} (G : xG Γ own cc nL fr lo mc ms) {cells slots n pc : Nat} {T : xT} {L : List (Nat × xV)} {st : List xV} {M : xM} {x y : Int} (ho : i64 (x * y)) (hd : decode cc pc = .ok (.lmul, 1)) (k : xX Γ cells slots n T (pc + 1) L (xL (x * y) :: st) M) : xX Γ cells slots n T pc L (xL y :: xL x :: st) M := by
  obtain ⟨D, p, l, e, R, s, m, args, below, meth, c, Q⟩ := Γ
  obtain ⟨hx, hb, hml, hown, hts, hE, hB, hR⟩ := G
  intro ls H locs hl hL hs hH
  obtain ⟨hy, hs⟩ := List.forall_mem_cons.mp hs
  obtain ⟨hxx, hs⟩ := List.forall_mem_cons.mp hs
  refine lv_lmul hx hb hd ?_
  have h9 := k ls H locs hl hL (List.forall_mem_cons.mpr ⟨ho, hs⟩) hH
  rw [List.map_cons] at h9
  rw [← Int64.ofInt_mul]
  exact h9
theorem x_bm64 (z : Int) : Int64.ofInt (Int.bmod z 18446744073709551616) = Int64.ofInt z := by
  apply Int64.toInt_inj.mp
  rw [Int64.toInt_ofInt, Int64.toInt_ofInt]
  exact Int.bmod_bmod
theorem x_bm64r (z : Int) : i64 (Int.bmod z 18446744073709551616) := by
  have h1 := Int.le_bmod (x := z) (m := 18446744073709551616) (by decide)
  have h2 := Int.bmod_lt (x := z) (m := 18446744073709551616) (by decide)
  constructor <;> omega
theorem x_laddW {Γ : xΓ} {own : String} {cc : ByteArray} {nL fr lo mc ms : Nat} (G : xG Γ own cc nL fr lo mc ms) {cells slots n pc : Nat} {T : xT} {L : List (Nat × xV)} {st : List xV} {M : xM} {x y : Int} (hd : decode cc pc = .ok (.ladd, 1)) (k : xX Γ cells slots n T (pc + 1) L (xL (Int.bmod (x + y) 18446744073709551616) :: st) M) : xX Γ cells slots n T pc L (xL y :: xL x :: st) M := by
  obtain ⟨D, p, l, e, R, s, m, args, below, meth, c, Q⟩ := Γ
  obtain ⟨hx, hb, hml, hown, hts, hE, hB, hR⟩ := G
  intro ls H locs hl hL hs hH
  obtain ⟨hy, hs⟩ := List.forall_mem_cons.mp hs
  obtain ⟨hxx, hs⟩ := List.forall_mem_cons.mp hs
  refine lv_ladd hx hb hd ?_
  have h9 := k ls H locs hl hL (List.forall_mem_cons.mpr ⟨x_bm64r _, hs⟩) hH
  rw [List.map_cons] at h9
  rw [← Int64.ofInt_add, ← x_bm64]
  exact h9
theorem x_lmulW {Γ : xΓ} {own : String} {cc : ByteArray} {nL fr lo mc ms : Nat} (G : xG Γ own cc nL fr lo mc ms) {cells slots n pc : Nat} {T : xT} {L : List (Nat × xV)} {st : List xV} {M : xM} {x y : Int} (hd : decode cc pc = .ok (.lmul, 1)) (k : xX Γ cells slots n T (pc + 1) L (xL (Int.bmod (x * y) 18446744073709551616) :: st) M) : xX Γ cells slots n T pc L (xL y :: xL x :: st) M := by
  obtain ⟨D, p, l, e, R, s, m, args, below, meth, c, Q⟩ := Γ
  obtain ⟨hx, hb, hml, hown, hts, hE, hB, hR⟩ := G
  intro ls H locs hl hL hs hH
  obtain ⟨hy, hs⟩ := List.forall_mem_cons.mp hs
  obtain ⟨hxx, hs⟩ := List.forall_mem_cons.mp hs
  refine lv_lmul hx hb hd ?_
  have h9 := k ls H locs hl hL (List.forall_mem_cons.mpr ⟨x_bm64r _, hs⟩) hH
  rw [List.map_cons] at h9
  rw [← Int64.ofInt_mul, ← x_bm64]
  exact h9
theorem x_idiv {Γ : xΓ} {own : String} {cc : ByteArray} {nL fr lo mc ms : Nat} (G : xG Γ own cc nL fr lo mc ms) {cells slots n pc : Nat} {T : xT} {L : List (Nat × xV)} {st : List xV} {M : xM} {x y : Int} (z : Int) (h0 : ¬ Int32.ofInt y = 0) (he : Int32.ofInt x / Int32.ofInt y = Int32.ofInt z) (ho : i32 z) (hd : decode cc pc = .ok (.idiv, 1)) (k : xX Γ cells slots n T (pc + 1) L (xI z :: st) M) : xX Γ cells slots n T pc L (xI y :: xI x :: st) M := by
  obtain ⟨D, p, l, e, R, s, m, args, below, meth, c, Q⟩ := Γ
  obtain ⟨hx, hb, hml, hown, hts, hE, hB, hR⟩ := G
  intro ls H locs hl hL hs hH
  obtain ⟨hy, hs⟩ := List.forall_mem_cons.mp hs
  obtain ⟨hxx, hs⟩ := List.forall_mem_cons.mp hs
  refine lv_idiv hx hb hd h0 ?_
  have h9 := k ls H locs hl hL (List.forall_mem_cons.mpr ⟨ho, hs⟩) hH
  rw [List.map_cons] at h9
  rw [he]
  exact h9
theorem x_irem {Γ : xΓ} {own : String} {cc : ByteArray} {nL fr lo mc ms : Nat} (G : xG Γ own cc nL fr lo mc ms) {cells slots n pc : Nat} {T : xT} {L : List (Nat × xV)} {st : List xV} {M : xM} {x y : Int} (z : Int) (h0 : ¬ Int32.ofInt y = 0) (he : Int32.ofInt x - Int32.ofInt x / Int32.ofInt y * Int32.ofInt y = Int32.ofInt z) (ho : i32 z) (hd : decode cc pc = .ok (.irem, 1)) (k : xX Γ cells slots n T (pc + 1) L (xI z :: st) M) : xX Γ cells slots n T pc L (xI y :: xI x :: st) M := by
  obtain ⟨D, p, l, e, R, s, m, args, below, meth, c, Q⟩ := Γ
  obtain ⟨hx, hb, hml, hown, hts, hE, hB, hR⟩ := G
  intro ls H locs hl hL hs hH
  obtain ⟨hy, hs⟩ := List.forall_mem_cons.mp hs
  obtain ⟨hxx, hs⟩ := List.forall_mem_cons.mp hs
  refine lv_irem hx hb hd h0 ?_
  have h9 := k ls H locs hl hL (List.forall_mem_cons.mpr ⟨ho, hs⟩) hH
  rw [List.map_cons] at h9
  rw [he]
  exact h9
theorem x_iand {Γ : xΓ} {own : String} {cc : ByteArray} {nL fr lo mc ms : Nat} (G : xG Γ own cc nL fr lo mc ms) {cells slots n pc : Nat} {T : xT} {L : List (Nat × xV)} {st : List xV} {M : xM} {x y : Int} (z : Int) (he : Int32.ofInt x &&& Int32.ofInt y = Int32.ofInt z) (ho : i32 z) (hd : decode cc pc = .ok (.iand, 1)) (k : xX Γ cells slots n T (pc + 1) L (xI z :: st) M) : xX Γ cells slots n T pc L (xI y :: xI x :: st) M := by
  obtain ⟨D, p, l, e, R, s, m, args, below, meth, c, Q⟩ := Γ
  obtain ⟨hx, hb, hml, hown, hts, hE, hB, hR⟩ := G
  intro ls H locs hl hL hs hH
  obtain ⟨hy, hs⟩ := List.forall_mem_cons.mp hs
  obtain ⟨hxx, hs⟩ := List.forall_mem_cons.mp hs
  refine lv_iand hx hb hd ?_
  have h9 := k ls H locs hl hL (List.forall_mem_cons.mpr ⟨ho, hs⟩) hH
  rw [List.map_cons] at h9
  rw [he]
  exact h9
theorem x_ior {Γ : xΓ} {own : String} {cc : ByteArray} {nL fr lo mc ms : Nat} (G : xG Γ own cc nL fr lo mc ms) {cells slots n pc : Nat} {T : xT} {L : List (Nat × xV)} {st : List xV} {M : xM} {x y : Int} (z : Int) (he : Int32.ofInt x ||| Int32.ofInt y = Int32.ofInt z) (ho : i32 z) (hd : decode cc pc = .ok (.ior, 1)) (k : xX Γ cells slots n T (pc + 1) L (xI z :: st) M) : xX Γ cells slots n T pc L (xI y :: xI x :: st) M := by
  obtain ⟨D, p, l, e, R, s, m, args, below, meth, c, Q⟩ := Γ
  obtain ⟨hx, hb, hml, hown, hts, hE, hB, hR⟩ := G
  intro ls H locs hl hL hs hH
  obtain ⟨hy, hs⟩ := List.forall_mem_cons.mp hs
  obtain ⟨hxx, hs⟩ := List.forall_mem_cons.mp hs
  refine lv_ior hx hb hd ?_
  have h9 := k ls H locs hl hL (List.forall_mem_cons.mpr ⟨ho, hs⟩) hH
  rw [List.map_cons] at h9
  rw [he]
  exact h9
theorem x_ishl {Γ : xΓ} {own : String} {cc : ByteArray} {nL fr lo mc ms : Nat} (G : xG Γ own cc nL fr lo mc ms) {cells slots n pc : Nat} {T : xT} {L : List (Nat × xV)} {st : List xV} {M : xM} {x y : Int} (z : Int) (he : Int32.ofInt x <<< (Int32.ofInt y &&& 31) = Int32.ofInt z) (ho : i32 z) (hd : decode cc pc = .ok (.ishl, 1)) (k : xX Γ cells slots n T (pc + 1) L (xI z :: st) M) : xX Γ cells slots n T pc L (xI y :: xI x :: st) M := by
  obtain ⟨D, p, l, e, R, s, m, args, below, meth, c, Q⟩ := Γ
  obtain ⟨hx, hb, hml, hown, hts, hE, hB, hR⟩ := G
  intro ls H locs hl hL hs hH
  obtain ⟨hy, hs⟩ := List.forall_mem_cons.mp hs
  obtain ⟨hxx, hs⟩ := List.forall_mem_cons.mp hs
  refine lv_ishl hx hb hd ?_
  have h9 := k ls H locs hl hL (List.forall_mem_cons.mpr ⟨ho, hs⟩) hH
  rw [List.map_cons] at h9
  rw [he]
  exact h9
theorem x_ishr {Γ : xΓ} {own : String} {cc : ByteArray} {nL fr lo mc ms : Nat} (G : xG Γ own cc nL fr lo mc ms) {cells slots n pc : Nat} {T : xT} {L : List (Nat × xV)} {st : List xV} {M : xM} {x y : Int} (z : Int) (he : Int32.ofInt x >>> (Int32.ofInt y &&& 31) = Int32.ofInt z) (ho : i32 z) (hd : decode cc pc = .ok (.ishr, 1)) (k : xX Γ cells slots n T (pc + 1) L (xI z :: st) M) : xX Γ cells slots n T pc L (xI y :: xI x :: st) M := by
  obtain ⟨D, p, l, e, R, s, m, args, below, meth, c, Q⟩ := Γ
  obtain ⟨hx, hb, hml, hown, hts, hE, hB, hR⟩ := G
  intro ls H locs hl hL hs hH
  obtain ⟨hy, hs⟩ := List.forall_mem_cons.mp hs
  obtain ⟨hxx, hs⟩ := List.forall_mem_cons.mp hs
  refine lv_ishr hx hb hd ?_
  have h9 := k ls H locs hl hL (List.forall_mem_cons.mpr ⟨ho, hs⟩) hH
  rw [List.map_cons] at h9
  rw [he]
  exact h9
theorem x_land {Γ : xΓ} {own : String} {cc : ByteArray} {nL fr lo mc ms : Nat} (G : xG Γ own cc nL fr lo mc ms) {cells slots n pc : Nat} {T : xT} {L : List (Nat × xV)} {st : List xV} {M : xM} {x y : Int} (z : Int) (he : Int64.ofInt x &&& Int64.ofInt y = Int64.ofInt z) (ho : i64 z) (hd : decode cc pc = .ok (.land, 1)) (k : xX Γ cells slots n T (pc + 1) L (xL z :: st) M) : xX Γ cells slots n T pc L (xL y :: xL x :: st) M := by
  obtain ⟨D, p, l, e, R, s, m, args, below, meth, c, Q⟩ := Γ
  obtain ⟨hx, hb, hml, hown, hts, hE, hB, hR⟩ := G
  intro ls H locs hl hL hs hH
  obtain ⟨hy, hs⟩ := List.forall_mem_cons.mp hs
  obtain ⟨hxx, hs⟩ := List.forall_mem_cons.mp hs
  refine lv_land hx hb hd ?_
  have h9 := k ls H locs hl hL (List.forall_mem_cons.mpr ⟨ho, hs⟩) hH
  rw [List.map_cons] at h9
  rw [he]
  exact h9
theorem x_lrem {Γ : xΓ} {own : String} {cc : ByteArray} {nL fr lo mc ms : Nat} (G : xG Γ own cc nL fr lo mc ms) {cells slots n pc : Nat} {T : xT} {L : List (Nat × xV)} {st : List xV} {M : xM} {x y : Int} (z : Int) (h0 : ¬ Int64.ofInt y = 0) (he : Int64.ofInt x - Int64.ofInt x / Int64.ofInt y * Int64.ofInt y = Int64.ofInt z) (ho : i64 z) (hd : decode cc pc = .ok (.lrem, 1)) (k : xX Γ cells slots n T (pc + 1) L (xL z :: st) M) : xX Γ cells slots n T pc L (xL y :: xL x :: st) M := by
  obtain ⟨D, p, l, e, R, s, m, args, below, meth, c, Q⟩ := Γ
  obtain ⟨hx, hb, hml, hown, hts, hE, hB, hR⟩ := G
  intro ls H locs hl hL hs hH
  obtain ⟨hy, hs⟩ := List.forall_mem_cons.mp hs
  obtain ⟨hxx, hs⟩ := List.forall_mem_cons.mp hs
  refine lv_lrem hx hb hd h0 ?_
  have h9 := k ls H locs hl hL (List.forall_mem_cons.mpr ⟨ho, hs⟩) hH
  rw [List.map_cons] at h9
  rw [he]
  exact h9
theorem x_lshr {Γ : xΓ} {own : String} {cc : ByteArray} {nL fr lo mc ms : Nat} (G : xG Γ own cc nL fr lo mc ms) {cells slots n pc : Nat} {T : xT} {L : List (Nat × xV)} {st : List xV} {M : xM} {x y : Int} (z : Int) (he : Int64.ofInt x >>> ((Int32.ofInt y).toInt64 &&& 63) = Int64.ofInt z) (ho : i64 z) (hd : decode cc pc = .ok (.lshr, 1)) (k : xX Γ cells slots n T (pc + 1) L (xL z :: st) M) : xX Γ cells slots n T pc L (xI y :: xL x :: st) M := by
  obtain ⟨D, p, l, e, R, s, m, args, below, meth, c, Q⟩ := Γ
  obtain ⟨hx, hb, hml, hown, hts, hE, hB, hR⟩ := G
  intro ls H locs hl hL hs hH
  obtain ⟨hy, hs⟩ := List.forall_mem_cons.mp hs
  obtain ⟨hxx, hs⟩ := List.forall_mem_cons.mp hs
  exact lv_lshr hx hb hd he (k ls H locs hl hL (List.forall_mem_cons.mpr ⟨ho, hs⟩) hH)
theorem x_ineg {Γ : xΓ} {own : String} {cc : ByteArray} {nL fr lo mc ms : Nat} (G : xG Γ own cc nL fr lo mc ms) {cells slots n pc : Nat} {T : xT} {L : List (Nat × xV)} {st : List xV} {M : xM} {x : Int} (ho : i32 (-x)) (hd : decode cc pc = .ok (.ineg, 1)) (k : xX Γ cells slots n T (pc + 1) L (xI (-x) :: st) M) : xX Γ cells slots n T pc L (xI x :: st) M := by
  obtain ⟨D, p, l, e, R, s, m, args, below, meth, c, Q⟩ := Γ
  obtain ⟨hx, hb, hml, hown, hts, hE, hB, hR⟩ := G
  intro ls H locs hl hL hs hH
  obtain ⟨hxx, hs⟩ := List.forall_mem_cons.mp hs
  refine lv_ineg hx hb hd ?_
  have h9 := k ls H locs hl hL (List.forall_mem_cons.mpr ⟨ho, hs⟩) hH
  rw [List.map_cons] at h9
  first | (rw [← Int32.ofInt_neg]; exact h9) | (rw [show (0 : Int32) - Int32.ofInt x = Int32.ofInt (-x) by rw [Int32.ofInt_neg]; simp]; exact h9)
theorem x_i2lE {x : Int} (h : i32 x) : (Int32.ofInt x).toInt64 = Int64.ofInt x := by
  apply Int64.toInt_inj.mp
  rw [Int32.toInt_toInt64, x_toInt h, x_toInt64 (by omega)]
theorem x_i2l {Γ : xΓ} {own : String} {cc : ByteArray} {nL fr lo mc ms : Nat} (G : xG Γ own cc nL fr lo mc ms) {cells slots n pc : Nat} {T : xT} {L : List (Nat × xV)} {st : List xV} {M : xM} {x : Int} (hd : decode cc pc = .ok (.i2l, 1)) (k : xX Γ cells slots n T (pc + 1) L (xL x :: st) M) : xX Γ cells slots n T pc L (xI x :: st) M := by
  obtain ⟨D, p, l, e, R, s, m, args, below, meth, c, Q⟩ := Γ
  obtain ⟨hx, hb, hml, hown, hts, hE, hB, hR⟩ := G
  intro ls H locs hl hL hs hH
  obtain ⟨hxx, hs⟩ := List.forall_mem_cons.mp hs
  have h1 : i32 x := hxx
  exact lv_i2l hx hb hd (x_i2lE h1) (k ls H locs hl hL (List.forall_mem_cons.mpr ⟨by show i64 x; omega, hs⟩) hH)
theorem x_l2iE {x : Int} (h : i32 x) : (Int64.ofInt x).toInt32 = Int32.ofInt x := by
  rw [← x_i2lE h]
  simp
theorem x_l2i {Γ : xΓ} {own : String} {cc : ByteArray} {nL fr lo mc ms : Nat} (G : xG Γ own cc nL fr lo mc ms) {cells slots n pc : Nat} {T : xT} {L : List (Nat × xV)} {st : List xV} {M : xM} {x : Int} (ho : i32 x) (hd : decode cc pc = .ok (.l2i, 1)) (k : xX Γ cells slots n T (pc + 1) L (xI x :: st) M) : xX Γ cells slots n T pc L (xL x :: st) M := by
  obtain ⟨D, p, l, e, R, s, m, args, below, meth, c, Q⟩ := Γ
  obtain ⟨hx, hb, hml, hown, hts, hE, hB, hR⟩ := G
  intro ls H locs hl hL hs hH
  obtain ⟨hxx, hs⟩ := List.forall_mem_cons.mp hs
  exact lv_l2i hx hb hd (x_l2iE ho) (k ls H locs hl hL (List.forall_mem_cons.mpr ⟨ho, hs⟩) hH)
theorem x_i2b {Γ : xΓ} {own : String} {cc : ByteArray} {nL fr lo mc ms : Nat} (G : xG Γ own cc nL fr lo mc ms) {cells slots n pc : Nat} {T : xT} {L : List (Nat × xV)} {st : List xV} {M : xM} {x : Int} (z : Int) (he : (Int32.ofInt x).toInt8.toInt32 = Int32.ofInt z) (ho : i32 z) (hd : decode cc pc = .ok (.i2b, 1)) (k : xX Γ cells slots n T (pc + 1) L (xI z :: st) M) : xX Γ cells slots n T pc L (xI x :: st) M := by
  obtain ⟨D, p, l, e, R, s, m, args, below, meth, c, Q⟩ := Γ
  obtain ⟨hx, hb, hml, hown, hts, hE, hB, hR⟩ := G
  intro ls H locs hl hL hs hH
  obtain ⟨hxx, hs⟩ := List.forall_mem_cons.mp hs
  exact lv_i2b hx hb hd he (k ls H locs hl hL (List.forall_mem_cons.mpr ⟨ho, hs⟩) hH)
theorem x_i2c {Γ : xΓ} {own : String} {cc : ByteArray} {nL fr lo mc ms : Nat} (G : xG Γ own cc nL fr lo mc ms) {cells slots n pc : Nat} {T : xT} {L : List (Nat × xV)} {st : List xV} {M : xM} {x : Int} (z : Int) (he : ((Int32.ofInt x).toUInt32 % 65536).toInt32 = Int32.ofInt z) (ho : i32 z) (hd : decode cc pc = .ok (.i2c, 1)) (k : xX Γ cells slots n T (pc + 1) L (xI z :: st) M) : xX Γ cells slots n T pc L (xI x :: st) M := by
  obtain ⟨D, p, l, e, R, s, m, args, below, meth, c, Q⟩ := Γ
  obtain ⟨hx, hb, hml, hown, hts, hE, hB, hR⟩ := G
  intro ls H locs hl hL hs hH
  obtain ⟨hxx, hs⟩ := List.forall_mem_cons.mp hs
  exact lv_i2c hx hb hd he (k ls H locs hl hL (List.forall_mem_cons.mpr ⟨ho, hs⟩) hH)
theorem x_dup {Γ : xΓ} {own : String} {cc : ByteArray} {nL fr lo mc ms : Nat} (G : xG Γ own cc nL fr lo mc ms) {cells slots n pc : Nat} {T : xT} {L : List (Nat × xV)} {st : List xV} {M : xM} {v : xV} (hv : xcat v = 1) (hd : decode cc pc = .ok (.dup, 1)) (k : xX Γ cells slots n T (pc + 1) L (v :: v :: st) M) : xX Γ cells slots n T pc L (v :: st) M := by
  obtain ⟨D, p, l, e, R, s, m, args, below, meth, c, Q⟩ := Γ
  obtain ⟨hx, hb, hml, hown, hts, hE, hB, hR⟩ := G
  intro ls H locs hl hL hs hH
  exact lv_dup hx hb hd ((xcat_eq _ _).trans hv) (k ls H locs hl hL (List.forall_mem_cons.mpr ⟨(List.forall_mem_cons.mp hs).1, hs⟩) hH)
theorem x_pop {Γ : xΓ} {own : String} {cc : ByteArray} {nL fr lo mc ms : Nat} (G : xG Γ own cc nL fr lo mc ms) {cells slots n pc : Nat} {T : xT} {L : List (Nat × xV)} {st : List xV} {M : xM} {v : xV} (hv : xcat v = 1) (hd : decode cc pc = .ok (.pop, 1)) (k : xX Γ cells slots n T (pc + 1) L st M) : xX Γ cells slots n T pc L (v :: st) M := by
  obtain ⟨D, p, l, e, R, s, m, args, below, meth, c, Q⟩ := Γ
  obtain ⟨hx, hb, hml, hown, hts, hE, hB, hR⟩ := G
  intro ls H locs hl hL hs hH
  exact lv_pop hx hb hd ((xcat_eq _ _).trans hv) (k ls H locs hl hL (List.forall_mem_cons.mp hs).2 hH)
theorem x_dup2 {Γ : xΓ} {own : String} {cc : ByteArray} {nL fr lo mc ms : Nat} (G : xG Γ own cc nL fr lo mc ms) {cells slots n pc : Nat} {T : xT} {L : List (Nat × xV)} {st : List xV} {M : xM} {v w : xV} (hv : xcat v = 1) (hw : xcat w = 1) (hd : decode cc pc = .ok (.dup2, 1)) (k : xX Γ cells slots n T (pc + 1) L (v :: w :: v :: w :: st) M) : xX Γ cells slots n T pc L (v :: w :: st) M := by
  obtain ⟨D, p, l, e, R, s, m, args, below, meth, c, Q⟩ := Γ
  obtain ⟨hx, hb, hml, hown, hts, hE, hB, hR⟩ := G
  intro ls H locs hl hL hs hH
  have h1 := List.forall_mem_cons.mp hs
  have h2 := List.forall_mem_cons.mp h1.2
  exact lv_dup2_11 hx hb hd ((xcat_eq _ _).trans hv) ((xcat_eq _ _).trans hw) (k ls H locs hl hL (List.forall_mem_cons.mpr ⟨h1.1, List.forall_mem_cons.mpr ⟨h2.1, hs⟩⟩) hH)
theorem x_if_eq {Γ : xΓ} {own : String} {cc : ByteArray} {nL fr lo mc ms : Nat} (G : xG Γ own cc nL fr lo mc ms) {cells slots n pc : Nat} {T : xT} {L : List (Nat × xV)} {st : List xV} {M : xM} {x : Int} {off : Int} (tgt : Nat) (ht : (pc : Int) + off = (tgt : Int)) (hd : decode cc pc = .ok (.ifCond .eq off, 3)) (kt : x = 0 → xX Γ cells slots n T tgt L st M) (kf : ¬ x = 0 → xX Γ cells slots n T (pc + 3) L st M) : xX Γ cells slots n T pc L (xI x :: st) M := by
  obtain ⟨D, p, l, e, R, s, m, args, below, meth, c, Q⟩ := Γ
  obtain ⟨hx, hb, hml, hown, hts, hE, hB, hR⟩ := G
  intro ls H locs hl hL hs hH
  obtain ⟨hxx, hs⟩ := List.forall_mem_cons.mp hs
  have hyy : i32 0 := by decide
  have e1 := x_eq hxx hyy
  have e2 := x_lt hxx hyy
  have e3 := x_lt hyy hxx
  have e4 := x_le hxx hyy
  have e5 := x_le hyy hxx
  have e0 : Int32.ofInt 0 = 0 := rfl
  rw [e0] at e1 e2 e3 e4 e5
  refine lv_if_eq (tgt := tgt) hx hb hd ht (fun h => kt ?_ ls H locs hl hL hs hH) (fun h => kf ?_ ls H locs hl hL hs hH)
  · first | exact e1.mp h | exact fun q => h (e1.mpr q) | exact e2.mp h | exact e3.mp h | exact e4.mp h | exact e5.mp h
  · first | exact fun q => h (e1.mpr q) | exact e1.mp (Classical.not_not.mp h) | exact e1.mp h | exact Int.not_lt.mp fun q => h (e2.mpr q) | exact Int.not_lt.mp fun q => h (e3.mpr q) | exact Int.not_le.mp fun q => h (e4.mpr q) | exact Int.not_le.mp fun q => h (e5.mpr q)
theorem x_if_ne {Γ : xΓ} {own : String} {cc : ByteArray} {nL fr lo mc ms : Nat} (G : xG Γ own cc nL fr lo mc ms) {cells slots n pc : Nat} {T : xT} {L : List (Nat × xV)} {st : List xV} {M : xM} {x : Int} {off : Int} (tgt : Nat) (ht : (pc : Int) + off = (tgt : Int)) (hd : decode cc pc = .ok (.ifCond .ne off, 3)) (kt : ¬ x = 0 → xX Γ cells slots n T tgt L st M) (kf : x = 0 → xX Γ cells slots n T (pc + 3) L st M) : xX Γ cells slots n T pc L (xI x :: st) M := by
  obtain ⟨D, p, l, e, R, s, m, args, below, meth, c, Q⟩ := Γ
  obtain ⟨hx, hb, hml, hown, hts, hE, hB, hR⟩ := G
  intro ls H locs hl hL hs hH
  obtain ⟨hxx, hs⟩ := List.forall_mem_cons.mp hs
  have hyy : i32 0 := by decide
  have e1 := x_eq hxx hyy
  have e2 := x_lt hxx hyy
  have e3 := x_lt hyy hxx
  have e4 := x_le hxx hyy
  have e5 := x_le hyy hxx
  have e0 : Int32.ofInt 0 = 0 := rfl
  rw [e0] at e1 e2 e3 e4 e5
  refine lv_if_ne (tgt := tgt) hx hb hd ht (fun h => kt ?_ ls H locs hl hL hs hH) (fun h => kf ?_ ls H locs hl hL hs hH)
  · first | exact e1.mp h | exact fun q => h (e1.mpr q) | exact e2.mp h | exact e3.mp h | exact e4.mp h | exact e5.mp h
  · first | exact fun q => h (e1.mpr q) | exact e1.mp (Classical.not_not.mp h) | exact e1.mp h | exact Int.not_lt.mp fun q => h (e2.mpr q) | exact Int.not_lt.mp fun q => h (e3.mpr q) | exact Int.not_le.mp fun q => h (e4.mpr q) | exact Int.not_le.mp fun q => h (e5.mpr q)
theorem x_if_lt {Γ : xΓ} {own : String} {cc : ByteArray} {nL fr lo mc ms : Nat} (G : xG Γ own cc nL fr lo mc ms) {cells slots n pc : Nat} {T : xT} {L : List (Nat × xV)} {st : List xV} {M : xM} {x : Int} {off : Int} (tgt : Nat) (ht : (pc : Int) + off = (tgt : Int)) (hd : decode cc pc = .ok (.ifCond .lt off, 3)) (kt : x < 0 → xX Γ cells slots n T tgt L st M) (kf : 0 ≤ x → xX Γ cells slots n T (pc + 3) L st M) : xX Γ cells slots n T pc L (xI x :: st) M := by
  obtain ⟨D, p, l, e, R, s, m, args, below, meth, c, Q⟩ := Γ
  obtain ⟨hx, hb, hml, hown, hts, hE, hB, hR⟩ := G
  intro ls H locs hl hL hs hH
  obtain ⟨hxx, hs⟩ := List.forall_mem_cons.mp hs
  have hyy : i32 0 := by decide
  have e1 := x_eq hxx hyy
  have e2 := x_lt hxx hyy
  have e3 := x_lt hyy hxx
  have e4 := x_le hxx hyy
  have e5 := x_le hyy hxx
  have e0 : Int32.ofInt 0 = 0 := rfl
  rw [e0] at e1 e2 e3 e4 e5
  refine lv_if_lt (tgt := tgt) hx hb hd ht (fun h => kt ?_ ls H locs hl hL hs hH) (fun h => kf ?_ ls H locs hl hL hs hH)
  · first | exact e1.mp h | exact fun q => h (e1.mpr q) | exact e2.mp h | exact e3.mp h | exact e4.mp h | exact e5.mp h
  · first | exact fun q => h (e1.mpr q) | exact e1.mp (Classical.not_not.mp h) | exact e1.mp h | exact Int.not_lt.mp fun q => h (e2.mpr q) | exact Int.not_lt.mp fun q => h (e3.mpr q) | exact Int.not_le.mp fun q => h (e4.mpr q) | exact Int.not_le.mp fun q => h (e5.mpr q)
theorem x_if_ge {Γ : xΓ} {own : String} {cc : ByteArray} {nL fr lo mc ms : Nat} (G : xG Γ own cc nL fr lo mc ms) {cells slots n pc : Nat} {T : xT} {L : List (Nat × xV)} {st : List xV} {M : xM} {x : Int} {off : Int} (tgt : Nat) (ht : (pc : Int) + off = (tgt : Int)) (hd : decode cc pc = .ok (.ifCond .ge off, 3)) (kt : 0 ≤ x → xX Γ cells slots n T tgt L st M) (kf : x < 0 → xX Γ cells slots n T (pc + 3) L st M) : xX Γ cells slots n T pc L (xI x :: st) M := by
  obtain ⟨D, p, l, e, R, s, m, args, below, meth, c, Q⟩ := Γ
  obtain ⟨hx, hb, hml, hown, hts, hE, hB, hR⟩ := G
  intro ls H locs hl hL hs hH
  obtain ⟨hxx, hs⟩ := List.forall_mem_cons.mp hs
  have hyy : i32 0 := by decide
  have e1 := x_eq hxx hyy
  have e2 := x_lt hxx hyy
  have e3 := x_lt hyy hxx
  have e4 := x_le hxx hyy
  have e5 := x_le hyy hxx
  have e0 : Int32.ofInt 0 = 0 := rfl
  rw [e0] at e1 e2 e3 e4 e5
  refine lv_if_ge (tgt := tgt) hx hb hd ht (fun h => kt ?_ ls H locs hl hL hs hH) (fun h => kf ?_ ls H locs hl hL hs hH)
  · first | exact e1.mp h | exact fun q => h (e1.mpr q) | exact e2.mp h | exact e3.mp h | exact e4.mp h | exact e5.mp h
  · first | exact fun q => h (e1.mpr q) | exact e1.mp (Classical.not_not.mp h) | exact e1.mp h | exact Int.not_lt.mp fun q => h (e2.mpr q) | exact Int.not_lt.mp fun q => h (e3.mpr q) | exact Int.not_le.mp fun q => h (e4.mpr q) | exact Int.not_le.mp fun q => h (e5.mpr q)
theorem x_if_gt {Γ : xΓ} {own : String} {cc : ByteArray} {nL fr lo mc ms : Nat} (G : xG Γ own cc nL fr lo mc ms) {cells slots n pc : Nat} {T : xT} {L : List (Nat × xV)} {st : List xV} {M : xM} {x : Int} {off : Int} (tgt : Nat) (ht : (pc : Int) + off = (tgt : Int)) (hd : decode cc pc = .ok (.ifCond .gt off, 3)) (kt : 0 < x → xX Γ cells slots n T tgt L st M) (kf : x ≤ 0 → xX Γ cells slots n T (pc + 3) L st M) : xX Γ cells slots n T pc L (xI x :: st) M := by
  obtain ⟨D, p, l, e, R, s, m, args, below, meth, c, Q⟩ := Γ
  obtain ⟨hx, hb, hml, hown, hts, hE, hB, hR⟩ := G
  intro ls H locs hl hL hs hH
  obtain ⟨hxx, hs⟩ := List.forall_mem_cons.mp hs
  have hyy : i32 0 := by decide
  have e1 := x_eq hxx hyy
  have e2 := x_lt hxx hyy
  have e3 := x_lt hyy hxx
  have e4 := x_le hxx hyy
  have e5 := x_le hyy hxx
  have e0 : Int32.ofInt 0 = 0 := rfl
  rw [e0] at e1 e2 e3 e4 e5
  refine lv_if_gt (tgt := tgt) hx hb hd ht (fun h => kt ?_ ls H locs hl hL hs hH) (fun h => kf ?_ ls H locs hl hL hs hH)
  · first | exact e1.mp h | exact fun q => h (e1.mpr q) | exact e2.mp h | exact e3.mp h | exact e4.mp h | exact e5.mp h
  · first | exact fun q => h (e1.mpr q) | exact e1.mp (Classical.not_not.mp h) | exact e1.mp h | exact Int.not_lt.mp fun q => h (e2.mpr q) | exact Int.not_lt.mp fun q => h (e3.mpr q) | exact Int.not_le.mp fun q => h (e4.mpr q) | exact Int.not_le.mp fun q => h (e5.mpr q)
theorem x_if_le {Γ : xΓ} {own : String} {cc : ByteArray} {nL fr lo mc ms : Nat} (G : xG Γ own cc nL fr lo mc ms) {cells slots n pc : Nat} {T : xT} {L : List (Nat × xV)} {st : List xV} {M : xM} {x : Int} {off : Int} (tgt : Nat) (ht : (pc : Int) + off = (tgt : Int)) (hd : decode cc pc = .ok (.ifCond .le off, 3)) (kt : x ≤ 0 → xX Γ cells slots n T tgt L st M) (kf : 0 < x → xX Γ cells slots n T (pc + 3) L st M) : xX Γ cells slots n T pc L (xI x :: st) M := by
  obtain ⟨D, p, l, e, R, s, m, args, below, meth, c, Q⟩ := Γ
  obtain ⟨hx, hb, hml, hown, hts, hE, hB, hR⟩ := G
  intro ls H locs hl hL hs hH
  obtain ⟨hxx, hs⟩ := List.forall_mem_cons.mp hs
  have hyy : i32 0 := by decide
  have e1 := x_eq hxx hyy
  have e2 := x_lt hxx hyy
  have e3 := x_lt hyy hxx
  have e4 := x_le hxx hyy
  have e5 := x_le hyy hxx
  have e0 : Int32.ofInt 0 = 0 := rfl
  rw [e0] at e1 e2 e3 e4 e5
  refine lv_if_le (tgt := tgt) hx hb hd ht (fun h => kt ?_ ls H locs hl hL hs hH) (fun h => kf ?_ ls H locs hl hL hs hH)
  · first | exact e1.mp h | exact fun q => h (e1.mpr q) | exact e2.mp h | exact e3.mp h | exact e4.mp h | exact e5.mp h
  · first | exact fun q => h (e1.mpr q) | exact e1.mp (Classical.not_not.mp h) | exact e1.mp h | exact Int.not_lt.mp fun q => h (e2.mpr q) | exact Int.not_lt.mp fun q => h (e3.mpr q) | exact Int.not_le.mp fun q => h (e4.mpr q) | exact Int.not_le.mp fun q => h (e5.mpr q)
theorem x_icmp_eq {Γ : xΓ} {own : String} {cc : ByteArray} {nL fr lo mc ms : Nat} (G : xG Γ own cc nL fr lo mc ms) {cells slots n pc : Nat} {T : xT} {L : List (Nat × xV)} {st : List xV} {M : xM} {x y : Int} {off : Int} (tgt : Nat) (ht : (pc : Int) + off = (tgt : Int)) (hd : decode cc pc = .ok (.if_icmp .eq off, 3)) (kt : x = y → xX Γ cells slots n T tgt L st M) (kf : ¬ x = y → xX Γ cells slots n T (pc + 3) L st M) : xX Γ cells slots n T pc L (xI y :: xI x :: st) M := by
  obtain ⟨D, p, l, e, R, s, m, args, below, meth, c, Q⟩ := Γ
  obtain ⟨hx, hb, hml, hown, hts, hE, hB, hR⟩ := G
  intro ls H locs hl hL hs hH
  obtain ⟨hyy, hs⟩ := List.forall_mem_cons.mp hs
  obtain ⟨hxx, hs⟩ := List.forall_mem_cons.mp hs
  have e1 := x_eq hxx hyy
  have e2 := x_lt hxx hyy
  have e3 := x_lt hyy hxx
  have e4 := x_le hxx hyy
  have e5 := x_le hyy hxx
  have e0 : Int32.ofInt 0 = 0 := rfl
  skip
  refine lv_icmp_eq (tgt := tgt) hx hb hd ht (fun h => kt ?_ ls H locs hl hL hs hH) (fun h => kf ?_ ls H locs hl hL hs hH)
  · first | exact e1.mp h | exact fun q => h (e1.mpr q) | exact e2.mp h | exact e3.mp h | exact e4.mp h | exact e5.mp h
  · first | exact fun q => h (e1.mpr q) | exact e1.mp (Classical.not_not.mp h) | exact e1.mp h | exact Int.not_lt.mp fun q => h (e2.mpr q) | exact Int.not_lt.mp fun q => h (e3.mpr q) | exact Int.not_le.mp fun q => h (e4.mpr q) | exact Int.not_le.mp fun q => h (e5.mpr q)
theorem x_icmp_ne {Γ : xΓ} {own : String} {cc : ByteArray} {nL fr lo mc ms : Nat} (G : xG Γ own cc nL fr lo mc ms) {cells slots n pc : Nat} {T : xT} {L : List (Nat × xV)} {st : List xV} {M : xM} {x y : Int} {off : Int} (tgt : Nat) (ht : (pc : Int) + off = (tgt : Int)) (hd : decode cc pc = .ok (.if_icmp .ne off, 3)) (kt : ¬ x = y → xX Γ cells slots n T tgt L st M) (kf : x = y → xX Γ cells slots n T (pc + 3) L st M) : xX Γ cells slots n T pc L (xI y :: xI x :: st) M := by
  obtain ⟨D, p, l, e, R, s, m, args, below, meth, c, Q⟩ := Γ
  obtain ⟨hx, hb, hml, hown, hts, hE, hB, hR⟩ := G
  intro ls H locs hl hL hs hH
  obtain ⟨hyy, hs⟩ := List.forall_mem_cons.mp hs
  obtain ⟨hxx, hs⟩ := List.forall_mem_cons.mp hs
  have e1 := x_eq hxx hyy
  have e2 := x_lt hxx hyy
  have e3 := x_lt hyy hxx
  have e4 := x_le hxx hyy
  have e5 := x_le hyy hxx
  have e0 : Int32.ofInt 0 = 0 := rfl
  skip
  refine lv_icmp_ne (tgt := tgt) hx hb hd ht (fun h => kt ?_ ls H locs hl hL hs hH) (fun h => kf ?_ ls H locs hl hL hs hH)
  · first | exact e1.mp h | exact fun q => h (e1.mpr q) | exact e2.mp h | exact e3.mp h | exact e4.mp h | exact e5.mp h
  · first | exact fun q => h (e1.mpr q) | exact e1.mp (Classical.not_not.mp h) | exact e1.mp h | exact Int.not_lt.mp fun q => h (e2.mpr q) | exact Int.not_lt.mp fun q => h (e3.mpr q) | exact Int.not_le.mp fun q => h (e4.mpr q) | exact Int.not_le.mp fun q => h (e5.mpr q)
theorem x_icmp_lt {Γ : xΓ} {own : String} {cc : ByteArray} {nL fr lo mc ms : Nat} (G : xG Γ own cc nL fr lo mc ms) {cells slots n pc : Nat} {T : xT} {L : List (Nat × xV)} {st : List xV} {M : xM} {x y : Int} {off : Int} (tgt : Nat) (ht : (pc : Int) + off = (tgt : Int)) (hd : decode cc pc = .ok (.if_icmp .lt off, 3)) (kt : x < y → xX Γ cells slots n T tgt L st M) (kf : y ≤ x → xX Γ cells slots n T (pc + 3) L st M) : xX Γ cells slots n T pc L (xI y :: xI x :: st) M := by
  obtain ⟨D, p, l, e, R, s, m, args, below, meth, c, Q⟩ := Γ
  obtain ⟨hx, hb, hml, hown, hts, hE, hB, hR⟩ := G
  intro ls H locs hl hL hs hH
  obtain ⟨hyy, hs⟩ := List.forall_mem_cons.mp hs
  obtain ⟨hxx, hs⟩ := List.forall_mem_cons.mp hs
  have e1 := x_eq hxx hyy
  have e2 := x_lt hxx hyy
  have e3 := x_lt hyy hxx
  have e4 := x_le hxx hyy
  have e5 := x_le hyy hxx
  have e0 : Int32.ofInt 0 = 0 := rfl
  skip
  refine lv_icmp_lt (tgt := tgt) hx hb hd ht (fun h => kt ?_ ls H locs hl hL hs hH) (fun h => kf ?_ ls H locs hl hL hs hH)
  · first | exact e1.mp h | exact fun q => h (e1.mpr q) | exact e2.mp h | exact e3.mp h | exact e4.mp h | exact e5.mp h
  · first | exact fun q => h (e1.mpr q) | exact e1.mp (Classical.not_not.mp h) | exact e1.mp h | exact Int.not_lt.mp fun q => h (e2.mpr q) | exact Int.not_lt.mp fun q => h (e3.mpr q) | exact Int.not_le.mp fun q => h (e4.mpr q) | exact Int.not_le.mp fun q => h (e5.mpr q)
theorem x_icmp_ge {Γ : xΓ} {own : String} {cc : ByteArray} {nL fr lo mc ms : Nat} (G : xG Γ own cc nL fr lo mc ms) {cells slots n pc : Nat} {T : xT} {L : List (Nat × xV)} {st : List xV} {M : xM} {x y : Int} {off : Int} (tgt : Nat) (ht : (pc : Int) + off = (tgt : Int)) (hd : decode cc pc = .ok (.if_icmp .ge off, 3)) (kt : y ≤ x → xX Γ cells slots n T tgt L st M) (kf : x < y → xX Γ cells slots n T (pc + 3) L st M) : xX Γ cells slots n T pc L (xI y :: xI x :: st) M := by
  obtain ⟨D, p, l, e, R, s, m, args, below, meth, c, Q⟩ := Γ
  obtain ⟨hx, hb, hml, hown, hts, hE, hB, hR⟩ := G
  intro ls H locs hl hL hs hH
  obtain ⟨hyy, hs⟩ := List.forall_mem_cons.mp hs
  obtain ⟨hxx, hs⟩ := List.forall_mem_cons.mp hs
  have e1 := x_eq hxx hyy
  have e2 := x_lt hxx hyy
  have e3 := x_lt hyy hxx
  have e4 := x_le hxx hyy
  have e5 := x_le hyy hxx
  have e0 : Int32.ofInt 0 = 0 := rfl
  skip
  refine lv_icmp_ge (tgt := tgt) hx hb hd ht (fun h => kt ?_ ls H locs hl hL hs hH) (fun h => kf ?_ ls H locs hl hL hs hH)
  · first | exact e1.mp h | exact fun q => h (e1.mpr q) | exact e2.mp h | exact e3.mp h | exact e4.mp h | exact e5.mp h
  · first | exact fun q => h (e1.mpr q) | exact e1.mp (Classical.not_not.mp h) | exact e1.mp h | exact Int.not_lt.mp fun q => h (e2.mpr q) | exact Int.not_lt.mp fun q => h (e3.mpr q) | exact Int.not_le.mp fun q => h (e4.mpr q) | exact Int.not_le.mp fun q => h (e5.mpr q)
theorem x_icmp_gt {Γ : xΓ} {own : String} {cc : ByteArray} {nL fr lo mc ms : Nat} (G : xG Γ own cc nL fr lo mc ms) {cells slots n pc : Nat} {T : xT} {L : List (Nat × xV)} {st : List xV} {M : xM} {x y : Int} {off : Int} (tgt : Nat) (ht : (pc : Int) + off = (tgt : Int)) (hd : decode cc pc = .ok (.if_icmp .gt off, 3)) (kt : y < x → xX Γ cells slots n T tgt L st M) (kf : x ≤ y → xX Γ cells slots n T (pc + 3) L st M) : xX Γ cells slots n T pc L (xI y :: xI x :: st) M := by
  obtain ⟨D, p, l, e, R, s, m, args, below, meth, c, Q⟩ := Γ
  obtain ⟨hx, hb, hml, hown, hts, hE, hB, hR⟩ := G
  intro ls H locs hl hL hs hH
  obtain ⟨hyy, hs⟩ := List.forall_mem_cons.mp hs
  obtain ⟨hxx, hs⟩ := List.forall_mem_cons.mp hs
  have e1 := x_eq hxx hyy
  have e2 := x_lt hxx hyy
  have e3 := x_lt hyy hxx
  have e4 := x_le hxx hyy
  have e5 := x_le hyy hxx
  have e0 : Int32.ofInt 0 = 0 := rfl
  skip
  refine lv_icmp_gt (tgt := tgt) hx hb hd ht (fun h => kt ?_ ls H locs hl hL hs hH) (fun h => kf ?_ ls H locs hl hL hs hH)
  · first | exact e1.mp h | exact fun q => h (e1.mpr q) | exact e2.mp h | exact e3.mp h | exact e4.mp h | exact e5.mp h
  · first | exact fun q => h (e1.mpr q) | exact e1.mp (Classical.not_not.mp h) | exact e1.mp h | exact Int.not_lt.mp fun q => h (e2.mpr q) | exact Int.not_lt.mp fun q => h (e3.mpr q) | exact Int.not_le.mp fun q => h (e4.mpr q) | exact Int.not_le.mp fun q => h (e5.mpr q)
theorem x_icmp_le {Γ : xΓ} {own : String} {cc : ByteArray} {nL fr lo mc ms : Nat} (G : xG Γ own cc nL fr lo mc ms) {cells slots n pc : Nat} {T : xT} {L : List (Nat × xV)} {st : List xV} {M : xM} {x y : Int} {off : Int} (tgt : Nat) (ht : (pc : Int) + off = (tgt : Int)) (hd : decode cc pc = .ok (.if_icmp .le off, 3)) (kt : x ≤ y → xX Γ cells slots n T tgt L st M) (kf : y < x → xX Γ cells slots n T (pc + 3) L st M) : xX Γ cells slots n T pc L (xI y :: xI x :: st) M := by
  obtain ⟨D, p, l, e, R, s, m, args, below, meth, c, Q⟩ := Γ
  obtain ⟨hx, hb, hml, hown, hts, hE, hB, hR⟩ := G
  intro ls H locs hl hL hs hH
  obtain ⟨hyy, hs⟩ := List.forall_mem_cons.mp hs
  obtain ⟨hxx, hs⟩ := List.forall_mem_cons.mp hs
  have e1 := x_eq hxx hyy
  have e2 := x_lt hxx hyy
  have e3 := x_lt hyy hxx
  have e4 := x_le hxx hyy
  have e5 := x_le hyy hxx
  have e0 : Int32.ofInt 0 = 0 := rfl
  skip
  refine lv_icmp_le (tgt := tgt) hx hb hd ht (fun h => kt ?_ ls H locs hl hL hs hH) (fun h => kf ?_ ls H locs hl hL hs hH)
  · first | exact e1.mp h | exact fun q => h (e1.mpr q) | exact e2.mp h | exact e3.mp h | exact e4.mp h | exact e5.mp h
  · first | exact fun q => h (e1.mpr q) | exact e1.mp (Classical.not_not.mp h) | exact e1.mp h | exact Int.not_lt.mp fun q => h (e2.mpr q) | exact Int.not_lt.mp fun q => h (e3.mpr q) | exact Int.not_le.mp fun q => h (e4.mpr q) | exact Int.not_le.mp fun q => h (e5.mpr q)
theorem x_goto {Γ : xΓ} {own : String} {cc : ByteArray} {nL fr lo mc ms : Nat} (G : xG Γ own cc nL fr lo mc ms) {cells slots n pc : Nat} {T : xT} {L : List (Nat × xV)} {st : List xV} {M : xM} {off : Int} (tgt : Nat) (ht : (pc : Int) + off = (tgt : Int)) (hd : decode cc pc = .ok (.goto off, 3)) (k : xX Γ cells slots n T tgt L st M) : xX Γ cells slots n T pc L st M := by
  obtain ⟨D, p, l, e, R, s, m, args, below, meth, c, Q⟩ := Γ
  obtain ⟨hx, hb, hml, hown, hts, hE, hB, hR⟩ := G
  intro ls H locs hl hL hs hH
  exact lv_goto (tgt := tgt) hx hb hd ht (k ls H locs hl hL hs hH)
def xcmp (x y : Int) : Int := if y < x then 1 else if x = y then 0 else -1
theorem xcmp_ok (x y : Int) : i32 (xcmp x y) := by unfold xcmp; split <;> (try split) <;> decide
theorem xcmp_lt {x y : Int} : xcmp x y < 0 ↔ x < y := by unfold xcmp; split <;> (try split) <;> omega
theorem xcmp_gt {x y : Int} : 0 < xcmp x y ↔ y < x := by unfold xcmp; split <;> (try split) <;> omega
theorem xcmp_le {x y : Int} : xcmp x y ≤ 0 ↔ x ≤ y := by unfold xcmp; split <;> (try split) <;> omega
theorem xcmp_ge {x y : Int} : 0 ≤ xcmp x y ↔ y ≤ x := by unfold xcmp; split <;> (try split) <;> omega
theorem xcmp_eq {x y : Int} : xcmp x y = 0 ↔ x = y := by unfold xcmp; split <;> (try split) <;> omega
theorem x_lcmp {Γ : xΓ} {own : String} {cc : ByteArray} {nL fr lo mc ms : Nat} (G : xG Γ own cc nL fr lo mc ms) {cells slots n pc : Nat} {T : xT} {L : List (Nat × xV)} {st : List xV} {M : xM} {x y : Int} (hd : decode cc pc = .ok (.lcmp, 1)) (k : xX Γ cells slots n T (pc + 1) L (xI (xcmp x y) :: st) M) : xX Γ cells slots n T pc L (xL y :: xL x :: st) M := by
  obtain ⟨D, p, l, e, R, s, m, args, below, meth, c, Q⟩ := Γ
  obtain ⟨hx, hb, hml, hown, hts, hE, hB, hR⟩ := G
  intro ls H locs hl hL hs hH
  obtain ⟨hyy, hs⟩ := List.forall_mem_cons.mp hs
  obtain ⟨hxx, hs⟩ := List.forall_mem_cons.mp hs
  have e1 := x_lt64 hyy hxx
  have e2 := x_eq64 hxx hyy
  refine W.lcmp hx hb hd ?_
  have h9 := k ls H locs hl hL (List.forall_mem_cons.mpr ⟨xcmp_ok x y, hs⟩) hH
  rw [List.map_cons] at h9
  have e3 : lg_cmp (Int64.ofInt x) (Int64.ofInt y) = Int32.ofInt (xcmp x y) := by
    unfold lg_cmp xcmp
    by_cases h1 : y < x
    · simp [h1, e1]
    · by_cases h2 : x = y
      · subst h2; simp [h1]
      · simp [h1, h2, e1, e2]
  rw [e3]
  exact h9
theorem x_tabIn {Γ : xΓ} {own : String} {cc : ByteArray} {nL fr lo mc ms : Nat} (G : xG Γ own cc nL fr lo mc ms) {cells slots n pc : Nat} {T : xT} {L : List (Nat × xV)} {st : List xV} {M : xM} {x lo hi dflt off : Int} {offs : Array Int} {len : Nat} (tgt : Nat) (h1 : lo ≤ x) (h2 : x ≤ hi) (ho : offs[(x - lo).toNat]? = some off) (ht : (pc : Int) + off = (tgt : Int)) (hd : decode cc pc = .ok (.tableswitch dflt lo hi offs, len)) (k : xX Γ cells slots n T tgt L st M) : xX Γ cells slots n T pc L (xI x :: st) M := by
  obtain ⟨D, p, l, e, R, s, m, args, below, meth, c, Q⟩ := Γ
  obtain ⟨hx, hb, hml, hown, hts, hE, hB, hR⟩ := G
  intro ls H locs hl hL hs hH
  obtain ⟨hxx, hs⟩ := List.forall_mem_cons.mp hs
  have e := x_toInt (show i32 x from hxx)
  exact lv_tableIn (tgt := tgt) hx hb hd (by rw [e]; omega) (by rw [e]; omega) (by rw [e]; exact ho) ht (k ls H locs hl hL hs hH)
theorem x_tabOut {Γ : xΓ} {own : String} {cc : ByteArray} {nL fr lo mc ms : Nat} (G : xG Γ own cc nL fr lo mc ms) {cells slots n pc : Nat} {T : xT} {L : List (Nat × xV)} {st : List xV} {M : xM} {x lo hi dflt : Int} {offs : Array Int} {len : Nat} (tgt : Nat) (h : x < lo ∨ hi < x) (ht : (pc : Int) + dflt = (tgt : Int)) (hd : decode cc pc = .ok (.tableswitch dflt lo hi offs, len)) (k : xX Γ cells slots n T tgt L st M) : xX Γ cells slots n T pc L (xI x :: st) M := by
  obtain ⟨D, p, l, e, R, s, m, args, below, meth, c, Q⟩ := Γ
  obtain ⟨hx, hb, hml, hown, hts, hE, hB, hR⟩ := G
  intro ls H locs hl hL hs hH
  obtain ⟨hxx, hs⟩ := List.forall_mem_cons.mp hs
  have e := x_toInt (show i32 x from hxx)
  exact lv_tableOut (tgt := tgt) hx hb hd (by rw [e]; exact h) ht (k ls H locs hl hL hs hH)
