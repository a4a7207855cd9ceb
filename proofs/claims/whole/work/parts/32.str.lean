abbrev strI (i : Nat) (bs : List Int) : Prop := ∃ (a : String) (b : Nat) (c : String), xStr[i]? = some (a, b, c, bs)
theorem str_all : ∀ q ∈ xStr, q.2.2.2.length < 7 ∧ ∀ b ∈ q.2.2.2, 97 ≤ b ∧ b < 123 := by decide
theorem str_b {i : Nat} {bs : List Int} (h : strI i bs) : bs.length < 7 ∧ ∀ j, j < bs.length → 97 ≤ bs.getD j 0 ∧ bs.getD j 0 < 123 := by
  obtain ⟨a, b, c, h⟩ := h
  have := str_all _ (List.mem_of_getElem? h)
  refine ⟨this.1, fun j hj => this.2 _ ?_⟩
  simp [List.getD, hj]
theorem lk_J0_9 : Cond.fieldLink RJ0 9 RJ0 "value" "[B" ∈ WS := wm7 79 rfl rfl
theorem lk_J0_15 : Cond.fieldLink RJ0 15 RJ0 "coder" "B" ∈ WS := wm7 80 rfl rfl
theorem lk_J0_38 : Cond.fieldLink RJ0 38 RJ0 "COMPACT_STRINGS" "Z" ∈ WS := wm2 58 rfl rfl
theorem lk_J0_1053 : Cond.fieldLink RJ0 1053 "jdk/internal/util/Preconditions" "SIOOBE_FORMATTER" "Ljava/util/function/BiFunction;" ∈ WS := wm2 79 rfl rfl
theorem x_strget {Γ : xΓ} {cc : ByteArray} {nL fr lo mc ms : Nat} (G : xG Γ RJ0 cc nL fr lo mc ms) {cells slots n pc : Nat} {T : xT} {L : List (Nat × xV)} {st : List xV} {M : xM} {i : Nat} {bs : List Int} (hi : strI i bs) (hd : decode cc pc = .ok (.getfield 9, 3)) (kk : xX Γ cells slots n T (pc + 3) L (xR (2000000 + i) :: st) M) : xX Γ cells slots n T pc L (xR (1000000 + i) :: st) M := by
  obtain ⟨D, p, l, e, R, s, m, args, below, meth, c, Q⟩ := Γ
  obtain ⟨hx, hb, hml, hown, hts, hE, hB, hR⟩ := G
  obtain ⟨q1, q2, q3, hi⟩ := hi
  intro ls H locs hll hL hs hH
  have h5 := hE.2.2.2.2.2.1 i _ hi
  have h9 := kk ls H locs hll hL (List.forall_mem_cons.mpr ⟨True.intro, (List.forall_mem_cons.mp hs).2⟩) hH
  rw [List.map_cons] at h9
  exact vk_getf hx hb h5.2.2.2.1 hH.2.2.1 hown (hts _ lk_J0_9) (fun _ h => h) hd h9
theorem x_strcod {Γ : xΓ} {cc : ByteArray} {nL fr lo mc ms : Nat} (G : xG Γ RJ0 cc nL fr lo mc ms) {cells slots n pc : Nat} {T : xT} {L : List (Nat × xV)} {st : List xV} {M : xM} {i : Nat} {bs : List Int} (hi : strI i bs) (hd : decode cc pc = .ok (.getfield 15, 3)) (kk : xX Γ cells slots n T (pc + 3) L (xI 0 :: st) M) : xX Γ cells slots n T pc L (xR (1000000 + i) :: st) M := by
  obtain ⟨D, p, l, e, R, s, m, args, below, meth, c, Q⟩ := Γ
  obtain ⟨hx, hb, hml, hown, hts, hE, hB, hR⟩ := G
  obtain ⟨q1, q2, q3, hi⟩ := hi
  intro ls H locs hll hL hs hH
  have h5 := hE.2.2.2.2.2.1 i _ hi
  have h9 := kk ls H locs hll hL (List.forall_mem_cons.mpr ⟨by show i32 0; decide, (List.forall_mem_cons.mp hs).2⟩) hH
  rw [List.map_cons] at h9
  exact vk_getf hx hb h5.2.2.1 hH.2.2.1 hown (hts _ lk_J0_15) (fun _ h => h) hd h9
theorem x_strcs {Γ : xΓ} {cc : ByteArray} {nL fr lo mc ms : Nat} (G : xG Γ RJ0 cc nL fr lo mc ms) {cells slots n pc : Nat} {T : xT} {L : List (Nat × xV)} {st : List xV} {M : xM} (hd : decode cc pc = .ok (.getstatic 38, 3)) (kk : xX Γ cells slots n T (pc + 3) L (xI 1 :: st) M) : xX Γ cells slots n T pc L st M := by
  obtain ⟨D, p, l, e, R, s, m, args, below, meth, c, Q⟩ := Γ
  obtain ⟨hx, hb, hml, hown, hts, hE, hB, hR⟩ := G
  intro ls H locs hll hL hs hH
  have h9 := kk ls H locs hll hL (List.forall_mem_cons.mpr ⟨by show i32 1; decide, hs⟩) hH
  rw [List.map_cons] at h9
  exact va_gets hx hb hE.2.2.2.2.2.2.1 hH.2.2.1 hown (hts _ lk_J0_38) (fun _ h => h) hd h9
theorem x_stralen {Γ : xΓ} {own : String} {cc : ByteArray} {nL fr lo mc ms : Nat} (G : xG Γ own cc nL fr lo mc ms) {cells slots n pc : Nat} {T : xT} {L : List (Nat × xV)} {st : List xV} {M : xM} {i : Nat} {bs : List Int} (hi : strI i bs) (hd : decode cc pc = .ok (.arraylength, 1)) (kk : xX Γ cells slots n T (pc + 1) L (xI (bs.length : Int) :: st) M) : xX Γ cells slots n T pc L (xR (2000000 + i) :: st) M := by
  have hb7 := (str_b hi).1
  obtain ⟨D, p, l, e, R, s, m, args, below, meth, c, Q⟩ := Γ
  obtain ⟨hx, hb, hml, hown, hts, hE, hB, hR⟩ := G
  obtain ⟨q1, q2, q3, hi⟩ := hi
  intro ls H locs hll hL hs hH
  have h5 := hE.2.2.2.2.2.1 i _ hi
  have h9 := kk ls H locs hll hL (List.forall_mem_cons.mpr ⟨by show i32 _; omega, (List.forall_mem_cons.mp hs).2⟩) hH
  rw [List.map_cons] at h9
  exact va_tlen hx hb h5.2.2.2.2 hH.2.2.1 (v := Int32.ofInt (bs.length : Int)) (by
    apply Int32.toInt_inj.mp
    rw [x_toInt ⟨by omega, by omega⟩]
    exact nI_toInt (show bs.length < 2147483648 by omega)) hd h9
theorem x_strbald {Γ : xΓ} {own : String} {cc : ByteArray} {nL fr lo mc ms : Nat} (G : xG Γ own cc nL fr lo mc ms) {cells slots n pc : Nat} {T : xT} {L : List (Nat × xV)} {st : List xV} {M : xM} {i : Nat} {k : Int} {bs : List Int} (hi : strI i bs) (h0 : 0 ≤ k) (h1 : k < bs.length) (hd : decode cc pc = .ok (.baload, 1)) (kk : xX Γ cells slots n T (pc + 1) L (xI (bs.getD k.toNat 0) :: st) M) : xX Γ cells slots n T pc L (xI k :: xR (2000000 + i) :: st) M := by
  have hb7 := str_b hi
  have hbk := hb7.2 k.toNat (by omega)
  obtain ⟨D, p, l, e, R, s, m, args, below, meth, c, Q⟩ := Γ
  obtain ⟨hx, hb, hml, hown, hts, hE, hB, hR⟩ := G
  obtain ⟨q1, q2, q3, hi⟩ := hi
  intro ls H locs hll hL hs hH
  have h5 := hE.2.2.2.2.2.1 i _ hi
  obtain ⟨hki, hs⟩ := List.forall_mem_cons.mp hs
  have h9 := kk ls H locs hll hL (List.forall_mem_cons.mpr ⟨by show i32 _; omega, (List.forall_mem_cons.mp hs).2⟩) hH
  rw [List.map_cons] at h9
  exact va_tb hx hb h5.2.2.2.2 hH.2.2.1 (x_in hki h0 h1) (by show Value.int _ = Value.int _; rw [x_nat hki]) hd h9
theorem x_callStr {Γ : xΓ} {own : String} {cc : ByteArray} {nL fr lo mc ms : Nat} (G : xG Γ own cc nL fr lo mc ms) {cells slots n pc : Nat} {T : xT} {L : List (Nat × xV)} (st : List xV) {st0 : List xV} {M : xM} {y : xY} {np idx fr2 lo2 : Nat} (as : List xV) {z : Int} {i : Nat} {bs : List Int} (hi : strI i bs) (hcl : y.1.cls = "java/lang/String") (hy : xYb y np) (hins : Cond.instanceMethod y.1 ∈ WS) (hsel : Cond.selects y.1.cls y.1 y.1 ∈ WS) (hlk : xMl own idx y.1) (hnp : as.length = np) (hst : as.reverse ++ xR (1000000 + i) :: st = st0) (hC : xC Γ.1 Γ.2.2.1 y fr2 lo2 0 0 (xR (1000000 + i) :: as) n T M (xPp n T M z)) (hRo : fr2 + 1 ≤ fr ∧ 8 + (y.2.2.1 + 11) + lo2 ≤ lo) (hCe : cells ≤ mc ∧ slots ≤ ms) (hcat : (st.map xcat).sum ≤ 8) (hd : decode cc pc = .ok (.invokevirtual idx, 3)) (kk : xX Γ cells slots n T (pc + 3) L (xI z :: st) M) : xX Γ cells slots n T pc L st0 M := by
  subst hst
  obtain ⟨D, p, l, e, R, s, m, args, below, meth, c, Q⟩ := Γ
  obtain ⟨hx, hb, hml, hown, hts, hE, hB, hR⟩ := G
  obtain ⟨q1, q2, q3, hi⟩ := hi
  intro ls H locs hl hL hs hH
  have hs := xk_app hs
  have hs : (∀ v ∈ as, xk v) ∧ ∀ v ∈ st, xk v := ⟨hs.1, (List.forall_mem_cons.mp hs.2).2⟩
  rw [xst_split]
  have hlen : (as.map (xc D.1)).length = np := by rw [List.length_map]; exact hnp
  have hRec : ∃ cellB : Cell, H[D.1 (1000000 + i)]? = some cellB ∧ cellB.vm.isStatics = false ∧ s.vm.findClass y.1.cls = some cellB.cls := by
    obtain ⟨cell, a1, a2, a3, a4⟩ := (hE.2.2.2.2.2.1 i _ hi).2.1.kept hH.2.2.1.2.1
    exact ⟨cell, a1, a2, by rw [hcl]; exact a3⟩
  have hPre : PreV s H y.1.cls (D.1 (1000000 + i)) (xPc D (xR (1000000 + i) :: as) n T M) (as.map (xc D.1)) := ⟨xblind, hRec, xpre hE hH (List.forall_mem_cons.mpr ⟨True.intro, hs.1⟩)⟩
  have hRm : ({ frames := fr2, cells := 0, slots := 0, locals := lo2 } : Room).frames + 1 ≤ R.frames ∧ 8 + (y.2.2.1 + 11) + ({ frames := fr2, cells := 0, slots := 0, locals := lo2 } : Room).locals ≤ R.locals := by rw [hR]; exact hRo
  have hcs : cells + 0 ≤ R.cells ∧ slots + 0 ≤ R.slots := by rw [hR]; exact hCe
  have hrun : va_Run p l e R s m args below meth c H locs cells slots 0 0 (F0 m pc ls ((as.map (xc D.1)).reverse ++ (xR (1000000 + i) :: st).map (xc D.1))) (st.map (xc D.1)) (xQc D (xPp n T M z) (Value.ref (D.1 (1000000 + i)) :: as.map (xc D.1)).toArray) (xA D.2.2.1) := by
    rcases hlk with hlk | hlk
    · exact va_runV ⟨hx, hb, hml, hown, hts⟩ hC ⟨callB_of np hts (xgood hy) rfl rfl rfl (hts _ hy.2.1) (hts _ hlk) hy.2.2 hRm, hts _ hins, hts _ hsel⟩ hPre rfl hlen (by rw [← hml]; exact hl.1) rfl (xroom hcat) hd hcs
    · exact va_runVN (host := "FairDraws") ⟨hx, hb, hml, hown, hts⟩ hC ⟨va_cnB np hts (xgood hy) rfl rfl rfl (hE.2.2.2.1 _ hlk) (hts _ hy.2.1) hy.2.2 hRm, hts _ hins, hts _ hsel⟩ hPre rfl hlen (by rw [← hml]; exact hl.1) rfl (xroom hcat) hd hcs
  refine x_goon (n := n) (T := T) (M := M) (P := xPp n T M z) hrun hH fun r n2 T2 M2 H1 locs1 hrk hp hH1 => ?_
  obtain ⟨rfl, rfl, rfl, rfl⟩ := hp
  have h9 := kk ls H1 locs1 hl hL (xk_res (r := some (xI z)) hrk hs.2) hH1
  exact h9
/-! Preconditions.checkIndex: its third argument is never asked -/
def xPc1 (D : xD) (as : List xV) (x : Value) (n : Nat) (T : xT) (M : xM) : Array Value → State → Prop := fun v U => v = (as.map (xc D.1) ++ [x]).toArray ∧ (∀ a ∈ as, xk a) ∧ va_P D.2.2.2 vwCl (xw D n T M) U.heap ∧ va_D (xA D.2.2.1) (xw D n T M) ∧ xr T M ∧ U.heap.size = D.2.2.1 + n ∧ xE D U
theorem xblind1 {D : xD} {as : List xV} {x : Value} {n : Nat} {T : xT} {M : xM} : FrameBlind (xPc1 D as x n T M) := by
  intro a U g mk h
  obtain ⟨h1, h2, h3, h4, h5, h6, h7⟩ := h
  exact ⟨h1, h2, h3, h4, h5, h6, xE.same rfl rfl h7⟩
theorem kJ3_ck (D : xD) (l : Launch) {n : Nat} {T : xT} {M : xM} (i len : Int) (x : Value) (hx1 : x.category = 1) (h0 : 0 ≤ i) (h1 : i < len) : Met l uJ3_checkIndex_8e157.1 (Cond.code uJ3_checkIndex_8e157.1 uJ3_checkIndex_8e157.2.1 uJ3_checkIndex_8e157.2.2.1 uJ3_checkIndex_8e157.2.2.2 :: WS) { frames := 0, cells := 0, slots := 0, locals := 0 } (xPc1 D [xI i, xI len] x n T M) (xQc D (xPp n T M i)) 0 0 (xA D.2.2.1) := by
  have body : ∀ Γ : xΓ, xG Γ RJ3 cJ3_checkIndex_8e157 3 0 0 0 0 → xRt Γ (xPp n T M i) (some .int) 0 0 → xX Γ 0 0 n T 0 [(0, xI i), (1, xI len)] [] M := by
    intro Γ G Rt
    refine x_iload_n G 0 rfl rfl dJ3_checkIndex_8e157_0 ?_
    refine x_if_lt G 9 (by decide) dJ3_checkIndex_8e157_1 (fun c1 => by omega) (fun c1 => ?_)
    refine x_iload_n G 0 rfl rfl dJ3_checkIndex_8e157_4 ?_
    refine x_iload_n G 1 rfl rfl dJ3_checkIndex_8e157_5 ?_
    refine x_icmp_lt G 16 (by decide) dJ3_checkIndex_8e157_6 (fun c6 => ?_) (fun c6 => by omega)
    refine x_iload_n G 0 rfl rfl dJ3_checkIndex_8e157_16 ?_
    exact x_iret G Rt dJ3_checkIndex_8e157_17 ⟨rfl, rfl, rfl, rfl⟩
  refine Met.ofW (cc := uJ3_checkIndex_8e157.2.1) (maxL := uJ3_checkIndex_8e157.2.2.1) (ret := uJ3_checkIndex_8e157.2.2.2) (by decide) rfl ?_
  intro p e s m args below meth c s₁ B hml hv
  obtain ⟨rfl, hak, hP, hD, hr, hz, hE⟩ := hv
  have hts := atoms_spec (ws := Cond.code uJ3_checkIndex_8e157.1 uJ3_checkIndex_8e157.2.1 uJ3_checkIndex_8e157.2.2.1 uJ3_checkIndex_8e157.2.2.2 :: WS) B.pre
  have hown : s.vm.findClass uJ3_checkIndex_8e157.1.cls = some m.cls := findClass_of_methodNamed B.named
  have hl := lv_entry (([xI i, xI len].map (xc D.1)) ++ [x]) (n := uJ3_checkIndex_8e157.2.2.1) (by
    cases x <;> first | exact Nat.le_refl 3 | (exfalso; revert hx1; simp [Value.category]))
  rw [lg_entry_eq]
  have hl2 : lv_has _ uJ3_checkIndex_8e157.2.2.1 ([(0, xI i), (1, xI len)].map fun q => (q.1, xc D.1 q.2)) := ⟨hl.1, hl.2.1, fun q hq => hl.2.2 q (by
    simp only [List.map_cons, List.map_nil, List.mem_cons, List.not_mem_nil, or_false] at hq
    rcases hq with rfl | rfl
    · exact List.mem_cons_self
    · exact List.mem_cons_of_mem _ List.mem_cons_self)⟩
  refine body (D, p, l, e, _, s, m, _, below, meth, c, _) ⟨B.exec, B.bytes, hml, hown, fun w hw => hts w (List.mem_cons_of_mem _ hw), hE, by rw [hz]; exact Nat.le_add_right _ _, rfl⟩ ⟨rfl, B.returns, B.notSynchronized⟩ _ _ _ (by rw [hml]; exact hl2) (by
    intro q hq
    rcases List.mem_cons.mp hq with rfl | hq
    · exact hak _ (by simp)
    · rcases List.mem_cons.mp hq with rfl | hq
      · exact hak _ (by simp)
      · cases hq) (fun v hv => by cases hv) ⟨hP, hD, va_S.rf, hr, hz⟩
theorem x_ckix {Γ : xΓ} {cc : ByteArray} {nL fr lo mc ms : Nat} (G : xG Γ RJ0 cc nL fr lo mc ms) {cells slots n pc : Nat} {T : xT} {L : List (Nat × xV)} {M : xM} {i len : Int} (h0 : 0 ≤ i) (h1 : i < len) (hRo : 1 ≤ fr ∧ 22 ≤ lo) (hCe : cells ≤ mc ∧ slots ≤ ms) (hd1 : decode cc pc = .ok (.getstatic 1053, 3)) (hd2 : decode cc (pc + 3) = .ok (.invokestatic 1059, 3)) (hd3 : decode cc (pc + 3 + 3) = .ok (.pop, 1)) (kk : xX Γ cells slots n T (pc + 3 + 3 + 1) L [] M) : xX Γ cells slots n T pc L [xI len, xI i] M := by
  obtain ⟨D, p, l, e, R, s, m, args, below, meth, c, Q⟩ := Γ
  obtain ⟨hx, hb, hml, hown, hts, hE, hB, hR⟩ := G
  intro ls H locs hl hL hs hH
  have go : ∀ x : Value, x.category = 1 → W p l e R s m args below meth c H locs cells slots Q (F0 m (pc + 3) ls (x :: [xI len, xI i].map (xc D.1))) := by
    intro x hx1
    have hak : ∀ a ∈ [xI i, xI len], xk a := by
      intro a ha
      exact hs a (by simp at ha ⊢; rcases ha with rfl | rfl <;> simp)
    have hPre : PreS s H (xPc1 D [xI i, xI len] x n T M) ([xI i, xI len].map (xc D.1) ++ [x]) := ⟨xblind1, fun U hU hW => by
      obtain ⟨g1, g2, g3, g4, g5⟩ := hH
      exact ⟨rfl, hak, by rw [hU]; exact g1, g2, g4, by rw [hU]; exact g5, hE.at g3 hU hW⟩⟩
    have hRm : ({ frames := 0, cells := 0, slots := 0, locals := 0 } : Room).frames + 1 ≤ R.frames ∧ 8 + (uJ3_checkIndex_8e157.2.2.1 + 11) + ({ frames := 0, cells := 0, slots := 0, locals := 0 } : Room).locals ≤ R.locals := by rw [hR]; exact hRo
    have hcs : cells + 0 ≤ R.cells ∧ slots + 0 ≤ R.slots := by rw [hR]; exact hCe
    have hlk : Cond.methodLink RJ0 1059 uJ3_checkIndex_8e157.1 ∈ WS := wm2 81 rfl rfl
    have hrun : va_Run p l e R s m args below meth c H locs cells slots 0 0 (F0 m (pc + 3) ls (([xI i, xI len].map (xc D.1) ++ [x]).reverse ++ [])) [] (xQc D (xPp n T M i) ([xI i, xI len].map (xc D.1) ++ [x]).toArray) (xA D.2.2.1) :=
      va_runS ⟨hx, hb, hml, hown, hts⟩ (kJ3_ck D l i len x hx1 h0 h1) ⟨callB_of 3 hts (xgood hy_J3_checkIndex_8e157) rfl rfl rfl (hts _ hy_J3_checkIndex_8e157.2.1) (hts _ hlk) hy_J3_checkIndex_8e157.2.2 hRm, hts _ ht_J3_checkIndex_8e157⟩ hPre rfl rfl (by rw [← hml]; exact hl.1) rfl (xroom (σ := D.1) (st := []) (by decide)) hd2 hcs
    refine x_goon (n := n) (T := T) (M := M) (P := xPp n T M i) hrun hH fun r n2 T2 M2 H1 locs1 hrk hp hH1 => ?_
    obtain ⟨rfl, rfl, rfl, rfl⟩ := hp
    exact lv_pop hx hb hd3 rfl (kk ls H1 locs1 hl hL (fun v hv => by cases hv) hH1)
  rcases hE.2.2.2.2.2.2.2 with hZ | ⟨t, hZ⟩
  · exact va_gets hx hb hZ hH.2.2.1 hown (hts _ lk_J0_1053) (fun _ h => h) hd1 (go .null rfl)
  · exact va_gets hx hb hZ hH.2.2.1 hown (hts _ lk_J0_1053) (fun _ h => h) hd1 (go (.ref t) rfl)
