abbrev xY : Type := MethodName × ByteArray × Nat × Option FieldType
abbrev xPt : Type := Option xV → Nat → xT → xM → Prop
/-- a method's start and end, over the small machine -/
def xPc (D : xD) (as : List xV) (n : Nat) (T : xT) (M : xM) : Array Value → State → Prop := fun v U => v = (as.map (xc D.1)).toArray ∧ (∀ a ∈ as, xk a) ∧ va_P D.2.2.2 vwCl (xw D n T M) U.heap ∧ va_D (xA D.2.2.1) (xw D n T M) ∧ xr T M ∧ U.heap.size = D.2.2.1 + n ∧ xE D U
def xQc (D : xD) (P : xPt) : Array Value → State → Outcome → State → Prop := fun _ s o t => (∃ (r : Option xV) (n : Nat) (T : xT) (M : xM), o = .returned (r.map (xc D.1)) ∧ (∀ v, r = some v → xk v) ∧ P r n T M ∧ va_P D.2.2.2 vwCl (xw D n T M) t.heap ∧ va_D (xA D.2.2.1) (xw D n T M) ∧ xr T M ∧ t.heap.size = D.2.2.1 + n) ∧ va_F (xA D.2.2.1) s t
/-- method y (code, locals, answer's type), called on as over the memory M, ends with P; fr frames, lo words of locals, mc cells, ms slots are enough -/
def xC (D : xD) (l : Launch) (y : xY) (fr lo mc ms : Nat) (as : List xV) (n : Nat) (T : xT) (M : xM) (P : xPt) : Prop :=
  Met l y.1 (Cond.code y.1 y.2.1 y.2.2.1 y.2.2.2 :: WS) { frames := fr, cells := mc, slots := ms, locals := lo } (xPc D as n T M) (xQc D P) mc ms (xA D.2.2.1)
def xYb (y : xY) (np : Nat) : Prop := Cond.code y.1 y.2.1 y.2.2.1 y.2.2.2 ∈ WS ∧ Cond.initialized y.1.cls ∈ WS ∧ (y.1.cls ≠ "java/lang/invoke/MethodHandle" ∧ y.1.cls ≠ "java/lang/invoke/VarHandle" ∧ (parseMethodDescriptor y.1.desc).map (fun d => d.parameters.length) = some np)
def xMl (own : String) (idx : Nat) (y : MethodName) : Prop := Cond.methodLink own idx y ∈ WS ∨ (own, idx, y) ∈ xnM
theorem xC.mono {D : xD} {l : Launch} {y : xY} {fr lo mc ms : Nat} {as : List xV} {n : Nat} {T : xT} {M : xM} {P P' : xPt} (h : xC D l y fr lo mc ms as n T M P) (hP : ∀ r n2 T2 M2, P r n2 T2 M2 → P' r n2 T2 M2) : xC D l y fr lo mc ms as n T M P' := by
  unfold xC Met MetFree at h ⊢
  intro p e h1 h2 h3 s m args below h4 h5 h6 h7
  obtain ⟨k, o, g1, g2, g3, ⟨⟨r, n2, T2, M2, q1, q2, q3, q4⟩, q5⟩, g5⟩ := h p e h1 h2 h3 s m args below h4 h5 h6 h7
  exact ⟨k, o, g1, g2, g3, ⟨⟨r, n2, T2, M2, q1, q2, hP _ _ _ _ q3, q4⟩, q5⟩, g5⟩
theorem xgood {y : xY} {np : Nat} (h : xYb y np) : GoodIn WS (Cond.code y.1 y.2.1 y.2.2.1 y.2.2.2 :: WS) := by
  intro w hw
  rcases List.mem_cons.mp hw with rfl | hw
  · exact ⟨h.1, Or.inl rfl⟩
  · exact ⟨hw, ws_good w hw⟩
theorem xblind {D : xD} {as : List xV} {n : Nat} {T : xT} {M : xM} : FrameBlind (xPc D as n T M) := by
  intro a U g mk h
  obtain ⟨h1, h2, h3, h4, h5, h6, h7⟩ := h
  exact ⟨h1, h2, h3, h4, h5, h6, xE.same rfl rfl h7⟩
theorem xpre {D : xD} {s : State} {n : Nat} {T : xT} {M : xM} {H : Heap} {locs : List Loc} {as : List xV} (hE : xE D s) (hH : xH D s n T M H locs) (has : ∀ a ∈ as, xk a) : ∀ U : State, U.heap = H → s.WarmedH U.vm → xPc D as n T M (as.map (xc D.1)).toArray U := by
  intro U hU hW
  obtain ⟨h1, h2, h3, h4, h5⟩ := hH
  exact ⟨rfl, has, by rw [hU]; exact h1, h2, h4, by rw [hU]; exact h5, hE.at h3 hU hW⟩
section XGO
variable {p : Program} {l : Launch} {e : Env} {R : Room} {s : State} {m : MethodId} {args : Array Value} {below : List Frame} {meth : Method} {c : Code} {H : Heap} {locs : List Loc} {cells slots : Nat} {Q : State → Prop}
theorem x_goon {D : xD} {n pc mc2 ms2 : Nat} {T : xT} {M : xM} {P : xPt} {ls : Array Slot} {st0 rest : List Value} {a : Array Value} (hr : va_Run p l e R s m args below meth c H locs cells slots mc2 ms2 (F0 m pc ls st0) rest (xQc D P a) (xA D.2.2.1)) (hH : xH D s n T M H locs)
    (kk : ∀ (r : Option xV) (n2 : Nat) (T2 : xT) (M2 : xM) (H1 : Heap) (locs1 : List Loc), (∀ v, r = some v → xk v) → P r n2 T2 M2 → xH D s n2 T2 M2 H1 locs1 → W p l e R s m args below meth c H1 locs1 (cells + mc2) (slots + ms2) Q (F0 m (pc + 3) ls ((r.map (xc D.1)).toList ++ rest))) : W p l e R s m args below meth c H locs cells slots Q (F0 m pc ls st0) := by
  intro T9 hT X
  obtain ⟨v, st₀, t, T', L, h0, X', hL, e1, e2, ⟨⟨r, n2, T2, M2, hv, hrk, hp, hP1, hD1, hr1, hz1⟩, hz, hk⟩, st⟩ := hr T9 hT X
  cases hv
  rw [h0] at hz hk
  obtain ⟨-, -, hS, -, -⟩ := hH
  obtain ⟨t2, a1, b1⟩ := kk r n2 T2 M2 T'.heap (locs ++ L) hrk hp ⟨by rw [e1]; exact hP1, hD1, ⟨Nat.le_trans hS.1 (by rw [e1]; exact hz), fun q h1 h2 => by rw [e1, hk q (Nat.lt_of_lt_of_le h1 hS.1) h2]; exact hS.2.1 q h1 h2, fun q hq => by
      rcases List.mem_append.mp hq with h | h
      · exact hS.2.2 q h
      · exact hL q h⟩, hr1, by rw [e1]; exact hz1⟩ T' rfl X'
  exact ⟨t2, st t2 a1, b1⟩
end XGO
theorem xst_split {σ : Nat → Nat} {as st : List xV} : (as.reverse ++ st).map (xc σ) = (as.map (xc σ)).reverse ++ st.map (xc σ) := by
  rw [List.map_append, List.map_reverse]
theorem xroom {m : MethodId} {pc : Nat} {ls : Array Slot} {σ : Nat → Nat} {st : List xV} {st0 : List Value} (h : (st.map xcat).sum ≤ 8) : 2 * (F0 m pc ls st0).monitorRoom + ((st.map (xc σ)).map fun v => v.category).sum ≤ 8 := by
  have e : (st.map (xc σ)).map (fun v => v.category) = st.map xcat := by
    rw [List.map_map]
    exact List.map_congr_left fun v _ => xcat_eq σ v
  have := lv_room (m := m) (pc := pc) (ls := ls) (rest := st0) (st := st.map (xc σ)) (by rw [e]; exact h)
  exact this
theorem xk_app {as st : List xV} (h : ∀ v ∈ as.reverse ++ st, xk v) : (∀ v ∈ as, xk v) ∧ ∀ v ∈ st, xk v :=
  ⟨fun v hv => h v (List.mem_append_left _ (List.mem_reverse.mpr hv)), fun v hv => h v (List.mem_append_right _ hv)⟩
theorem xk_res {r : Option xV} {st : List xV} (hr : ∀ v, r = some v → xk v) (hs : ∀ v ∈ st, xk v) : ∀ v ∈ r.toList ++ st, xk v := by
  intro v hv
  rcases List.mem_append.mp hv with h | h
  · cases r with
    | none => cases h
    | some w =>
      rw [show v = w from List.mem_singleton.mp h]
      exact hr w rfl
  · exact hs v h
theorem xm_res {σ : Nat → Nat} {r : Option xV} {st : List xV} : (r.toList ++ st).map (xc σ) = (r.map (xc σ)).toList ++ st.map (xc σ) := by
  cases r <;> rfl
theorem x_callS {Γ : xΓ} {own : String} {cc : ByteArray} {nL fr lo mc ms : Nat} (G : xG Γ own cc nL fr lo mc ms) {cells slots n pc : Nat} {T : xT} {L : List (Nat × xV)} {st : List xV} {M : xM} {y : xY} {np idx fr2 lo2 mc2 ms2 : Nat} {as : List xV} {P : xPt} (hy : xYb y np) (hsta : Cond.static y.1 ∈ WS) (hlk : xMl own idx y.1) (hnp : as.length = np) (hC : xC Γ.1 Γ.2.2.1 y fr2 lo2 mc2 ms2 as n T M P) (hRo : fr2 + 1 ≤ fr ∧ 8 + (y.2.2.1 + 11) + lo2 ≤ lo) (hCe : cells + mc2 ≤ mc ∧ slots + ms2 ≤ ms) (hcat : (st.map xcat).sum ≤ 8) (hd : decode cc pc = .ok (.invokestatic idx, 3)) (kk : ∀ r n2 T2 M2, P r n2 T2 M2 → xX Γ (cells + mc2) (slots + ms2) n2 T2 (pc + 3) L (r.toList ++ st) M2) : xX Γ cells slots n T pc L (as.reverse ++ st) M := by
  obtain ⟨D, p, l, e, R, s, m, args, below, meth, c, Q⟩ := Γ
  obtain ⟨hx, hb, hml, hown, hts, hE, hB, hR⟩ := G
  intro ls H locs hl hL hs hH
  have hs := xk_app hs
  rw [xst_split]
  have hm : as.map (xc D.1) = as.map (xc D.1) := rfl
  have hlen : (as.map (xc D.1)).length = np := by rw [List.length_map]; exact hnp
  have hPre : PreS s H (xPc D as n T M) (as.map (xc D.1)) := ⟨xblind, xpre hE hH hs.1⟩
  have hRm : ({ frames := fr2, cells := mc2, slots := ms2, locals := lo2 } : Room).frames + 1 ≤ R.frames ∧ 8 + (y.2.2.1 + 11) + ({ frames := fr2, cells := mc2, slots := ms2, locals := lo2 } : Room).locals ≤ R.locals := by rw [hR]; exact hRo
  have hcs : cells + mc2 ≤ R.cells ∧ slots + ms2 ≤ R.slots := by rw [hR]; exact hCe
  have hrun : va_Run p l e R s m args below meth c H locs cells slots mc2 ms2 (F0 m pc ls ((as.map (xc D.1)).reverse ++ st.map (xc D.1))) (st.map (xc D.1)) (xQc D P (as.map (xc D.1)).toArray) (xA D.2.2.1) := by
    rcases hlk with hlk | hlk
    · exact va_runS ⟨hx, hb, hml, hown, hts⟩ hC ⟨callB_of np hts (xgood hy) rfl rfl rfl (hts _ hy.2.1) (hts _ hlk) hy.2.2 hRm, hts _ hsta⟩ hPre rfl hlen (by rw [← hml]; exact hl.1) rfl (xroom hcat) hd hcs
    · exact va_runSN (host := "FairDraws") ⟨hx, hb, hml, hown, hts⟩ hC ⟨va_cnB np hts (xgood hy) rfl rfl rfl (hE.2.2.2.1 _ hlk) (hts _ hy.2.1) hy.2.2 hRm, hts _ hsta, True.intro⟩ hPre rfl hlen (by rw [← hml]; exact hl.1) rfl (xroom hcat) hd hcs
  refine x_goon (n := n) (T := T) (M := M) (P := P) hrun hH fun r n2 T2 M2 H1 locs1 hrk hp hH1 => ?_
  have h9 := kk r n2 T2 M2 hp ls H1 locs1 hl hL (xk_res hrk hs.2) hH1
  rw [xm_res] at h9
  exact h9
theorem x_callV {Γ : xΓ} {own : String} {cc : ByteArray} {nL fr lo mc ms : Nat} (G : xG Γ own cc nL fr lo mc ms) {cells slots n pc : Nat} {T : xT} {L : List (Nat × xV)} {st : List xV} {M : xM} {y : xY} {np idx fr2 lo2 mc2 ms2 : Nat} {as : List xV} {P : xPt} {ci a : Nat} {Tf : u_T} {N : Nat} (hvc : vwCl[ci]? = some (y.1.cls, Tf, N)) (hci : ci < 8) (ha : a < n) (hT : (T a).1 = ci) (hy : xYb y np) (hins : Cond.instanceMethod y.1 ∈ WS) (hsel : Cond.selects y.1.cls y.1 y.1 ∈ WS) (hlk : xMl own idx y.1) (hnp : as.length = np) (hC : xC Γ.1 Γ.2.2.1 y fr2 lo2 mc2 ms2 (xR a :: as) n T M P) (hRo : fr2 + 1 ≤ fr ∧ 8 + (y.2.2.1 + 11) + lo2 ≤ lo) (hCe : cells + mc2 ≤ mc ∧ slots + ms2 ≤ ms) (hcat : (st.map xcat).sum ≤ 8) (hd : decode cc pc = .ok (.invokevirtual idx, 3)) (kk : ∀ r n2 T2 M2, P r n2 T2 M2 → xX Γ (cells + mc2) (slots + ms2) n2 T2 (pc + 3) L (r.toList ++ st) M2) : xX Γ cells slots n T pc L (as.reverse ++ xR a :: st) M := by
  obtain ⟨D, p, l, e, R, s, m, args, below, meth, c, Q⟩ := Γ
  obtain ⟨hx, hb, hml, hown, hts, hE, hB, hR⟩ := G
  intro ls H locs hl hL hs hH
  have hs := xk_app hs
  have hs : (∀ v ∈ as, xk v) ∧ ∀ v ∈ st, xk v := ⟨hs.1, (List.forall_mem_cons.mp hs.2).2⟩
  rw [xst_split]
  have hlen : (as.map (xc D.1)).length = np := by rw [List.length_map]; exact hnp
  have hRec : ∃ cellB : Cell, H[D.1 a]? = some cellB ∧ cellB.vm.isStatics = false ∧ s.vm.findClass y.1.cls = some cellB.cls := va_recv hE.2.1 hH.1 (q0 := a) hvc (by rw [xw_get ha, xe_obj hT hci])
  have hPre : PreV s H y.1.cls (D.1 a) (xPc D (xR a :: as) n T M) (as.map (xc D.1)) := ⟨xblind, hRec, xpre hE hH (List.forall_mem_cons.mpr ⟨True.intro, hs.1⟩)⟩
  have hRm : ({ frames := fr2, cells := mc2, slots := ms2, locals := lo2 } : Room).frames + 1 ≤ R.frames ∧ 8 + (y.2.2.1 + 11) + ({ frames := fr2, cells := mc2, slots := ms2, locals := lo2 } : Room).locals ≤ R.locals := by rw [hR]; exact hRo
  have hcs : cells + mc2 ≤ R.cells ∧ slots + ms2 ≤ R.slots := by rw [hR]; exact hCe
  have hrun : va_Run p l e R s m args below meth c H locs cells slots mc2 ms2 (F0 m pc ls ((as.map (xc D.1)).reverse ++ (xR a :: st).map (xc D.1))) (st.map (xc D.1)) (xQc D P (Value.ref (D.1 a) :: as.map (xc D.1)).toArray) (xA D.2.2.1) := by
    rcases hlk with hlk | hlk
    · exact va_runV ⟨hx, hb, hml, hown, hts⟩ hC ⟨callB_of np hts (xgood hy) rfl rfl rfl (hts _ hy.2.1) (hts _ hlk) hy.2.2 hRm, hts _ hins, hts _ hsel⟩ hPre rfl hlen (by rw [← hml]; exact hl.1) rfl (xroom hcat) hd hcs
    · exact va_runVN (host := "FairDraws") ⟨hx, hb, hml, hown, hts⟩ hC ⟨va_cnB np hts (xgood hy) rfl rfl rfl (hE.2.2.2.1 _ hlk) (hts _ hy.2.1) hy.2.2 hRm, hts _ hins, hts _ hsel⟩ hPre rfl hlen (by rw [← hml]; exact hl.1) rfl (xroom hcat) hd hcs
  refine x_goon (n := n) (T := T) (M := M) (P := P) hrun hH fun r n2 T2 M2 H1 locs1 hrk hp hH1 => ?_
  have h9 := kk r n2 T2 M2 hp ls H1 locs1 hl hL (xk_res hrk hs.2) hH1
  rw [xm_res] at h9
  exact h9
theorem x_callI {Γ : xΓ} {own : String} {cc : ByteArray} {nL fr lo mc ms : Nat} (G : xG Γ own cc nL fr lo mc ms) {cells slots n pc : Nat} {T : xT} {L : List (Nat × xV)} {st : List xV} {M : xM} {y : xY} {np idx fr2 lo2 mc2 ms2 : Nat} {as : List xV} {P : xPt} {a : Nat} (hy : xYb y np) (hins : Cond.instanceMethod y.1 ∈ WS) (hini : y.1.name = "<init>") (hret : y.2.2.2 = none) (hlk : xMl own idx y.1) (hnp : as.length = np) (hC : xC Γ.1 Γ.2.2.1 y fr2 lo2 mc2 ms2 (xR a :: as) n T M P) (hRo : fr2 + 1 ≤ fr ∧ 8 + (y.2.2.1 + 11) + lo2 ≤ lo) (hCe : cells + mc2 ≤ mc ∧ slots + ms2 ≤ ms) (hcat : (st.map xcat).sum ≤ 8) (hd : decode cc pc = .ok (.invokespecial idx, 3)) (kk : ∀ r n2 T2 M2, P r n2 T2 M2 → xX Γ (cells + mc2) (slots + ms2) n2 T2 (pc + 3) L (r.toList ++ st) M2) : xX Γ cells slots n T pc L (as.reverse ++ xR a :: st) M := by
  obtain ⟨D, p, l, e, R, s, m, args, below, meth, c, Q⟩ := Γ
  obtain ⟨hx, hb, hml, hown, hts, hE, hB, hR⟩ := G
  obtain ⟨y1, y2, y3, y4⟩ := y
  subst hret
  intro ls H locs hl hL hs hH
  have hs := xk_app hs
  have hs : (∀ v ∈ as, xk v) ∧ ∀ v ∈ st, xk v := ⟨hs.1, (List.forall_mem_cons.mp hs.2).2⟩
  rw [xst_split]
  have hlen : (as.map (xc D.1)).length = np := by rw [List.length_map]; exact hnp
  have hPre : PreS s H (xPc D (xR a :: as) n T M) (Value.ref (D.1 a) :: as.map (xc D.1)) := ⟨xblind, xpre hE hH (List.forall_mem_cons.mpr ⟨True.intro, hs.1⟩)⟩
  have hRm : ({ frames := fr2, cells := mc2, slots := ms2, locals := lo2 } : Room).frames + 1 ≤ R.frames ∧ 8 + (y3 + 11) + ({ frames := fr2, cells := mc2, slots := ms2, locals := lo2 } : Room).locals ≤ R.locals := by rw [hR]; exact hRo
  have hcs : cells + mc2 ≤ R.cells ∧ slots + ms2 ≤ R.slots := by rw [hR]; exact hCe
  have hrun : va_Run p l e R s m args below meth c H locs cells slots mc2 ms2 (F0 m pc ls ((as.map (xc D.1)).reverse ++ (xR a :: st).map (xc D.1))) (st.map (xc D.1)) (xQc D P (Value.ref (D.1 a) :: as.map (xc D.1)).toArray) (xA D.2.2.1) := by
    rcases hlk with hlk | hlk
    · exact va_runI ⟨hx, hb, hml, hown, hts⟩ hC ⟨callB_of np hts (xgood hy) rfl rfl rfl (hts _ hy.2.1) (hts _ hlk) hy.2.2 hRm, hini, hts _ hins⟩ hPre rfl hlen (by rw [← hml]; exact hl.1) rfl (xroom hcat) hd hcs
    · exact va_runIN (host := "FairDraws") ⟨hx, hb, hml, hown, hts⟩ hC ⟨va_cnB np hts (xgood hy) rfl rfl rfl (hE.2.2.2.1 _ hlk) (hts _ hy.2.1) hy.2.2 hRm, hini, hts _ hins⟩ hPre rfl hlen (by rw [← hml]; exact hl.1) rfl (xroom hcat) hd hcs
  refine x_goon (n := n) (T := T) (M := M) (P := P) hrun hH fun r n2 T2 M2 H1 locs1 hrk hp hH1 => ?_
  have h9 := kk r n2 T2 M2 hp ls H1 locs1 hl hL (xk_res hrk hs.2) hH1
  rw [xm_res] at h9
  exact h9
/-- the end that a method's walk is after -/
def xRt (Γ : xΓ) (P : xPt) (ret : Option FieldType) (mc ms : Nat) : Prop := match Γ with
  | (D, _, _, _, _, s, _, args, below, meth, _, Q) => Q = MQ below (xQc D P) args s mc ms (xA D.2.2.1) ∧ meth.sig.returnType = ret ∧ meth.locks = false
theorem x_widen {Γ : xΓ} {cells slots mc ms n pc : Nat} {T : xT} {L : List (Nat × xV)} {st : List xV} {M : xM} (h1 : cells ≤ mc) (h2 : slots ≤ ms) (k : xX Γ mc ms n T pc L st M) : xX Γ cells slots n T pc L st M := by
  obtain ⟨D, p, l, e, R, s, m, args, below, meth, c, Q⟩ := Γ
  intro ls H locs hl hL hs hH
  exact W.widen h1 h2 (k ls H locs hl hL hs hH)
theorem x_iret {Γ : xΓ} {own : String} {cc : ByteArray} {nL fr lo mc ms : Nat} (G : xG Γ own cc nL fr lo mc ms) {n pc : Nat} {T : xT} {L : List (Nat × xV)} {M : xM} {z : Int} {P : xPt} (Rt : xRt Γ P (some .int) mc ms) (hd : decode cc pc = .ok (.ireturn, 1)) (hP : P (some (xI z)) n T M) : xX Γ mc ms n T pc L [xI z] M := by
  obtain ⟨D, p, l, e, R, s, m, args, below, meth, c, Q⟩ := Γ
  obtain ⟨hx, hb, hml, hown, hts, hE, hB, hR⟩ := G
  obtain ⟨rfl, hr, hlocks⟩ := Rt
  intro ls H locs hl hL hs hH
  exact W.iret hx hb hr (fun t ht _ => ⟨⟨some (xI z), n, T, M, rfl, by intro v hv; cases hv; exact hs _ List.mem_cons_self, hP, by rw [ht]; exact hH.1, hH.2.1, hH.2.2.2.1, by rw [ht]; exact hH.2.2.2.2⟩, hH.2.2.1.F ht⟩) hH.2.2.1.2.2 hd hlocks
theorem x_zret {Γ : xΓ} {own : String} {cc : ByteArray} {nL fr lo mc ms : Nat} (G : xG Γ own cc nL fr lo mc ms) {n pc : Nat} {T : xT} {L : List (Nat × xV)} {M : xM} {z : Int} (hz : z = 0 ∨ z = 1) {P : xPt} (Rt : xRt Γ P (some .boolean) mc ms) (hd : decode cc pc = .ok (.ireturn, 1)) (hP : P (some (xI z)) n T M) : xX Γ mc ms n T pc L [xI z] M := by
  obtain ⟨D, p, l, e, R, s, m, args, below, meth, c, Q⟩ := Γ
  obtain ⟨hx, hb, hml, hown, hts, hE, hB, hR⟩ := G
  obtain ⟨rfl, hr, hlocks⟩ := Rt
  intro ls H locs hl hL hs hH
  exact W.zret (ty := .boolean) hx hb hr (by rcases hz with rfl | rfl <;> rfl) (fun t ht _ => ⟨⟨some (xI z), n, T, M, rfl, by intro v hv; cases hv; exact hs _ List.mem_cons_self, hP, by rw [ht]; exact hH.1, hH.2.1, hH.2.2.2.1, by rw [ht]; exact hH.2.2.2.2⟩, hH.2.2.1.F ht⟩) hH.2.2.1.2.2 hd hlocks
theorem x_nret {Γ : xΓ} {own : String} {cc : ByteArray} {nL fr lo mc ms : Nat} (G : xG Γ own cc nL fr lo mc ms) {n pc : Nat} {T : xT} {L : List (Nat × xV)} {M : xM} {z : Int} {ty : FieldType} (hz : narrow ty (.int (Int32.ofInt z)) = .int (Int32.ofInt z)) {P : xPt} (Rt : xRt Γ P (some ty) mc ms) (hd : decode cc pc = .ok (.ireturn, 1)) (hP : P (some (xI z)) n T M) : xX Γ mc ms n T pc L [xI z] M := by
  obtain ⟨D, p, l, e, R, s, m, args, below, meth, c, Q⟩ := Γ
  obtain ⟨hx, hb, hml, hown, hts, hE, hB, hR⟩ := G
  obtain ⟨rfl, hr, hlocks⟩ := Rt
  intro ls H locs hl hL hs hH
  exact W.zret (ty := ty) hx hb hr hz (fun t ht _ => ⟨⟨some (xI z), n, T, M, rfl, by intro v hv; cases hv; exact hs _ List.mem_cons_self, hP, by rw [ht]; exact hH.1, hH.2.1, hH.2.2.2.1, by rw [ht]; exact hH.2.2.2.2⟩, hH.2.2.1.F ht⟩) hH.2.2.1.2.2 hd hlocks
theorem x_lret {Γ : xΓ} {own : String} {cc : ByteArray} {nL fr lo mc ms : Nat} (G : xG Γ own cc nL fr lo mc ms) {n pc : Nat} {T : xT} {L : List (Nat × xV)} {M : xM} {z : Int} {P : xPt} (Rt : xRt Γ P (some .long) mc ms) (hd : decode cc pc = .ok (.lreturn, 1)) (hP : P (some (xL z)) n T M) : xX Γ mc ms n T pc L [xL z] M := by
  obtain ⟨D, p, l, e, R, s, m, args, below, meth, c, Q⟩ := Γ
  obtain ⟨hx, hb, hml, hown, hts, hE, hB, hR⟩ := G
  obtain ⟨rfl, hr, hlocks⟩ := Rt
  intro ls H locs hl hL hs hH
  exact W.lret hx hb hr (fun t ht _ => ⟨⟨some (xL z), n, T, M, rfl, by intro v hv; cases hv; exact hs _ List.mem_cons_self, hP, by rw [ht]; exact hH.1, hH.2.1, hH.2.2.2.1, by rw [ht]; exact hH.2.2.2.2⟩, hH.2.2.1.F ht⟩) hH.2.2.1.2.2 hd hlocks
theorem x_vret {Γ : xΓ} {own : String} {cc : ByteArray} {nL fr lo mc ms : Nat} (G : xG Γ own cc nL fr lo mc ms) {n pc : Nat} {T : xT} {L : List (Nat × xV)} {M : xM}  {P : xPt} (Rt : xRt Γ P none mc ms) (hd : decode cc pc = .ok (.return_, 1)) (hP : P (none) n T M) : xX Γ mc ms n T pc L [] M := by
  obtain ⟨D, p, l, e, R, s, m, args, below, meth, c, Q⟩ := Γ
  obtain ⟨hx, hb, hml, hown, hts, hE, hB, hR⟩ := G
  obtain ⟨rfl, hr, hlocks⟩ := Rt
  intro ls H locs hl hL hs hH
  exact W.vret hx hb hr (fun t ht _ => ⟨⟨none, n, T, M, rfl, (by intro v hv; cases hv), hP, by rw [ht]; exact hH.1, hH.2.1, hH.2.2.2.1, by rw [ht]; exact hH.2.2.2.2⟩, hH.2.2.1.F ht⟩) hH.2.2.1.2.2 hd hlocks
def xargs : Nat → List xV → List (Nat × xV)
  | _, [] => []
  | i, v :: vs => (i, v) :: xargs (if xcat v = 2 then i + 2 else i + 1) vs
theorem xargs_eq (σ : Nat → Nat) : ∀ (as : List xV) (i : Nat), lv_args i (as.map (xc σ)) = (xargs i as).map fun q => (q.1, xc σ q.2)
  | [], _ => rfl
  | v :: vs, i => by
    simp only [List.map_cons, lv_args, xargs, xcat_eq]
    rw [xargs_eq σ vs]
theorem xargs_ok : ∀ (as : List xV) (i : Nat), (∀ a ∈ as, xk a) → ∀ q ∈ xargs i as, xk q.2
  | [], _, _ => fun q hq => by cases hq
  | v :: vs, i, h => by
    obtain ⟨h1, h2⟩ := List.forall_mem_cons.mp h
    exact List.forall_mem_cons.mpr ⟨h1, xargs_ok vs _ h2⟩
theorem xsl_len (σ : Nat → Nat) : ∀ as : List xV, (lg_sl (as.map (xc σ))).length = (as.map xcat).sum
  | [] => rfl
  | v :: vs => by
    have h := xsl_len σ vs
    unfold lg_sl at h ⊢
    rw [List.map_cons, List.flatMap_cons, List.length_append, h, List.map_cons, List.sum_cons, xcat_eq]
    congr 1
    rcases v with z | z | z <;> rfl
/-- a contract out of the walk of the method's body -/
theorem x_met {D : xD} {l : Launch} (y : xY) {fr lo mc ms : Nat} {as : List xV} {n : Nat} {T : xT} {M : xM} {P : xPt} (hy : plainName y.1.cls = true) (hw : (as.map xcat).sum ≤ y.2.2.1)
    (body : ∀ Γ : xΓ, xG Γ y.1.cls y.2.1 y.2.2.1 fr lo mc ms → xRt Γ P y.2.2.2 mc ms → (y.1.name = "<init>" → xIsInit Γ) → xX Γ 0 0 n T 0 (xargs 0 as) [] M) : xC D l y fr lo mc ms as n T M P := by
  refine Met.ofW (cc := y.2.1) (maxL := y.2.2.1) (ret := y.2.2.2) hy rfl ?_
  intro p e s m args below meth c s₁ B hml hv
  obtain ⟨rfl, hak, hP, hD, hr, hz, hE⟩ := hv
  have hts := atoms_spec (ws := Cond.code y.1 y.2.1 y.2.2.1 y.2.2.2 :: WS) B.pre
  have hown : s.vm.findClass y.1.cls = some m.cls := findClass_of_methodNamed B.named
  have hl := lv_entry (as.map (xc D.1)) (n := y.2.2.1) (by rw [xsl_len]; exact hw)
  rw [lg_entry_eq]
  rw [xargs_eq] at hl
  refine body (D, p, l, e, _, s, m, _, below, meth, c, _) ⟨B.exec, B.bytes, hml, hown, fun w hw => hts w (List.mem_cons_of_mem _ hw), hE, by rw [hz]; exact Nat.le_add_right _ _, rfl⟩ ⟨rfl, B.returns, B.notSynchronized⟩ (fun h => by
    show meth.name = "<init>"
    rw [(name_of_methodNamed B.named B.method).1]; exact h) _ _ _ (by rw [hml]; exact hl) (xargs_ok as 0 hak) (fun v hv => by cases hv) ⟨hP, hD, va_S.rf, hr, hz⟩
