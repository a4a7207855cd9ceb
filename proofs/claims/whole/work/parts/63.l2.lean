/-- the script: the caller's own array, of L ints f -/
def xScr (Γ : xΓ) (L : Nat) (f : Nat → Int) : Prop := match Γ with
  | (D, _, _, _, _, s, _, _, _, _, _, _) => va_X (D.1 3000000) L (fun j => Int32.ofInt (f j)) s s.heap ∧ D.1 3000000 < D.2.2.1 ∧ D.2.2.1 ≤ s.heap.size ∧ (∀ j, i32 (f j)) ∧ L ≤ 3072
theorem x_slen {Γ : xΓ} {own : String} {cc : ByteArray} {nL fr lo mc ms : Nat} (G : xG Γ own cc nL fr lo mc ms) {L9 : Nat} {f : Nat → Int} (hX : xScr Γ L9 f) {cells slots n pc : Nat} {T : xT} {L : List (Nat × xV)} {st : List xV} {M : xM} (hd : decode cc pc = .ok (.arraylength, 1)) (kk : xX Γ cells slots n T (pc + 1) L (xI (L9 : Int) :: st) M) : xX Γ cells slots n T pc L (xR 3000000 :: st) M := by
  obtain ⟨D, p, l, e, R, s, m, args, below, meth, c, Q⟩ := Γ
  obtain ⟨hx, hb, hml, hown, hts, hE, hB, hR⟩ := G
  obtain ⟨h1, h2, h3, h4, h5⟩ := hX
  intro ls H locs hll hL hs hH
  have h9 := kk ls H locs hll hL (List.forall_mem_cons.mpr ⟨by show i32 _; omega, (List.forall_mem_cons.mp hs).2⟩) hH
  rw [List.map_cons] at h9
  have e : Int32.ofNat L9 = Int32.ofInt (L9 : Int) := by
    apply Int32.toInt_inj.mp
    rw [x_toInt ⟨by omega, by omega⟩]
    exact nI_toInt (show L9 < 2147483648 by omega)
  refine va_slen hx hb h1 (Nat.lt_of_lt_of_le h2 h3) (Nat.not_le.mpr h2) hH.2.2.1 hd ?_
  rw [e]
  exact h9
theorem x_sld {Γ : xΓ} {own : String} {cc : ByteArray} {nL fr lo mc ms : Nat} (G : xG Γ own cc nL fr lo mc ms) {L9 : Nat} {f : Nat → Int} (hX : xScr Γ L9 f) {cells slots n pc : Nat} {T : xT} {L : List (Nat × xV)} {st : List xV} {M : xM} {i : Int} (h0 : 0 ≤ i) (h1 : i < L9) (hd : decode cc pc = .ok (.iaload, 1)) (kk : xX Γ cells slots n T (pc + 1) L (xI (f i.toNat) :: st) M) : xX Γ cells slots n T pc L (xI i :: xR 3000000 :: st) M := by
  obtain ⟨D, p, l, e, R, s, m, args, below, meth, c, Q⟩ := Γ
  obtain ⟨hx, hb, hml, hown, hts, hE, hB, hR⟩ := G
  obtain ⟨g1, g2, g3, g4, g5⟩ := hX
  intro ls H locs hll hL hs hH
  obtain ⟨hi, hs⟩ := List.forall_mem_cons.mp hs
  have h9 := kk ls H locs hll hL (List.forall_mem_cons.mpr ⟨g4 _, (List.forall_mem_cons.mp hs).2⟩) hH
  rw [List.map_cons] at h9
  refine va_sld hx hb g1 (Nat.lt_of_lt_of_le g2 g3) (Nat.not_le.mpr g2) hH.2.2.1 (x_in hi h0 h1) hd ?_
  rw [x_nat hi]
  exact h9
abbrev Ls (i : Int) : List (Nat × xV) := [(3, xI i), (2, xR 195), (1, xR 0), (0, xR 3000000)]
abbrev xGL (Γ : xΓ) : Prop := xG Γ RL cL_law 4 2048 84000 600000 7302250
abbrev xXL (Γ : xΓ) (T : xT) (pc : Nat) (i : Int) (st : List xV) (M : xM) : Prop := xX Γ 600000 7302250 208 T pc (Ls i) st M
/-- an int of the script -/
theorem x_arg {Γ : xΓ} (G : xGL Γ) {L9 : Nat} {f : Nat → Int} (hX : xScr Γ L9 f) {pc : Nat} {T : xT} {i a : Int} {st : List xV} {M : xM} (k : Int) (hk : 1 ≤ k ∧ k ≤ 5) (hi : 0 ≤ i ∧ i + 5 < L9) (ha : a = f (i + k).toNat) (d0 : decode cL_law pc = .ok (.aload_n 0, 1)) (d1 : decode cL_law (pc + 1) = .ok (.iload_n 3, 1)) (d2 : decode cL_law (pc + 2) = .ok (.iconst k, 1)) (d3 : decode cL_law (pc + 3) = .ok (.iadd, 1)) (d4 : decode cL_law (pc + 4) = .ok (.iaload, 1)) (kk : xXL Γ T (pc + 5) i (xI a :: st) M) : xXL Γ T pc i st M := by
  have h5 : L9 ≤ 3072 := hX.2.2.2.2
  refine x_aload_n G 3 rfl rfl d0 ?_
  refine x_iload_n G 0 rfl rfl d1 ?_
  refine x_iconst G (by omega) d2 ?_
  refine x_iadd G (by omega) d3 ?_
  refine x_sld G hX (by omega) (by omega) d4 ?_
  rw [← ha]
  exact kk
theorem kep_at {M : xM} {Ws : Nat → xM} {kp sf : Int} (h : Kep M Ws kp) (hs : 0 ≤ sf ∧ sf ≤ 1) : M 199 sf.toNat = b2i (bit kp sf) ∧ (bit kp sf → shw M (169 + 13 * sf.toNat) (Ws sf.toNat) ∧ OKS (Ws sf.toNat) ∧ mrel (fun k => M 198 (511 * sf.toNat + k)) (Ws sf.toNat)) := by
  have := h.2.2 sf.toNat (by omega)
  rw [show ((sf.toNat : Nat) : Int) = sf by omega] at this
  exact this
theorem bit_kor {kp sf s : Int} (hk : 0 ≤ kp ∧ kp ≤ 3) (hs : 0 ≤ sf ∧ sf ≤ 1) (h2 : 0 ≤ s ∧ s ≤ 1) : bit (kor kp sf) s ↔ (s = sf ∨ bit kp s) := by
  have a : kp = 0 ∨ kp = 1 ∨ kp = 2 ∨ kp = 3 := by omega
  have b : sf = 0 ∨ sf = 1 := by omega
  have c : s = 0 ∨ s = 1 := by omega
  rcases a with rfl | rfl | rfl | rfl <;> rcases b with rfl | rfl <;> rcases c with rfl | rfl <;> decide
/-- after an act that leaves a value: the class's cells, the reference's -/
theorem inv_n {M1 M2 V' : xM} {Hs' : List xM} {Ws : Nat → xM} {kp : Int} {bt : Int → Int} {len : Int} (hf : Fin1 M1 V' Hs') (e12 : ∀ q, q < 195 → M2 q = M1 q) (hv : VOK V') (hH : ∀ W ∈ Hs', OKS W) (hm : mrel (M2 196) V') (hh : mhst M2 Hs') (hR : Rk M2 V') (hk : Kep M2 Ws kp) (ht : Tap M2 bt len) : Both M2 := by
  have es : seq (vw M2 1) V' := by
    have : ∀ k, k < 13 → vw M2 1 k = vw M1 1 k := fun k hk => e12 (1 + k) (by omega)
    refine ⟨?_, fun s hs => ?_, fun i hi => ?_⟩
    · rw [this 0 (by decide)]; exact hf.1.1
    · rw [this 11 (by decide), this 12 (by decide)]; exact hf.1.2.1 s hs
    · rw [this 4 (by decide), this 5 (by decide), this 6 (by decide), this 7 (by decide), this 8 (by decide), this 9 (by decide)]; exact hf.1.2.2 i hi
  exact ⟨vw M2 1, Hs', Ws, kp, bt, len, ⟨oks_seq es hv (R := M1 (1 + 10)) (e12 11 (by decide)) hf.2.1, shw_self M2 1, hst_fr hf.2.2 (e12 14 (by decide)) (fun q _ _ => e12 q (by omega)), hH⟩, ⟨mrel_seq es hm, rk_seq es hv hR, hh⟩, hk, ht⟩
/-- after the tape was written -/
theorem inv_t {M M1 M2 V : xM} {Hs : List xM} {Ws : Nat → xM} {kp : Int} {bt bt' : Int → Int} {len len' : Int} (h : Inv M V Hs Ws kp bt len) (e1 : ∀ q, (q < 146 ∨ 148 ≤ q) → M1 q = M q) (e2 : tpm M1 M2) (hb : TB bt' len') (h1 : TM M1 bt' len') (h2 : TMm M2 bt' len') : Both M2 := by
  obtain ⟨hc, hr, hk, ht⟩ := h
  have e : ∀ q, (q < 146 ∨ 148 ≤ q) → q ≠ 195 → q ≠ 207 → M2 q = M q := fun q g1 g2 g3 => (e2.1 q g2 g3).trans (e1 q g1)
  have e5 : ∀ j, j ≠ 18 → M2 195 j = M 195 j := fun j hj => by rw [e2.2 j hj, e1 195 (by decide)]
  refine ⟨V, Hs, Ws, kp, bt', len', cls_cg hc (fun q hq => e q (by omega) (by omega) (by omega)), ⟨?_, rk_cg hr.2.1 (e5 10 (by decide)) (e 203 (by decide) (by decide) (by decide)), mh_cg hr.2.2 (e5 2 (by decide)) (e 197 (by decide) (by decide) (by decide))⟩, kep_cg hk (e 0 (by decide) (by decide) (by decide)) (fun q g1 g2 => e q (by omega) (by omega) (by omega)) (e 198 (by decide) (by decide) (by decide)) (e 199 (by decide) (by decide) (by decide)), hb, ?_, h2⟩
  · rw [e 196 (by decide) (by decide) (by decide)]; exact hr.1
  · unfold TM
    rw [e2.1 146 (by decide) (by decide), e2.1 147 (by decide) (by decide)]
    exact h1
theorem feedT_ok {bt : Int → Int} {len a b c d e : Int} (h : TB bt len) (hl : len ≤ 380) : TB (feedT bt len a b c d e) (len + 20) := by
  have := apb_ok (v := e) (apb_ok (v := d) (apb_ok (v := c) (apb_ok (v := b) (apb_ok (v := a) h (by omega)) (by omega)) (by omega)) (by omega)) (by omega)
  rw [show len + 4 + 4 + 4 + 4 + 4 = len + 20 by omega] at this
  exact this
theorem tap_0 {M : xM} (h1 : M 146 2 = 0) (h2 : M 195 18 = 0) : Tap M (fun _ => -1) 0 := ⟨⟨by decide, fun k h3 h4 => by omega, fun _ _ => rfl⟩, ⟨h1, fun k hk => by omega⟩, ⟨h2, fun k hk => by omega⟩⟩
/-- after a keep -/
theorem inv_k {M M1 M2 V : xM} {Hs : List xM} {Ws : Nat → xM} {kp sf : Int} {bt : Int → Int} {len : Int} (h : Inv M V Hs Ws kp bt len) (c : 0 ≤ sf ∧ sf ≤ 1) (q1 : seqr (vw M1 (169 + 13 * sf.toNat)) V) (k1 : M1 0 7 = kor (M 0 7) sf) (f1 : ∀ q, q ≠ 0 → (q < 169 + 13 * sf.toNat ∨ 169 + 13 * sf.toNat + 13 ≤ q) → M1 q = M q) (hr1 : Ref M1 V Hs) (r2 : ∀ j : Nat, j < 511 → M2 198 (511 * sf.toNat + j) = M1 196 j) (o2 : ∀ b : Nat, (b < 511 * sf.toNat ∨ 511 * sf.toNat + 511 ≤ b) → M2 198 b = M1 198 b) (k2 : M2 199 = xst M1 199 sf.toNat 1 199) (f2 : ∀ q, q ≠ 198 → q ≠ 199 → M2 q = M1 q) : Both M2 := by
  obtain ⟨hc, hr, hk, ht⟩ := h
  have e : ∀ q, q ≠ 0 → q ≠ 198 → q ≠ 199 → (q < 169 ∨ 195 ≤ q) → M2 q = M q := fun q g1 g2 g3 g4 => (f2 q g2 g3).trans (f1 q g1 (by omega))
  have e8 : M1 198 = M 198 := f1 198 (by decide) (by omega)
  have e9 : M1 199 = M 199 := f1 199 (by decide) (by omega)
  refine ⟨V, Hs, fun s => if s = sf.toNat then vw M1 (169 + 13 * sf.toNat) else Ws s, kor kp sf, bt, len, cls_cg hc (fun q hq => e q (by omega) (by omega) (by omega) (by omega)), ⟨?_, rk_cg hr.2.1 (by rw [e 195 (by decide) (by decide) (by decide) (by decide)]) (e 203 (by decide) (by decide) (by decide) (by decide)), mh_cg hr.2.2 (by rw [e 195 (by decide) (by decide) (by decide) (by decide)]) (e 197 (by decide) (by decide) (by decide) (by decide))⟩, ⟨?_, kor_b' hk.2.1 c, fun s hs => ?_⟩, tap_cg ht (e 146 (by decide) (by decide) (by decide) (by decide)) (e 147 (by decide) (by decide) (by decide) (by decide)) (by rw [e 195 (by decide) (by decide) (by decide) (by decide)]) (e 207 (by decide) (by decide) (by decide) (by decide))⟩
  · rw [e 196 (by decide) (by decide) (by decide) (by decide)]; exact hr.1
  · rw [f2 0 (by decide) (by decide), k1, hk.1]
  · have hb := bit_kor hk.2.1 c (s := (s : Int)) (by omega)
    by_cases g : s = sf.toNat
    · subst g
      dsimp only
      rw [if_pos rfl]
      refine ⟨?_, fun _ => ⟨shw_fr (shw_self M1 _) (fun k hk _ _ => f2 _ (by omega) (by omega)), oks_seqr q1 hc.1, mrel_seq q1.1 (mr_lt hc.1.1 hr1.1 (fun k hk => r2 k hk))⟩⟩
      rw [k2, xst_same, b2i_t (hb.mpr (Or.inl (by omega)))]
    · dsimp only
      rw [if_neg g]
      have hks := hk.2.2 s hs
      refine ⟨?_, fun g2 => ?_⟩
      · rw [k2, xst_nq (Or.inr g), e9, hks.1]
        exact b2i_cg ⟨fun g3 => hb.mpr (Or.inr g3), fun g3 => (hb.mp g3).resolve_left (by omega)⟩
      · obtain ⟨w1, w2, w3⟩ := hks.2 ((hb.mp g2).resolve_left (by omega))
        refine ⟨shw_fr w1 (fun k hk _ _ => (f2 _ (by omega) (by omega)).trans (f1 _ (by omega) (by omega))), w2, mr_lt w2.1 w3 (fun k hk => ?_)⟩
        show M2 198 (511 * s + k) = M 198 (511 * s + k)
        rw [o2 _ (by omega), e8]
set_option maxRecDepth 100000 in
set_option maxHeartbeats 4000000 in
theorem law_0 {Γ : xΓ} (G : xGL Γ) {L9 : Nat} {f : Nat → Int} (hS : xScr Γ L9 f) {T : xT} (hY : LayOK 208 T) {i : Int} (hi : 0 ≤ i ∧ i + 5 < L9) {M : xM} (hI : Both M) (back : ∀ M2, Both M2 → xXL Γ T 2082 i [] M2) : xXL Γ T 284 i [] M := by
  obtain ⟨V, Hs, Ws, kp, bt, len, hI⟩ := hI
  have hc := hI.1
  have hr := hI.2.1
  have hk := hI.2.2.1
  have ht := hI.2.2.2
  obtain ⟨a1, ha1⟩ : ∃ a : Int, a = f (i + 1).toNat := ⟨_, rfl⟩
  obtain ⟨a2, ha2⟩ : ∃ a : Int, a = f (i + 2).toNat := ⟨_, rfl⟩
  obtain ⟨a3, ha3⟩ : ∃ a : Int, a = f (i + 3).toNat := ⟨_, rfl⟩
  obtain ⟨a4, ha4⟩ : ∃ a : Int, a = f (i + 4).toNat := ⟨_, rfl⟩
  obtain ⟨a5, ha5⟩ : ∃ a : Int, a = f (i + 5).toNat := ⟨_, rfl⟩
  refine x_aload_n G 2 rfl rfl dL_law_284 ?_
  refine x_arg G hS 1 (by decide) hi ha1 dL_law_285 dL_law_286 dL_law_287 dL_law_288 dL_law_289 ?_
  refine x_arg G hS 2 (by decide) hi ha2 dL_law_290 dL_law_291 dL_law_292 dL_law_293 dL_law_294 ?_
  refine x_arg G hS 3 (by decide) hi ha3 dL_law_295 dL_law_296 dL_law_297 dL_law_298 dL_law_299 ?_
  refine x_arg G hS 4 (by decide) hi ha4 dL_law_300 dL_law_301 dL_law_302 dL_law_303 dL_law_304 ?_
  refine x_arg G hS 5 (by decide) hi ha5 dL_law_305 dL_law_306 dL_law_307 dL_law_308 dL_law_309 ?_
  refine x_callVI G [] [xI a1, xI a2, xI a3, xI a4, xI a5] rfl (by decide) (ly_n hY 0 (by decide)) (ly_k hY 0 (by decide)) hy_X6_feed hi_X6_feed hs_X6_feed ml_L_13 rfl rfl (kX6_feed _ _ bt len a1 a2 a3 a4 a5 hY ht.1 ht.2.1) (by decide) (by decide) (Nat.le_of_ble_eq_true rfl) dL_law_310 (fun z1 M1 h1 => ?_)
  have e1 : ∀ q, (q < 146 ∨ 148 ≤ q) → M1 q = M q := by
    rcases h1 with ⟨_, _, h⟩ | ⟨_, _, _, h⟩
    · intro q _; rw [h]
    · exact h
  have hr1 : Ref M1 V Hs := ref_cg hr (fun q hq => e1 q (by omega))
  have hm1 : TMm M1 bt len := tmm_cg ht.2.2 (by rw [e1 195 (by decide)]) (e1 207 (by decide))
  refine x_aload_n G 1 rfl rfl dL_law_313 ?_
  refine x_arg G hS 1 (by decide) hi ha1 dL_law_314 dL_law_315 dL_law_316 dL_law_317 dL_law_318 ?_
  refine x_arg G hS 2 (by decide) hi ha2 dL_law_319 dL_law_320 dL_law_321 dL_law_322 dL_law_323 ?_
  refine x_arg G hS 3 (by decide) hi ha3 dL_law_324 dL_law_325 dL_law_326 dL_law_327 dL_law_328 ?_
  refine x_arg G hS 4 (by decide) hi ha4 dL_law_329 dL_law_330 dL_law_331 dL_law_332 dL_law_333 ?_
  refine x_arg G hS 5 (by decide) hi ha5 dL_law_334 dL_law_335 dL_law_336 dL_law_337 dL_law_338 ?_
  refine x_callVI G [xI z1] [xI a1, xI a2, xI a3, xI a4, xI a5] rfl (by decide) (ly_n hY 195 (by decide)) (ly_k hY 195 (by decide)) hy_X7_feed hi_X7_feed hs_X7_feed ml_L_17 rfl rfl (kX7_feed _ _ bt len a1 a2 a3 a4 a5 hY ht.1 hm1) (by decide) (by decide) (Nat.le_of_ble_eq_true rfl) dL_law_339 (fun z2 M2 h2 => ?_)
  have hz : z1 = z2 := by rcases h1 with ⟨c1, e1, _⟩ | ⟨c1, e1, _⟩ <;> rcases h2 with ⟨c2, e2, _⟩ | ⟨c2, e2, _⟩ <;> omega
  refine x_icmp_eq G 2082 (by decide) dL_law_342 (fun _ => ?_) (fun c => absurd hz c)
  refine back M2 ?_
  rcases h1 with ⟨c1, _, m1⟩ | ⟨c1, _, t1, f1⟩ <;> rcases h2 with ⟨c2, _, m2⟩ | ⟨c2, _, t2, f2⟩
  · subst m2; subst m1; exact ⟨V, Hs, Ws, kp, bt, len, hI⟩
  · omega
  · omega
  · exact inv_t hI e1 f2 (feedT_ok ht.1 c1) t1 t2
set_option maxRecDepth 100000 in
set_option maxHeartbeats 4000000 in
theorem law_1 {Γ : xΓ} (G : xGL Γ) {L9 : Nat} {f : Nat → Int} (hS : xScr Γ L9 f) {T : xT} (hY : LayOK 208 T) {i : Int} (hi : 0 ≤ i ∧ i + 5 < L9) {M : xM} (hI : Both M) (back : ∀ M2, Both M2 → xXL Γ T 2082 i [] M2) : xXL Γ T 347 i [] M := by
  obtain ⟨V, Hs, Ws, kp, bt, len, hI⟩ := hI
  have hc := hI.1
  have hr := hI.2.1
  have hk := hI.2.2.1
  have ht := hI.2.2.2
  obtain ⟨a1, ha1⟩ : ∃ a : Int, a = f (i + 1).toNat := ⟨_, rfl⟩
  refine x_aload_n G 2 rfl rfl dL_law_347 ?_
  refine x_arg G hS 1 (by decide) hi ha1 dL_law_348 dL_law_349 dL_law_350 dL_law_351 dL_law_352 ?_
  refine x_callVI G [] [xI a1] rfl (by decide) (ly_n hY 0 (by decide)) (ly_k hY 0 (by decide)) hy_X6_end hi_X6_end hs_X6_end ml_L_18 rfl rfl (kX6_end _ _ bt len a1 hY ht.1 ht.2.1) (by decide) (by decide) (Nat.le_of_ble_eq_true rfl) dL_law_353 (fun z1 M1 h1 => ?_)
  have e1 : ∀ q, (q < 146 ∨ 148 ≤ q) → M1 q = M q := by
    rcases h1 with ⟨_, _, h⟩ | ⟨_, _, _, h⟩
    · intro q _; rw [h]
    · exact h
  have hr1 : Ref M1 V Hs := ref_cg hr (fun q hq => e1 q (by omega))
  have hm1 : TMm M1 bt len := tmm_cg ht.2.2 (by rw [e1 195 (by decide)]) (e1 207 (by decide))
  refine x_aload_n G 1 rfl rfl dL_law_356 ?_
  refine x_arg G hS 1 (by decide) hi ha1 dL_law_357 dL_law_358 dL_law_359 dL_law_360 dL_law_361 ?_
  refine x_callVI G [xI z1] [xI a1] rfl (by decide) (ly_n hY 195 (by decide)) (ly_k hY 195 (by decide)) hy_X7_end hi_X7_end hs_X7_end ml_L_22 rfl rfl (kX7_end _ _ bt len a1 hY ht.1 hm1) (by decide) (by decide) (Nat.le_of_ble_eq_true rfl) dL_law_362 (fun z2 M2 h2 => ?_)
  have hz : z1 = z2 := by rcases h1 with ⟨c1, e1, _⟩ | ⟨c1, e1, _⟩ <;> rcases h2 with ⟨c2, e2, _⟩ | ⟨c2, e2, _⟩ <;> omega
  refine x_icmp_eq G 2082 (by decide) dL_law_365 (fun _ => ?_) (fun c => absurd hz c)
  refine back M2 ?_
  rcases h1 with ⟨c1, _, m1⟩ | ⟨c1, _, t1, f1⟩ <;> rcases h2 with ⟨c2, _, m2⟩ | ⟨c2, _, t2, f2⟩
  · subst m2; subst m1; exact ⟨V, Hs, Ws, kp, bt, len, hI⟩
  · exact absurd c2 c1
  · exact absurd c1 c2
  · exact inv_t hI e1 f2 (cutb_ok ht.1 c1.1 c1.2) t1 t2
set_option maxRecDepth 100000 in
set_option maxHeartbeats 4000000 in
theorem law_2 {Γ : xΓ} (G : xGL Γ) {L9 : Nat} {f : Nat → Int} (hS : xScr Γ L9 f) {T : xT} (hY : LayOK 208 T) {i : Int} (hi : 0 ≤ i ∧ i + 5 < L9) {M : xM} (hI : Both M) (back : ∀ M2, Both M2 → xXL Γ T 2082 i [] M2) : xXL Γ T 370 i [] M := by
  obtain ⟨V, Hs, Ws, kp, bt, len, hI⟩ := hI
  have hc := hI.1
  have hr := hI.2.1
  have hk := hI.2.2.1
  have ht := hI.2.2.2
  refine x_aload_n G 2 rfl rfl dL_law_370 ?_
  refine x_callVI G [] [] rfl (by decide) (ly_n hY 0 (by decide)) (ly_k hY 0 (by decide)) hy_X6_tell hi_X6_tell hs_X6_tell ml_L_23 rfl rfl (kX6_tell _ _ bt len V Hs hY ht.1 ht.2.1 hc.2.1 hc.1.1 hc.1.2 hc.2.2.1) (by decide) (by decide) (Nat.le_of_ble_eq_true rfl) dL_law_371 (fun z1 M1 h1 => ?_)
  obtain ⟨V0, hz0, h1, hb1, e1⟩ := h1
  have hr1 : Ref M1 V Hs := ref_cg hr (fun q hq => e1 q (by omega))
  have hm1 : TMm M1 bt len := tmm_cg ht.2.2 (by rw [e1 195 (by decide)]) (e1 207 (by decide))
  refine x_aload_n G 1 rfl rfl dL_law_374 ?_
  refine x_callVI G [xI z1] [] rfl (by decide) (ly_n hY 195 (by decide)) (ly_k hY 195 (by decide)) hy_X7_tell hi_X7_tell hs_X7_tell ml_L_27 rfl rfl (kX7_tell _ _ bt len V V0 Hs hY ht.1 hm1 hr1.1 hc.1.1 hr1.2.2 hz0) (by decide) (by decide) (Nat.le_of_ble_eq_true rfl) dL_law_375 (fun z2 M2 h2 => ?_)
  obtain ⟨h2, hb2, hn2, e2⟩ := h2
  have hz : z1 = z2 := by rcases h1 with ⟨c1, g1, _⟩ | ⟨c1, g1, _⟩ <;> rcases h2 with ⟨c2, g2, _⟩ | ⟨c2, g2, _⟩ <;> first | exact absurd c2 c1 | exact absurd c1 c2 | exact g1.trans g2.symm
  have hk2 : Kep M2 Ws kp := kep_cg hk ((e2 0 (by decide)).trans (e1 0 (by decide))) (fun q g1 g2 => (e2 q (by omega)).trans (e1 q (by omega))) ((e2 198 (by decide)).trans (e1 198 (by decide))) ((e2 199 (by decide)).trans (e1 199 (by decide)))
  have ht2 : Tap M2 (fun _ => -1) 0 := tap_0 (by rw [e2 146 (by decide)]; exact hb1) hb2
  refine x_icmp_eq G 2082 (by decide) dL_law_378 (fun _ => ?_) (fun c => absurd hz c)
  refine back M2 ?_
  rcases h1 with ⟨c1, _, f1⟩ | ⟨c1, _, v1, f1⟩ <;> rcases h2 with ⟨c2, _, m2, t2⟩ | ⟨c2, _, m2, v2, t2⟩
  · exact inv_n f1 (fun q hq => e2 q (by omega)) hc.1.1 hc.2.2.2 m2 t2 (Or.inl hn2) hk2 ht2
  · exact absurd c2 c1
  · exact absurd c1 c2
  · exact inv_n f1 (fun q hq => e2 q (by omega)) v1 (fun W hW => absurd hW List.not_mem_nil) m2 t2 (Or.inl hn2) hk2 ht2
set_option maxRecDepth 100000 in
set_option maxHeartbeats 4000000 in
theorem law_3 {Γ : xΓ} (G : xGL Γ) {L9 : Nat} {f : Nat → Int} (hS : xScr Γ L9 f) {T : xT} (hY : LayOK 208 T) {i : Int} (hi : 0 ≤ i ∧ i + 5 < L9) {M : xM} (hI : Both M) (back : ∀ M2, Both M2 → xXL Γ T 2082 i [] M2) : xXL Γ T 383 i [] M := by
  obtain ⟨V, Hs, Ws, kp, bt, len, hI⟩ := hI
  have hc := hI.1
  have hr := hI.2.1
  have hk := hI.2.2.1
  have ht := hI.2.2.2
  obtain ⟨a1, ha1⟩ : ∃ a : Int, a = f (i + 1).toNat := ⟨_, rfl⟩
  obtain ⟨a2, ha2⟩ : ∃ a : Int, a = f (i + 2).toNat := ⟨_, rfl⟩
  obtain ⟨a3, ha3⟩ : ∃ a : Int, a = f (i + 3).toNat := ⟨_, rfl⟩
  refine x_aload_n G 2 rfl rfl dL_law_383 ?_
  refine x_arg G hS 1 (by decide) hi ha1 dL_law_384 dL_law_385 dL_law_386 dL_law_387 dL_law_388 ?_
  refine x_arg G hS 2 (by decide) hi ha2 dL_law_389 dL_law_390 dL_law_391 dL_law_392 dL_law_393 ?_
  refine x_arg G hS 3 (by decide) hi ha3 dL_law_394 dL_law_395 dL_law_396 dL_law_397 dL_law_398 ?_
  refine x_callVI G [] [xI a1, xI a2, xI a3] rfl (by decide) (ly_n hY 0 (by decide)) (ly_k hY 0 (by decide)) hy_X6_come hi_X6_come hs_X6_come ml_L_28 rfl rfl (kX6_come _ _ V Hs a1 a2 a3 hY hc.2.1 hc.1.1 hc.1.2 hc.2.2.1) (by decide) (by decide) (Nat.le_of_ble_eq_true rfl) dL_law_399 (fun z1 M1 h1 => ?_)
  have hr1 : Ref M1 V Hs := ref_cg hr (fun q hq => h1.2.2 q (by omega))
  refine x_aload_n G 1 rfl rfl dL_law_402 ?_
  refine x_arg G hS 1 (by decide) hi ha1 dL_law_403 dL_law_404 dL_law_405 dL_law_406 dL_law_407 ?_
  refine x_arg G hS 2 (by decide) hi ha2 dL_law_408 dL_law_409 dL_law_410 dL_law_411 dL_law_412 ?_
  refine x_arg G hS 3 (by decide) hi ha3 dL_law_413 dL_law_414 dL_law_415 dL_law_416 dL_law_417 ?_
  refine x_callVI G [xI z1] [xI a1, xI a2, xI a3] rfl (by decide) (ly_n hY 195 (by decide)) (ly_k hY 195 (by decide)) hy_X7_come hi_X7_come hs_X7_come ml_L_32 rfl rfl (kX7_come _ _ V Hs a1 a2 a3 hY hr1.1 hc.1.1 hc.1.2 hr1.2.1 hr1.2.2) (by decide) (by decide) (Nat.le_of_ble_eq_true rfl) dL_law_418 (fun z2 M2 h2 => ?_)
  have hz : z1 = z2 := h1.1.trans h2.1.symm
  refine x_icmp_eq G 2082 (by decide) dL_law_421 (fun _ => ?_) (fun c => absurd hz c)
  exact back M2 (inv_a hI h1.2.1 h1.2.2 (aCome_ok hc.1.1) (nxH_ok hc.1 hc.2.2.2) h2.2.1 h2.2.2.1 h2.2.2.2.1 h2.2.2.2.2)
set_option maxRecDepth 100000 in
set_option maxHeartbeats 4000000 in
theorem law_4 {Γ : xΓ} (G : xGL Γ) {L9 : Nat} {f : Nat → Int} (hS : xScr Γ L9 f) {T : xT} (hY : LayOK 208 T) {i : Int} (hi : 0 ≤ i ∧ i + 5 < L9) {M : xM} (hI : Both M) (back : ∀ M2, Both M2 → xXL Γ T 2082 i [] M2) : xXL Γ T 426 i [] M := by
  obtain ⟨V, Hs, Ws, kp, bt, len, hI⟩ := hI
  have hc := hI.1
  have hr := hI.2.1
  have hk := hI.2.2.1
  have ht := hI.2.2.2
  obtain ⟨a1, ha1⟩ : ∃ a : Int, a = f (i + 1).toNat := ⟨_, rfl⟩
  obtain ⟨a2, ha2⟩ : ∃ a : Int, a = f (i + 2).toNat := ⟨_, rfl⟩
  obtain ⟨a3, ha3⟩ : ∃ a : Int, a = f (i + 3).toNat := ⟨_, rfl⟩
  obtain ⟨a4, ha4⟩ : ∃ a : Int, a = f (i + 4).toNat := ⟨_, rfl⟩
  refine x_aload_n G 2 rfl rfl dL_law_426 ?_
  refine x_arg G hS 1 (by decide) hi ha1 dL_law_427 dL_law_428 dL_law_429 dL_law_430 dL_law_431 ?_
  refine x_arg G hS 2 (by decide) hi ha2 dL_law_432 dL_law_433 dL_law_434 dL_law_435 dL_law_436 ?_
  refine x_arg G hS 3 (by decide) hi ha3 dL_law_437 dL_law_438 dL_law_439 dL_law_440 dL_law_441 ?_
  refine x_arg G hS 4 (by decide) hi ha4 dL_law_442 dL_law_443 dL_law_444 dL_law_445 dL_law_446 ?_
  refine x_callVI G [] [xI a1, xI a2, xI a3, xI a4] rfl (by decide) (ly_n hY 0 (by decide)) (ly_k hY 0 (by decide)) hy_X6_put hi_X6_put hs_X6_put ml_L_33 rfl rfl (kX6_put _ _ V Hs a1 a2 a3 a4 hY hc.2.1 hc.1.1 hc.1.2 hc.2.2.1) (by decide) (by decide) (Nat.le_of_ble_eq_true rfl) dL_law_447 (fun z1 M1 h1 => ?_)
  have hr1 : Ref M1 V Hs := ref_cg hr (fun q hq => h1.2.2 q (by omega))
  refine x_aload_n G 1 rfl rfl dL_law_450 ?_
  refine x_arg G hS 1 (by decide) hi ha1 dL_law_451 dL_law_452 dL_law_453 dL_law_454 dL_law_455 ?_
  refine x_arg G hS 2 (by decide) hi ha2 dL_law_456 dL_law_457 dL_law_458 dL_law_459 dL_law_460 ?_
  refine x_arg G hS 3 (by decide) hi ha3 dL_law_461 dL_law_462 dL_law_463 dL_law_464 dL_law_465 ?_
  refine x_arg G hS 4 (by decide) hi ha4 dL_law_466 dL_law_467 dL_law_468 dL_law_469 dL_law_470 ?_
  refine x_callVI G [xI z1] [xI a1, xI a2, xI a3, xI a4] rfl (by decide) (ly_n hY 195 (by decide)) (ly_k hY 195 (by decide)) hy_X7_put hi_X7_put hs_X7_put ml_L_37 rfl rfl (kX7_put _ _ V Hs a1 a2 a3 a4 hY hr1.1 hc.1.1 hc.1.2 hr1.2.1 hr1.2.2) (by decide) (by decide) (Nat.le_of_ble_eq_true rfl) dL_law_471 (fun z2 M2 h2 => ?_)
  have hz : z1 = z2 := h1.1.trans h2.1.symm
  refine x_icmp_eq G 2082 (by decide) dL_law_474 (fun _ => ?_) (fun c => absurd hz c)
  exact back M2 (inv_a hI h1.2.1 h1.2.2 (aPut_ok hc.1.1) (nxH_ok hc.1 hc.2.2.2) h2.2.1 h2.2.2.1 h2.2.2.2.1 h2.2.2.2.2)
set_option maxRecDepth 100000 in
set_option maxHeartbeats 4000000 in
theorem law_5 {Γ : xΓ} (G : xGL Γ) {L9 : Nat} {f : Nat → Int} (hS : xScr Γ L9 f) {T : xT} (hY : LayOK 208 T) {i : Int} (hi : 0 ≤ i ∧ i + 5 < L9) {M : xM} (hI : Both M) (back : ∀ M2, Both M2 → xXL Γ T 2082 i [] M2) : xXL Γ T 479 i [] M := by
  obtain ⟨V, Hs, Ws, kp, bt, len, hI⟩ := hI
  have hc := hI.1
  have hr := hI.2.1
  have hk := hI.2.2.1
  have ht := hI.2.2.2
  obtain ⟨a1, ha1⟩ : ∃ a : Int, a = f (i + 1).toNat := ⟨_, rfl⟩
  refine x_aload_n G 2 rfl rfl dL_law_479 ?_
  refine x_arg G hS 1 (by decide) hi ha1 dL_law_480 dL_law_481 dL_law_482 dL_law_483 dL_law_484 ?_
  refine x_callVI G [] [xI a1] rfl (by decide) (ly_n hY 0 (by decide)) (ly_k hY 0 (by decide)) hy_X6_pass hi_X6_pass hs_X6_pass ml_L_38 rfl rfl (kX6_pass _ _ V Hs a1 hY hc.2.1 hc.1.1 hc.1.2 hc.2.2.1) (by decide) (by decide) (Nat.le_of_ble_eq_true rfl) dL_law_485 (fun z1 M1 h1 => ?_)
  have hr1 : Ref M1 V Hs := ref_cg hr (fun q hq => h1.2.2 q (by omega))
  refine x_aload_n G 1 rfl rfl dL_law_488 ?_
  refine x_arg G hS 1 (by decide) hi ha1 dL_law_489 dL_law_490 dL_law_491 dL_law_492 dL_law_493 ?_
  refine x_callVI G [xI z1] [xI a1] rfl (by decide) (ly_n hY 195 (by decide)) (ly_k hY 195 (by decide)) hy_X7_pass hi_X7_pass hs_X7_pass ml_L_41 rfl rfl (kX7_pass _ _ V Hs a1 hY hr1.1 hc.1.1 hc.1.2 hr1.2.1 hr1.2.2) (by decide) (by decide) (Nat.le_of_ble_eq_true rfl) dL_law_494 (fun z2 M2 h2 => ?_)
  have hz : z1 = z2 := h1.1.trans h2.1.symm
  refine x_icmp_eq G 2082 (by decide) dL_law_497 (fun _ => ?_) (fun c => absurd hz c)
  exact back M2 (inv_a hI h1.2.1 h1.2.2 (aPass_ok hc.1.1) (nxH_ok hc.1 hc.2.2.2) h2.2.1 h2.2.2.1 h2.2.2.2.1 h2.2.2.2.2)
set_option maxRecDepth 100000 in
set_option maxHeartbeats 4000000 in
theorem law_6 {Γ : xΓ} (G : xGL Γ) {L9 : Nat} {f : Nat → Int} (hS : xScr Γ L9 f) {T : xT} (hY : LayOK 208 T) {i : Int} (hi : 0 ≤ i ∧ i + 5 < L9) {M : xM} (hI : Both M) (back : ∀ M2, Both M2 → xXL Γ T 2082 i [] M2) : xXL Γ T 502 i [] M := by
  obtain ⟨V, Hs, Ws, kp, bt, len, hI⟩ := hI
  have hc := hI.1
  have hr := hI.2.1
  have hk := hI.2.2.1
  have ht := hI.2.2.2
  obtain ⟨a1, ha1⟩ : ∃ a : Int, a = f (i + 1).toNat := ⟨_, rfl⟩
  obtain ⟨a2, ha2⟩ : ∃ a : Int, a = f (i + 2).toNat := ⟨_, rfl⟩
  refine x_aload_n G 2 rfl rfl dL_law_502 ?_
  refine x_arg G hS 1 (by decide) hi ha1 dL_law_503 dL_law_504 dL_law_505 dL_law_506 dL_law_507 ?_
  refine x_arg G hS 2 (by decide) hi ha2 dL_law_508 dL_law_509 dL_law_510 dL_law_511 dL_law_512 ?_
  refine x_callVI G [] [xI a1, xI a2] rfl (by decide) (ly_n hY 0 (by decide)) (ly_k hY 0 (by decide)) hy_X6_size hi_X6_size hs_X6_size ml_L_42 rfl rfl (kX6_size _ _ V Hs a1 a2 hY hc.2.1 hc.1.1 hc.1.2 hc.2.2.1) (by decide) (by decide) (Nat.le_of_ble_eq_true rfl) dL_law_513 (fun z1 M1 h1 => ?_)
  have hr1 : Ref M1 V Hs := ref_cg hr (fun q hq => h1.2.2 q (by omega))
  refine x_aload_n G 1 rfl rfl dL_law_516 ?_
  refine x_arg G hS 1 (by decide) hi ha1 dL_law_517 dL_law_518 dL_law_519 dL_law_520 dL_law_521 ?_
  refine x_arg G hS 2 (by decide) hi ha2 dL_law_522 dL_law_523 dL_law_524 dL_law_525 dL_law_526 ?_
  refine x_callVI G [xI z1] [xI a1, xI a2] rfl (by decide) (ly_n hY 195 (by decide)) (ly_k hY 195 (by decide)) hy_X7_size hi_X7_size hs_X7_size ml_L_46 rfl rfl (kX7_size _ _ V Hs a1 a2 hY hr1.1 hc.1.1 hc.1.2 hr1.2.1 hr1.2.2) (by decide) (by decide) (Nat.le_of_ble_eq_true rfl) dL_law_527 (fun z2 M2 h2 => ?_)
  have hz : z1 = z2 := h1.1.trans h2.1.symm
  refine x_icmp_eq G 2082 (by decide) dL_law_530 (fun _ => ?_) (fun c => absurd hz c)
  exact back M2 (inv_a hI h1.2.1 h1.2.2 (aSize_ok hc.1.1) (nxH_ok hc.1 hc.2.2.2) h2.2.1 h2.2.2.1 h2.2.2.2.1 h2.2.2.2.2)
set_option maxRecDepth 100000 in
set_option maxHeartbeats 4000000 in
theorem law_7 {Γ : xΓ} (G : xGL Γ) {L9 : Nat} {f : Nat → Int} (hS : xScr Γ L9 f) {T : xT} (hY : LayOK 208 T) {i : Int} (hi : 0 ≤ i ∧ i + 5 < L9) {M : xM} (hI : Both M) (back : ∀ M2, Both M2 → xXL Γ T 2082 i [] M2) : xXL Γ T 535 i [] M := by
  obtain ⟨V, Hs, Ws, kp, bt, len, hI⟩ := hI
  have hc := hI.1
  have hr := hI.2.1
  have hk := hI.2.2.1
  have ht := hI.2.2.2
  obtain ⟨a1, ha1⟩ : ∃ a : Int, a = f (i + 1).toNat := ⟨_, rfl⟩
  obtain ⟨a2, ha2⟩ : ∃ a : Int, a = f (i + 2).toNat := ⟨_, rfl⟩
  refine x_aload_n G 2 rfl rfl dL_law_535 ?_
  refine x_arg G hS 1 (by decide) hi ha1 dL_law_536 dL_law_537 dL_law_538 dL_law_539 dL_law_540 ?_
  refine x_arg G hS 2 (by decide) hi ha2 dL_law_541 dL_law_542 dL_law_543 dL_law_544 dL_law_545 ?_
  refine x_callVI G [] [xI a1, xI a2] rfl (by decide) (ly_n hY 0 (by decide)) (ly_k hY 0 (by decide)) hy_X6_window hi_X6_window hs_X6_window ml_L_47 rfl rfl (kX6_window _ _ V Hs a1 a2 hY hc.2.1 hc.1.1 hc.1.2 hc.2.2.1) (by decide) (by decide) (Nat.le_of_ble_eq_true rfl) dL_law_546 (fun z1 M1 h1 => ?_)
  have hr1 : Ref M1 V Hs := ref_cg hr (fun q hq => h1.2.2 q (by omega))
  refine x_aload_n G 1 rfl rfl dL_law_549 ?_
  refine x_arg G hS 1 (by decide) hi ha1 dL_law_550 dL_law_551 dL_law_552 dL_law_553 dL_law_554 ?_
  refine x_arg G hS 2 (by decide) hi ha2 dL_law_555 dL_law_556 dL_law_557 dL_law_558 dL_law_559 ?_
  refine x_callVI G [xI z1] [xI a1, xI a2] rfl (by decide) (ly_n hY 195 (by decide)) (ly_k hY 195 (by decide)) hy_X7_window hi_X7_window hs_X7_window ml_L_50 rfl rfl (kX7_window _ _ V Hs a1 a2 hY hr1.1 hc.1.1 hc.1.2 hr1.2.1 hr1.2.2) (by decide) (by decide) (Nat.le_of_ble_eq_true rfl) dL_law_560 (fun z2 M2 h2 => ?_)
  have hz : z1 = z2 := h1.1.trans h2.1.symm
  refine x_icmp_eq G 2082 (by decide) dL_law_563 (fun _ => ?_) (fun c => absurd hz c)
  exact back M2 (inv_a hI h1.2.1 h1.2.2 (aWind_ok hc.1.1) (nxH_ok hc.1 hc.2.2.2) h2.2.1 h2.2.2.1 h2.2.2.2.1 h2.2.2.2.2)
set_option maxRecDepth 100000 in
set_option maxHeartbeats 4000000 in
theorem law_8 {Γ : xΓ} (G : xGL Γ) {L9 : Nat} {f : Nat → Int} (hS : xScr Γ L9 f) {T : xT} (hY : LayOK 208 T) {i : Int} (hi : 0 ≤ i ∧ i + 5 < L9) {M : xM} (hI : Both M) (back : ∀ M2, Both M2 → xXL Γ T 2082 i [] M2) : xXL Γ T 568 i [] M := by
  obtain ⟨V, Hs, Ws, kp, bt, len, hI⟩ := hI
  have hc := hI.1
  have hr := hI.2.1
  have hk := hI.2.2.1
  have ht := hI.2.2.2
  obtain ⟨a1, ha1⟩ : ∃ a : Int, a = f (i + 1).toNat := ⟨_, rfl⟩
  obtain ⟨a2, ha2⟩ : ∃ a : Int, a = f (i + 2).toNat := ⟨_, rfl⟩
  refine x_aload_n G 2 rfl rfl dL_law_568 ?_
  refine x_arg G hS 1 (by decide) hi ha1 dL_law_569 dL_law_570 dL_law_571 dL_law_572 dL_law_573 ?_
  refine x_arg G hS 2 (by decide) hi ha2 dL_law_574 dL_law_575 dL_law_576 dL_law_577 dL_law_578 ?_
  refine x_callVI G [] [xI a1, xI a2] rfl (by decide) (ly_n hY 0 (by decide)) (ly_k hY 0 (by decide)) hy_X6_weigh hi_X6_weigh hs_X6_weigh ml_L_51 rfl rfl (kX6_weigh _ _ V Hs a1 a2 hY hc.2.1 hc.1.1 hc.1.2 hc.2.2.1) (by decide) (by decide) (Nat.le_of_ble_eq_true rfl) dL_law_579 (fun z1 M1 h1 => ?_)
  have hr1 : Ref M1 V Hs := ref_cg hr (fun q hq => h1.2.2 q (by omega))
  refine x_aload_n G 1 rfl rfl dL_law_582 ?_
  refine x_arg G hS 1 (by decide) hi ha1 dL_law_583 dL_law_584 dL_law_585 dL_law_586 dL_law_587 ?_
  refine x_arg G hS 2 (by decide) hi ha2 dL_law_588 dL_law_589 dL_law_590 dL_law_591 dL_law_592 ?_
  refine x_callVI G [xI z1] [xI a1, xI a2] rfl (by decide) (ly_n hY 195 (by decide)) (ly_k hY 195 (by decide)) hy_X7_weigh hi_X7_weigh hs_X7_weigh ml_L_54 rfl rfl (kX7_weigh _ _ V Hs a1 a2 hY hr1.1 hc.1.1 hc.1.2 hr1.2.1 hr1.2.2) (by decide) (by decide) (Nat.le_of_ble_eq_true rfl) dL_law_593 (fun z2 M2 h2 => ?_)
  have hz : z1 = z2 := h1.1.trans h2.1.symm
  refine x_icmp_eq G 2082 (by decide) dL_law_596 (fun _ => ?_) (fun c => absurd hz c)
  exact back M2 (inv_a hI h1.2.1 h1.2.2 (aWeigh_ok hc.1.1) (nxH_ok hc.1 hc.2.2.2) h2.2.1 h2.2.2.1 h2.2.2.2.1 h2.2.2.2.2)
set_option maxRecDepth 100000 in
set_option maxHeartbeats 4000000 in
theorem law_9 {Γ : xΓ} (G : xGL Γ) {L9 : Nat} {f : Nat → Int} (hS : xScr Γ L9 f) {T : xT} (hY : LayOK 208 T) {i : Int} (hi : 0 ≤ i ∧ i + 5 < L9) {M : xM} (hI : Both M) (back : ∀ M2, Both M2 → xXL Γ T 2082 i [] M2) : xXL Γ T 601 i [] M := by
  obtain ⟨V, Hs, Ws, kp, bt, len, hI⟩ := hI
  have hc := hI.1
  have hr := hI.2.1
  have hk := hI.2.2.1
  have ht := hI.2.2.2
  obtain ⟨a1, ha1⟩ : ∃ a : Int, a = f (i + 1).toNat := ⟨_, rfl⟩
  refine x_aload_n G 2 rfl rfl dL_law_601 ?_
  refine x_arg G hS 1 (by decide) hi ha1 dL_law_602 dL_law_603 dL_law_604 dL_law_605 dL_law_606 ?_
  refine x_callVI G [] [xI a1] rfl (by decide) (ly_n hY 0 (by decide)) (ly_k hY 0 (by decide)) hy_X6_again hi_X6_again hs_X6_again ml_L_55 rfl rfl (kX6_again _ _ V Hs a1 hY hc.2.1 hc.1.1 hc.1.2 hc.2.2.1) (by decide) (by decide) (Nat.le_of_ble_eq_true rfl) dL_law_607 (fun z1 M1 h1 => ?_)
  have hr1 : Ref M1 V Hs := ref_cg hr (fun q hq => h1.2.2 q (by omega))
  refine x_aload_n G 1 rfl rfl dL_law_610 ?_
  refine x_arg G hS 1 (by decide) hi ha1 dL_law_611 dL_law_612 dL_law_613 dL_law_614 dL_law_615 ?_
  refine x_callVI G [xI z1] [xI a1] rfl (by decide) (ly_n hY 195 (by decide)) (ly_k hY 195 (by decide)) hy_X7_again hi_X7_again hs_X7_again ml_L_58 rfl rfl (kX7_again _ _ V Hs a1 hY hr1.1 hc.1.1 hc.1.2 hr1.2.1 hr1.2.2) (by decide) (by decide) (Nat.le_of_ble_eq_true rfl) dL_law_616 (fun z2 M2 h2 => ?_)
  have hz : z1 = z2 := h1.1.trans h2.1.symm
  refine x_icmp_eq G 2082 (by decide) dL_law_619 (fun _ => ?_) (fun c => absurd hz c)
  exact back M2 (inv_a hI h1.2.1 h1.2.2 (aAgain_ok hc.1.1) (nxH_ok hc.1 hc.2.2.2) h2.2.1 h2.2.2.1 h2.2.2.2.1 h2.2.2.2.2)
set_option maxRecDepth 100000 in
set_option maxHeartbeats 4000000 in
theorem law_10 {Γ : xΓ} (G : xGL Γ) {L9 : Nat} {f : Nat → Int} (hS : xScr Γ L9 f) {T : xT} (hY : LayOK 208 T) {i : Int} (hi : 0 ≤ i ∧ i + 5 < L9) {M : xM} (hI : Both M) (back : ∀ M2, Both M2 → xXL Γ T 2082 i [] M2) : xXL Γ T 624 i [] M := by
  obtain ⟨V, Hs, Ws, kp, bt, len, hI⟩ := hI
  have hc := hI.1
  have hr := hI.2.1
  have hk := hI.2.2.1
  have ht := hI.2.2.2
  obtain ⟨a1, ha1⟩ : ∃ a : Int, a = f (i + 1).toNat := ⟨_, rfl⟩
  refine x_aload_n G 2 rfl rfl dL_law_624 ?_
  refine x_arg G hS 1 (by decide) hi ha1 dL_law_625 dL_law_626 dL_law_627 dL_law_628 dL_law_629 ?_
  refine x_callVI G [] [xI a1] rfl (by decide) (ly_n hY 0 (by decide)) (ly_k hY 0 (by decide)) hy_X6_drop hi_X6_drop hs_X6_drop ml_L_59 rfl rfl (kX6_drop _ _ V Hs a1 hY hc.2.1 hc.1.1 hc.1.2 hc.2.2.1) (by decide) (by decide) (Nat.le_of_ble_eq_true rfl) dL_law_630 (fun z1 M1 h1 => ?_)
  have hr1 : Ref M1 V Hs := ref_cg hr (fun q hq => h1.2.2 q (by omega))
  refine x_aload_n G 1 rfl rfl dL_law_633 ?_
  refine x_arg G hS 1 (by decide) hi ha1 dL_law_634 dL_law_635 dL_law_636 dL_law_637 dL_law_638 ?_
  refine x_callVI G [xI z1] [xI a1] rfl (by decide) (ly_n hY 195 (by decide)) (ly_k hY 195 (by decide)) hy_X7_drop hi_X7_drop hs_X7_drop ml_L_62 rfl rfl (kX7_drop _ _ V Hs a1 hY hr1.1 hc.1.1 hc.1.2 hr1.2.1 hr1.2.2) (by decide) (by decide) (Nat.le_of_ble_eq_true rfl) dL_law_639 (fun z2 M2 h2 => ?_)
  have hz : z1 = z2 := h1.1.trans h2.1.symm
  refine x_icmp_eq G 2082 (by decide) dL_law_642 (fun _ => ?_) (fun c => absurd hz c)
  exact back M2 (inv_a hI h1.2.1 h1.2.2 (aDrop_ok hc.1.1) (nxH_ok hc.1 hc.2.2.2) h2.2.1 h2.2.2.1 h2.2.2.2.1 h2.2.2.2.2)
set_option maxRecDepth 100000 in
set_option maxHeartbeats 4000000 in
theorem law_11 {Γ : xΓ} (G : xGL Γ) {L9 : Nat} {f : Nat → Int} (hS : xScr Γ L9 f) {T : xT} (hY : LayOK 208 T) {i : Int} (hi : 0 ≤ i ∧ i + 5 < L9) {M : xM} (hI : Both M) (back : ∀ M2, Both M2 → xXL Γ T 2082 i [] M2) : xXL Γ T 647 i [] M := by
  obtain ⟨V, Hs, Ws, kp, bt, len, hI⟩ := hI
  have hc := hI.1
  have hr := hI.2.1
  have hk := hI.2.2.1
  have ht := hI.2.2.2
  obtain ⟨a1, ha1⟩ : ∃ a : Int, a = f (i + 1).toNat := ⟨_, rfl⟩
  obtain ⟨a2, ha2⟩ : ∃ a : Int, a = f (i + 2).toNat := ⟨_, rfl⟩
  refine x_aload_n G 2 rfl rfl dL_law_647 ?_
  refine x_arg G hS 1 (by decide) hi ha1 dL_law_648 dL_law_649 dL_law_650 dL_law_651 dL_law_652 ?_
  refine x_arg G hS 2 (by decide) hi ha2 dL_law_653 dL_law_654 dL_law_655 dL_law_656 dL_law_657 ?_
  refine x_callVI G [] [xI a1, xI a2] rfl (by decide) (ly_n hY 0 (by decide)) (ly_k hY 0 (by decide)) hy_X6_move hi_X6_move hs_X6_move ml_L_63 rfl rfl (kX6_move _ _ V Hs a1 a2 hY hc.2.1 hc.1.1 hc.1.2 hc.2.2.1) (by decide) (by decide) (Nat.le_of_ble_eq_true rfl) dL_law_658 (fun z1 M1 h1 => ?_)
  have hr1 : Ref M1 V Hs := ref_cg hr (fun q hq => h1.2.2 q (by omega))
  refine x_aload_n G 1 rfl rfl dL_law_661 ?_
  refine x_arg G hS 1 (by decide) hi ha1 dL_law_662 dL_law_663 dL_law_664 dL_law_665 dL_law_666 ?_
  refine x_arg G hS 2 (by decide) hi ha2 dL_law_667 dL_law_668 dL_law_669 dL_law_670 dL_law_671 ?_
  refine x_callVI G [xI z1] [xI a1, xI a2] rfl (by decide) (ly_n hY 195 (by decide)) (ly_k hY 195 (by decide)) hy_X7_move hi_X7_move hs_X7_move ml_L_66 rfl rfl (kX7_move _ _ V Hs a1 a2 hY hr1.1 hc.1.1 hc.1.2 hr1.2.1 hr1.2.2) (by decide) (by decide) (Nat.le_of_ble_eq_true rfl) dL_law_672 (fun z2 M2 h2 => ?_)
  have hz : z1 = z2 := h1.1.trans h2.1.symm
  refine x_icmp_eq G 2082 (by decide) dL_law_675 (fun _ => ?_) (fun c => absurd hz c)
  exact back M2 (inv_a hI h1.2.1 h1.2.2 (aMove_ok hc.1.1) (nxH_ok hc.1 hc.2.2.2) h2.2.1 h2.2.2.1 h2.2.2.2.1 h2.2.2.2.2)
set_option maxRecDepth 100000 in
set_option maxHeartbeats 4000000 in
theorem law_12 {Γ : xΓ} (G : xGL Γ) {L9 : Nat} {f : Nat → Int} (hS : xScr Γ L9 f) {T : xT} (hY : LayOK 208 T) {i : Int} (hi : 0 ≤ i ∧ i + 5 < L9) {M : xM} (hI : Both M) (back : ∀ M2, Both M2 → xXL Γ T 2082 i [] M2) : xXL Γ T 680 i [] M := by
  obtain ⟨V, Hs, Ws, kp, bt, len, hI⟩ := hI
  have hc := hI.1
  have hr := hI.2.1
  have hk := hI.2.2.1
  have ht := hI.2.2.2
  obtain ⟨a1, ha1⟩ : ∃ a : Int, a = f (i + 1).toNat := ⟨_, rfl⟩
  obtain ⟨a2, ha2⟩ : ∃ a : Int, a = f (i + 2).toNat := ⟨_, rfl⟩
  refine x_aload_n G 2 rfl rfl dL_law_680 ?_
  refine x_arg G hS 1 (by decide) hi ha1 dL_law_681 dL_law_682 dL_law_683 dL_law_684 dL_law_685 ?_
  refine x_arg G hS 2 (by decide) hi ha2 dL_law_686 dL_law_687 dL_law_688 dL_law_689 dL_law_690 ?_
  refine x_callVI G [] [xI a1, xI a2] rfl (by decide) (ly_n hY 0 (by decide)) (ly_k hY 0 (by decide)) hy_X6_merge hi_X6_merge hs_X6_merge ml_L_67 rfl rfl (kX6_merge _ _ V Hs a1 a2 hY hc.2.1 hc.1.1 hc.1.2 hc.2.2.1) (by decide) (by decide) (Nat.le_of_ble_eq_true rfl) dL_law_691 (fun z1 M1 h1 => ?_)
  have hr1 : Ref M1 V Hs := ref_cg hr (fun q hq => h1.2.2 q (by omega))
  refine x_aload_n G 1 rfl rfl dL_law_694 ?_
  refine x_arg G hS 1 (by decide) hi ha1 dL_law_695 dL_law_696 dL_law_697 dL_law_698 dL_law_699 ?_
  refine x_arg G hS 2 (by decide) hi ha2 dL_law_700 dL_law_701 dL_law_702 dL_law_703 dL_law_704 ?_
  refine x_callVI G [xI z1] [xI a1, xI a2] rfl (by decide) (ly_n hY 195 (by decide)) (ly_k hY 195 (by decide)) hy_X7_merge hi_X7_merge hs_X7_merge ml_L_70 rfl rfl (kX7_merge _ _ V Hs a1 a2 hY hr1.1 hc.1.1 hc.1.2 hr1.2.1 hr1.2.2) (by decide) (by decide) (Nat.le_of_ble_eq_true rfl) dL_law_705 (fun z2 M2 h2 => ?_)
  have hz : z1 = z2 := h1.1.trans h2.1.symm
  refine x_icmp_eq G 2082 (by decide) dL_law_708 (fun _ => ?_) (fun c => absurd hz c)
  exact back M2 (inv_a hI h1.2.1 h1.2.2 (aMerge_ok hc.1.1) (nxH_ok hc.1 hc.2.2.2) h2.2.1 h2.2.2.1 h2.2.2.2.1 h2.2.2.2.2)
set_option maxRecDepth 100000 in
set_option maxHeartbeats 4000000 in
theorem law_13 {Γ : xΓ} (G : xGL Γ) {L9 : Nat} {f : Nat → Int} (hS : xScr Γ L9 f) {T : xT} (hY : LayOK 208 T) {i : Int} (hi : 0 ≤ i ∧ i + 5 < L9) {M : xM} (hI : Both M) (back : ∀ M2, Both M2 → xXL Γ T 2082 i [] M2) : xXL Γ T 713 i [] M := by
  obtain ⟨V, Hs, Ws, kp, bt, len, hI⟩ := hI
  have hc := hI.1
  have hr := hI.2.1
  have hk := hI.2.2.1
  have ht := hI.2.2.2
  obtain ⟨a1, ha1⟩ : ∃ a : Int, a = f (i + 1).toNat := ⟨_, rfl⟩
  obtain ⟨a2, ha2⟩ : ∃ a : Int, a = f (i + 2).toNat := ⟨_, rfl⟩
  refine x_aload_n G 2 rfl rfl dL_law_713 ?_
  refine x_arg G hS 1 (by decide) hi ha1 dL_law_714 dL_law_715 dL_law_716 dL_law_717 dL_law_718 ?_
  refine x_arg G hS 2 (by decide) hi ha2 dL_law_719 dL_law_720 dL_law_721 dL_law_722 dL_law_723 ?_
  refine x_callVI G [] [xI a1, xI a2] rfl (by decide) (ly_n hY 0 (by decide)) (ly_k hY 0 (by decide)) hy_X6_rename hi_X6_rename hs_X6_rename ml_L_71 rfl rfl (kX6_rename _ _ V Hs a1 a2 hY hc.2.1 hc.1.1 hc.1.2 hc.2.2.1) (by decide) (by decide) (Nat.le_of_ble_eq_true rfl) dL_law_724 (fun z1 M1 h1 => ?_)
  have hr1 : Ref M1 V Hs := ref_cg hr (fun q hq => h1.2.2 q (by omega))
  refine x_aload_n G 1 rfl rfl dL_law_727 ?_
  refine x_arg G hS 1 (by decide) hi ha1 dL_law_728 dL_law_729 dL_law_730 dL_law_731 dL_law_732 ?_
  refine x_arg G hS 2 (by decide) hi ha2 dL_law_733 dL_law_734 dL_law_735 dL_law_736 dL_law_737 ?_
  refine x_callVI G [xI z1] [xI a1, xI a2] rfl (by decide) (ly_n hY 195 (by decide)) (ly_k hY 195 (by decide)) hy_X7_rename hi_X7_rename hs_X7_rename ml_L_74 rfl rfl (kX7_rename _ _ V Hs a1 a2 hY hr1.1 hc.1.1 hc.1.2 hr1.2.1 hr1.2.2) (by decide) (by decide) (Nat.le_of_ble_eq_true rfl) dL_law_738 (fun z2 M2 h2 => ?_)
  have hz : z1 = z2 := h1.1.trans h2.1.symm
  refine x_icmp_eq G 2082 (by decide) dL_law_741 (fun _ => ?_) (fun c => absurd hz c)
  exact back M2 (inv_a hI h1.2.1 h1.2.2 (aRen_ok hc.1.1) (nxH_ok hc.1 hc.2.2.2) h2.2.1 h2.2.2.1 h2.2.2.2.1 h2.2.2.2.2)
set_option maxRecDepth 100000 in
set_option maxHeartbeats 4000000 in
theorem law_14 {Γ : xΓ} (G : xGL Γ) {L9 : Nat} {f : Nat → Int} (hS : xScr Γ L9 f) {T : xT} (hY : LayOK 208 T) {i : Int} (hi : 0 ≤ i ∧ i + 5 < L9) {M : xM} (hI : Both M) (back : ∀ M2, Both M2 → xXL Γ T 2082 i [] M2) : xXL Γ T 746 i [] M := by
  obtain ⟨V, Hs, Ws, kp, bt, len, hI⟩ := hI
  have hc := hI.1
  have hr := hI.2.1
  have hk := hI.2.2.1
  have ht := hI.2.2.2
  obtain ⟨a1, ha1⟩ : ∃ a : Int, a = f (i + 1).toNat := ⟨_, rfl⟩
  refine x_aload_n G 2 rfl rfl dL_law_746 ?_
  refine x_arg G hS 1 (by decide) hi ha1 dL_law_747 dL_law_748 dL_law_749 dL_law_750 dL_law_751 ?_
  refine x_callVI G [] [xI a1] rfl (by decide) (ly_n hY 0 (by decide)) (ly_k hY 0 (by decide)) hy_X6_thin hi_X6_thin hs_X6_thin ml_L_75 rfl rfl (kX6_thin _ _ V Hs a1 hY hc.2.1 hc.1.1 hc.1.2 hc.2.2.1) (by decide) (by decide) (Nat.le_of_ble_eq_true rfl) dL_law_752 (fun z1 M1 h1 => ?_)
  have hr1 : Ref M1 V Hs := ref_cg hr (fun q hq => h1.2.2 q (by omega))
  refine x_aload_n G 1 rfl rfl dL_law_755 ?_
  refine x_arg G hS 1 (by decide) hi ha1 dL_law_756 dL_law_757 dL_law_758 dL_law_759 dL_law_760 ?_
  refine x_callVI G [xI z1] [xI a1] rfl (by decide) (ly_n hY 195 (by decide)) (ly_k hY 195 (by decide)) hy_X7_thin hi_X7_thin hs_X7_thin ml_L_78 rfl rfl (kX7_thin _ _ V Hs a1 hY hr1.1 hc.1.1 hc.1.2 hr1.2.1 hr1.2.2) (by decide) (by decide) (Nat.le_of_ble_eq_true rfl) dL_law_761 (fun z2 M2 h2 => ?_)
  have hz : z1 = z2 := h1.1.trans h2.1.symm
  refine x_icmp_eq G 2082 (by decide) dL_law_764 (fun _ => ?_) (fun c => absurd hz c)
  exact back M2 (inv_a hI h1.2.1 h1.2.2 (aThin_ok hc.1.1) (nxH_ok hc.1 hc.2.2.2) h2.2.1 h2.2.2.1 h2.2.2.2.1 h2.2.2.2.2)
set_option maxRecDepth 100000 in
set_option maxHeartbeats 4000000 in
theorem law_15 {Γ : xΓ} (G : xGL Γ) {L9 : Nat} {f : Nat → Int} (hS : xScr Γ L9 f) {T : xT} (hY : LayOK 208 T) {i : Int} (hi : 0 ≤ i ∧ i + 5 < L9) {M : xM} (hI : Both M) (back : ∀ M2, Both M2 → xXL Γ T 2082 i [] M2) : xXL Γ T 769 i [] M := by
  obtain ⟨V, Hs, Ws, kp, bt, len, hI⟩ := hI
  have hc := hI.1
  have hr := hI.2.1
  have hk := hI.2.2.1
  have ht := hI.2.2.2
  obtain ⟨a1, ha1⟩ : ∃ a : Int, a = f (i + 1).toNat := ⟨_, rfl⟩
  obtain ⟨a2, ha2⟩ : ∃ a : Int, a = f (i + 2).toNat := ⟨_, rfl⟩
  refine x_aload_n G 2 rfl rfl dL_law_769 ?_
  refine x_arg G hS 1 (by decide) hi ha1 dL_law_770 dL_law_771 dL_law_772 dL_law_773 dL_law_774 ?_
  refine x_arg G hS 2 (by decide) hi ha2 dL_law_775 dL_law_776 dL_law_777 dL_law_778 dL_law_779 ?_
  refine x_callVI G [] [xI a1, xI a2] rfl (by decide) (ly_n hY 0 (by decide)) (ly_k hY 0 (by decide)) hy_X6_swap hi_X6_swap hs_X6_swap ml_L_79 rfl rfl (kX6_swap _ _ V Hs a1 a2 hY hc.2.1 hc.1.1 hc.1.2 hc.2.2.1) (by decide) (by decide) (Nat.le_of_ble_eq_true rfl) dL_law_780 (fun z1 M1 h1 => ?_)
  have hr1 : Ref M1 V Hs := ref_cg hr (fun q hq => h1.2.2 q (by omega))
  refine x_aload_n G 1 rfl rfl dL_law_783 ?_
  refine x_arg G hS 1 (by decide) hi ha1 dL_law_784 dL_law_785 dL_law_786 dL_law_787 dL_law_788 ?_
  refine x_arg G hS 2 (by decide) hi ha2 dL_law_789 dL_law_790 dL_law_791 dL_law_792 dL_law_793 ?_
  refine x_callVI G [xI z1] [xI a1, xI a2] rfl (by decide) (ly_n hY 195 (by decide)) (ly_k hY 195 (by decide)) hy_X7_swap hi_X7_swap hs_X7_swap ml_L_82 rfl rfl (kX7_swap _ _ V Hs a1 a2 hY hr1.1 hc.1.1 hc.1.2 hr1.2.1 hr1.2.2) (by decide) (by decide) (Nat.le_of_ble_eq_true rfl) dL_law_794 (fun z2 M2 h2 => ?_)
  have hz : z1 = z2 := h1.1.trans h2.1.symm
  refine x_icmp_eq G 2082 (by decide) dL_law_797 (fun _ => ?_) (fun c => absurd hz c)
  exact back M2 (inv_a hI h1.2.1 h1.2.2 (aSwap_ok hc.1.1) (nxH_ok hc.1 hc.2.2.2) h2.2.1 h2.2.2.1 h2.2.2.2.1 h2.2.2.2.2)
set_option maxRecDepth 100000 in
set_option maxHeartbeats 4000000 in
theorem law_16 {Γ : xΓ} (G : xGL Γ) {L9 : Nat} {f : Nat → Int} (hS : xScr Γ L9 f) {T : xT} (hY : LayOK 208 T) {i : Int} (hi : 0 ≤ i ∧ i + 5 < L9) {M : xM} (hI : Both M) (back : ∀ M2, Both M2 → xXL Γ T 2082 i [] M2) : xXL Γ T 802 i [] M := by
  obtain ⟨V, Hs, Ws, kp, bt, len, hI⟩ := hI
  have hc := hI.1
  have hr := hI.2.1
  have hk := hI.2.2.1
  have ht := hI.2.2.2
  obtain ⟨a1, ha1⟩ : ∃ a : Int, a = f (i + 1).toNat := ⟨_, rfl⟩
  obtain ⟨a2, ha2⟩ : ∃ a : Int, a = f (i + 2).toNat := ⟨_, rfl⟩
  refine x_aload_n G 2 rfl rfl dL_law_802 ?_
  refine x_arg G hS 1 (by decide) hi ha1 dL_law_803 dL_law_804 dL_law_805 dL_law_806 dL_law_807 ?_
  refine x_arg G hS 2 (by decide) hi ha2 dL_law_808 dL_law_809 dL_law_810 dL_law_811 dL_law_812 ?_
  refine x_callVI G [] [xI a1, xI a2] rfl (by decide) (ly_n hY 0 (by decide)) (ly_k hY 0 (by decide)) hy_X6_weighAll hi_X6_weighAll hs_X6_weighAll ml_L_83 rfl rfl (kX6_weighAll _ _ V Hs a1 a2 hY hc.2.1 hc.1.1 hc.1.2 hc.2.2.1) (by decide) (by decide) (Nat.le_of_ble_eq_true rfl) dL_law_813 (fun z1 M1 h1 => ?_)
  have hr1 : Ref M1 V Hs := ref_cg hr (fun q hq => h1.2.2 q (by omega))
  refine x_aload_n G 1 rfl rfl dL_law_816 ?_
  refine x_arg G hS 1 (by decide) hi ha1 dL_law_817 dL_law_818 dL_law_819 dL_law_820 dL_law_821 ?_
  refine x_arg G hS 2 (by decide) hi ha2 dL_law_822 dL_law_823 dL_law_824 dL_law_825 dL_law_826 ?_
  refine x_callVI G [xI z1] [xI a1, xI a2] rfl (by decide) (ly_n hY 195 (by decide)) (ly_k hY 195 (by decide)) hy_X7_weighAll hi_X7_weighAll hs_X7_weighAll ml_L_86 rfl rfl (kX7_weighAll _ _ V Hs a1 a2 hY hr1.1 hc.1.1 hc.1.2 hr1.2.1 hr1.2.2) (by decide) (by decide) (Nat.le_of_ble_eq_true rfl) dL_law_827 (fun z2 M2 h2 => ?_)
  have hz : z1 = z2 := h1.1.trans h2.1.symm
  refine x_icmp_eq G 2082 (by decide) dL_law_830 (fun _ => ?_) (fun c => absurd hz c)
  exact back M2 (inv_a hI h1.2.1 h1.2.2 (aWAll_ok hc.1.1) (nxH_ok hc.1 hc.2.2.2) h2.2.1 h2.2.2.1 h2.2.2.2.1 h2.2.2.2.2)
set_option maxRecDepth 100000 in
set_option maxHeartbeats 4000000 in
theorem law_17 {Γ : xΓ} (G : xGL Γ) {L9 : Nat} {f : Nat → Int} (hS : xScr Γ L9 f) {T : xT} (hY : LayOK 208 T) {i : Int} (hi : 0 ≤ i ∧ i + 5 < L9) {M : xM} (hI : Both M) (back : ∀ M2, Both M2 → xXL Γ T 2082 i [] M2) : xXL Γ T 835 i [] M := by
  obtain ⟨V, Hs, Ws, kp, bt, len, hI⟩ := hI
  have hc := hI.1
  have hr := hI.2.1
  have hk := hI.2.2.1
  have ht := hI.2.2.2
  obtain ⟨a1, ha1⟩ : ∃ a : Int, a = f (i + 1).toNat := ⟨_, rfl⟩
  obtain ⟨a2, ha2⟩ : ∃ a : Int, a = f (i + 2).toNat := ⟨_, rfl⟩
  obtain ⟨a3, ha3⟩ : ∃ a : Int, a = f (i + 3).toNat := ⟨_, rfl⟩
  refine x_aload_n G 2 rfl rfl dL_law_835 ?_
  refine x_arg G hS 1 (by decide) hi ha1 dL_law_836 dL_law_837 dL_law_838 dL_law_839 dL_law_840 ?_
  refine x_arg G hS 2 (by decide) hi ha2 dL_law_841 dL_law_842 dL_law_843 dL_law_844 dL_law_845 ?_
  refine x_arg G hS 3 (by decide) hi ha3 dL_law_846 dL_law_847 dL_law_848 dL_law_849 dL_law_850 ?_
  refine x_callVI G [] [xI a1, xI a2, xI a3] rfl (by decide) (ly_n hY 0 (by decide)) (ly_k hY 0 (by decide)) hy_X6_split hi_X6_split hs_X6_split ml_L_87 rfl rfl (kX6_split _ _ V Hs a1 a2 a3 hY hc.2.1 hc.1.1 hc.1.2 hc.2.2.1) (by decide) (by decide) (Nat.le_of_ble_eq_true rfl) dL_law_851 (fun z1 M1 h1 => ?_)
  have hr1 : Ref M1 V Hs := ref_cg hr (fun q hq => h1.2.2 q (by omega))
  refine x_aload_n G 1 rfl rfl dL_law_854 ?_
  refine x_arg G hS 1 (by decide) hi ha1 dL_law_855 dL_law_856 dL_law_857 dL_law_858 dL_law_859 ?_
  refine x_arg G hS 2 (by decide) hi ha2 dL_law_860 dL_law_861 dL_law_862 dL_law_863 dL_law_864 ?_
  refine x_arg G hS 3 (by decide) hi ha3 dL_law_865 dL_law_866 dL_law_867 dL_law_868 dL_law_869 ?_
  refine x_callVI G [xI z1] [xI a1, xI a2, xI a3] rfl (by decide) (ly_n hY 195 (by decide)) (ly_k hY 195 (by decide)) hy_X7_split hi_X7_split hs_X7_split ml_L_90 rfl rfl (kX7_split _ _ V Hs a1 a2 a3 hY hr1.1 hc.1.1 hc.1.2 hr1.2.1 hr1.2.2) (by decide) (by decide) (Nat.le_of_ble_eq_true rfl) dL_law_870 (fun z2 M2 h2 => ?_)
  have hz : z1 = z2 := h1.1.trans h2.1.symm
  refine x_icmp_eq G 2082 (by decide) dL_law_873 (fun _ => ?_) (fun c => absurd hz c)
  exact back M2 (inv_a hI h1.2.1 h1.2.2 (aSplit_ok hc.1.1) (nxH_ok hc.1 hc.2.2.2) h2.2.1 h2.2.2.1 h2.2.2.2.1 h2.2.2.2.2)
set_option maxRecDepth 100000 in
set_option maxHeartbeats 4000000 in
theorem law_18 {Γ : xΓ} (G : xGL Γ) {L9 : Nat} {f : Nat → Int} (hS : xScr Γ L9 f) {T : xT} (hY : LayOK 208 T) {i : Int} (hi : 0 ≤ i ∧ i + 5 < L9) {M : xM} (hI : Both M) (back : ∀ M2, Both M2 → xXL Γ T 2082 i [] M2) : xXL Γ T 878 i [] M := by
  obtain ⟨V, Hs, Ws, kp, bt, len, hI⟩ := hI
  have hc := hI.1
  have hr := hI.2.1
  have hk := hI.2.2.1
  have ht := hI.2.2.2
  refine x_aload_n G 2 rfl rfl dL_law_878 ?_
  refine x_callVI G [] [] rfl (by decide) (ly_n hY 0 (by decide)) (ly_k hY 0 (by decide)) hy_X6_purge hi_X6_purge hs_X6_purge ml_L_91 rfl rfl (kX6_purge _ _ V Hs  hY hc.2.1 hc.1.1 hc.1.2 hc.2.2.1) (by decide) (by decide) (Nat.le_of_ble_eq_true rfl) dL_law_879 (fun z1 M1 h1 => ?_)
  have hr1 : Ref M1 V Hs := ref_cg hr (fun q hq => h1.2.2 q (by omega))
  refine x_aload_n G 1 rfl rfl dL_law_882 ?_
  refine x_callVI G [xI z1] [] rfl (by decide) (ly_n hY 195 (by decide)) (ly_k hY 195 (by decide)) hy_X7_purge hi_X7_purge hs_X7_purge ml_L_94 rfl rfl (kX7_purge _ _ V Hs  hY hr1.1 hc.1.1 hc.1.2 hr1.2.1 hr1.2.2) (by decide) (by decide) (Nat.le_of_ble_eq_true rfl) dL_law_883 (fun z2 M2 h2 => ?_)
  have hz : z1 = z2 := h1.1.trans h2.1.symm
  refine x_icmp_eq G 2082 (by decide) dL_law_886 (fun _ => ?_) (fun c => absurd hz c)
  exact back M2 (inv_a hI h1.2.1 h1.2.2 (aPurge_ok hc.1.1) (nxH_ok hc.1 hc.2.2.2) h2.2.1 h2.2.2.1 h2.2.2.2.1 h2.2.2.2.2)
set_option maxRecDepth 100000 in
set_option maxHeartbeats 4000000 in
theorem law_19 {Γ : xΓ} (G : xGL Γ) {L9 : Nat} {f : Nat → Int} (hS : xScr Γ L9 f) {T : xT} (hY : LayOK 208 T) {i : Int} (hi : 0 ≤ i ∧ i + 5 < L9) {M : xM} (hI : Both M) (back : ∀ M2, Both M2 → xXL Γ T 2082 i [] M2) : xXL Γ T 891 i [] M := by
  obtain ⟨V, Hs, Ws, kp, bt, len, hI⟩ := hI
  have hc := hI.1
  have hr := hI.2.1
  have hk := hI.2.2.1
  have ht := hI.2.2.2
  obtain ⟨a1, ha1⟩ : ∃ a : Int, a = f (i + 1).toNat := ⟨_, rfl⟩
  refine x_aload_n G 2 rfl rfl dL_law_891 ?_
  refine x_arg G hS 1 (by decide) hi ha1 dL_law_892 dL_law_893 dL_law_894 dL_law_895 dL_law_896 ?_
  refine x_callVI G [] [xI a1] rfl (by decide) (ly_n hY 0 (by decide)) (ly_k hY 0 (by decide)) hy_X6_seed hi_X6_seed hs_X6_seed ml_L_95 rfl rfl (kX6_seed _ _ V Hs a1 hY hc.2.1 hc.1.1 hc.1.2 hc.2.2.1) (by decide) (by decide) (Nat.le_of_ble_eq_true rfl) dL_law_897 (fun z1 M1 h1 => ?_)
  have hr1 : Ref M1 V Hs := ref_cg hr (fun q hq => h1.2.2 q (by omega))
  refine x_aload_n G 1 rfl rfl dL_law_900 ?_
  refine x_arg G hS 1 (by decide) hi ha1 dL_law_901 dL_law_902 dL_law_903 dL_law_904 dL_law_905 ?_
  refine x_callVI G [xI z1] [xI a1] rfl (by decide) (ly_n hY 195 (by decide)) (ly_k hY 195 (by decide)) hy_X7_seed hi_X7_seed hs_X7_seed ml_L_98 rfl rfl (kX7_seed _ _ V Hs a1 hY hr1.1 hc.1.1 hc.1.2 hr1.2.1 hr1.2.2) (by decide) (by decide) (Nat.le_of_ble_eq_true rfl) dL_law_906 (fun z2 M2 h2 => ?_)
  have hz : z1 = z2 := h1.1.trans h2.1.symm
  refine x_icmp_eq G 2082 (by decide) dL_law_909 (fun _ => ?_) (fun c => absurd hz c)
  exact back M2 (inv_a hI h1.2.1 h1.2.2 (aSeed_ok hc.1.1) (nxH_ok hc.1 hc.2.2.2) h2.2.1 h2.2.2.1 h2.2.2.2.1 h2.2.2.2.2)
set_option maxRecDepth 100000 in
set_option maxHeartbeats 4000000 in
theorem law_20 {Γ : xΓ} (G : xGL Γ) {L9 : Nat} {f : Nat → Int} (hS : xScr Γ L9 f) {T : xT} (hY : LayOK 208 T) {i : Int} (hi : 0 ≤ i ∧ i + 5 < L9) {M : xM} (hI : Both M) (back : ∀ M2, Both M2 → xXL Γ T 2082 i [] M2) : xXL Γ T 914 i [] M := by
  obtain ⟨V, Hs, Ws, kp, bt, len, hI⟩ := hI
  have hc := hI.1
  have hr := hI.2.1
  have hk := hI.2.2.1
  have ht := hI.2.2.2
  refine x_aload_n G 2 rfl rfl dL_law_914 ?_
  refine x_callVI G [] [] rfl (by decide) (ly_n hY 0 (by decide)) (ly_k hY 0 (by decide)) hy_X6_undo hi_X6_undo hs_X6_undo ml_L_99 rfl rfl (kX6_undo _ _ V Hs hY hc.2.1 hc.1.1 hc.1.2 hc.2.2.1 hc.2.2.2) (by decide) (by decide) (Nat.le_of_ble_eq_true rfl) dL_law_915 (fun z1 M1 h1 => ?_)
  have ha : afr M M1 := by rcases h1 with ⟨_, _, _, h⟩ | ⟨_, _, _, _, _, h⟩ <;> exact h
  have hr1 : Ref M1 V Hs := ref_cg hr (fun q hq => ha q (by omega))
  refine x_aload_n G 1 rfl rfl dL_law_918 ?_
  refine x_callVI G [xI z1] [] rfl (by decide) (ly_n hY 195 (by decide)) (ly_k hY 195 (by decide)) hy_X7_undo hi_X7_undo hs_X7_undo ml_L_102 rfl rfl (kX7_undo _ _ Hs hY hr1.2.2) (by decide) (by decide) (Nat.le_of_ble_eq_true rfl) dL_law_919 (fun z2 M2 h2 => ?_)
  have hz : z1 = z2 := by
    rcases h1 with ⟨c1, g1, _⟩ | ⟨W, Hs2, c1, g1, _⟩ <;> rcases h2 with ⟨g2, c2, _⟩ | ⟨W2, Hs3, c2, g2, _⟩
    · rw [g1, g2]
    · rw [c1] at c2; exact absurd c2 (by simp)
    · rw [c1] at c2; exact absurd c2 (by simp)
    · rw [c1] at c2; rw [g1, g2, (List.cons.inj c2).2]
  refine x_icmp_eq G 2082 (by decide) dL_law_922 (fun _ => ?_) (fun c => absurd hz c)
  refine back M2 ?_
  rcases h1 with ⟨c1, _, f1, _⟩ | ⟨W, Hs2, c1, _, f1, _⟩ <;> rcases h2 with ⟨_, c2, m2⟩ | ⟨W2, Hs3, c2, _, m2, t2, n2, a2⟩
  · subst m2; exact inv_a hI f1 ha hc.1.1 hc.2.2.2 hr1.1 hr1.2.2 hr1.2.1 (maf_refl _)
  · rw [c1] at c2; exact absurd c2 (by simp)
  · rw [c1] at c2; exact absurd c2 (by simp)
  · rw [c1] at c2
    obtain ⟨rfl, rfl⟩ := List.cons.inj c2
    have hW : ∀ X ∈ W :: Hs2, OKS X := by rw [← c1]; exact hc.2.2.2
    exact inv_a hI f1 ha (hW W List.mem_cons_self).1 (fun X hX => hW X (List.mem_cons_of_mem _ hX)) m2 t2 (Or.inl n2) a2
set_option maxRecDepth 100000 in
set_option maxHeartbeats 4000000 in
theorem law_21 {Γ : xΓ} (G : xGL Γ) {L9 : Nat} {f : Nat → Int} (hS : xScr Γ L9 f) {T : xT} (hY : LayOK 208 T) {i : Int} (hi : 0 ≤ i ∧ i + 5 < L9) {M : xM} (hI : Both M) (back : ∀ M2, Both M2 → xXL Γ T 2082 i [] M2) : xXL Γ T 927 i [] M := by
  obtain ⟨V, Hs, Ws, kp, bt, len, hI⟩ := hI
  have hc := hI.1
  have hr := hI.2.1
  have hk := hI.2.2.1
  have ht := hI.2.2.2
  obtain ⟨a1, ha1⟩ : ∃ a : Int, a = f (i + 1).toNat := ⟨_, rfl⟩
  refine x_aload_n G 2 rfl rfl dL_law_927 ?_
  refine x_arg G hS 1 (by decide) hi ha1 dL_law_928 dL_law_929 dL_law_930 dL_law_931 dL_law_932 ?_
  refine x_callVI G [] [xI a1] rfl (by decide) (ly_n hY 0 (by decide)) (ly_k hY 0 (by decide)) hy_X6_keep hi_X6_keep hs_X6_keep ml_L_103 rfl rfl (kX6_keep _ _ V a1 hY hc.2.1 hc.1.1 hc.1.2 (by have := hk.1; have := hk.2.1; omega)) (by decide) (by decide) (Nat.le_of_ble_eq_true rfl) dL_law_933 (fun z1 M1 h1 => ?_)
  have e1 : ∀ q, q ≠ 0 → (q < 169 ∨ 195 ≤ q) → M1 q = M q := by
    rcases h1 with ⟨_, _, h⟩ | ⟨hb, _, _, _, h⟩
    · intro q _ _; rw [h]
    · intro q g1 g2; exact h q g1 (by omega)
  have hr1 : Ref M1 V Hs := ref_cg hr (fun q hq => e1 q (by omega) (by omega))
  refine x_aload_n G 1 rfl rfl dL_law_936 ?_
  refine x_arg G hS 1 (by decide) hi ha1 dL_law_937 dL_law_938 dL_law_939 dL_law_940 dL_law_941 ?_
  refine x_callVI G [xI z1] [xI a1] rfl (by decide) (ly_n hY 195 (by decide)) (ly_k hY 195 (by decide)) hy_X7_keep hi_X7_keep hs_X7_keep ml_L_106 rfl rfl (kX7_keep _ _ V a1 hY hr1.1 hc.1.1) (by decide) (by decide) (Nat.le_of_ble_eq_true rfl) dL_law_942 (fun z2 M2 h2 => ?_)
  have hz : z1 = z2 := by rcases h1 with ⟨c1, g1, _⟩ | ⟨c1, g1, _⟩ <;> rcases h2 with ⟨c2, g2, _⟩ | ⟨c2, g2, _⟩ <;> first | exact absurd c2 c1 | exact absurd c1 c2 | exact g1.trans g2.symm
  refine x_icmp_eq G 2082 (by decide) dL_law_945 (fun _ => ?_) (fun c => absurd hz c)
  refine back M2 ?_
  rcases h1 with ⟨c1, _, m1⟩ | ⟨c1, _, q1, k1, f1⟩ <;> rcases h2 with ⟨c2, _, m2⟩ | ⟨c2, _, r2, o2, k2, f2⟩
  · subst m2; subst m1; exact ⟨V, Hs, Ws, kp, bt, len, hI⟩
  · exact absurd c2 c1
  · exact absurd c1 c2
  · exact inv_k hI c1 q1 k1 f1 hr1 r2 o2 k2 f2
set_option maxRecDepth 100000 in
set_option maxHeartbeats 4000000 in
theorem law_22 {Γ : xΓ} (G : xGL Γ) {L9 : Nat} {f : Nat → Int} (hS : xScr Γ L9 f) {T : xT} (hY : LayOK 208 T) {i : Int} (hi : 0 ≤ i ∧ i + 5 < L9) {M : xM} (hI : Both M) (back : ∀ M2, Both M2 → xXL Γ T 2082 i [] M2) : xXL Γ T 950 i [] M := by
  obtain ⟨V, Hs, Ws, kp, bt, len, hI⟩ := hI
  have hc := hI.1
  have hr := hI.2.1
  have hk := hI.2.2.1
  have ht := hI.2.2.2
  obtain ⟨a1, ha1⟩ : ∃ a : Int, a = f (i + 1).toNat := ⟨_, rfl⟩
  refine x_aload_n G 2 rfl rfl dL_law_950 ?_
  refine x_arg G hS 1 (by decide) hi ha1 dL_law_951 dL_law_952 dL_law_953 dL_law_954 dL_law_955 ?_
  refine x_callVI G [] [xI a1] rfl (by decide) (ly_n hY 0 (by decide)) (ly_k hY 0 (by decide)) hy_X6_back hi_X6_back hs_X6_back ml_L_107 rfl rfl (kX6_back _ _ V (Ws a1.toNat) Hs a1 hY hc.2.1 hc.1.1 hc.1.2 hc.2.2.1 (by have := hk.1; have := hk.2.1; omega) (fun g1 g2 => (fun h => ⟨h.1, h.2.1⟩) ((kep_at hk g1).2 (by rw [hk.1] at g2; exact g2)))) (by decide) (by decide) (Nat.le_of_ble_eq_true rfl) dL_law_956 (fun z1 M1 h1 => ?_)
  have ha : afr M M1 := by
    rcases h1 with ⟨_, _, h⟩ | ⟨_, _, _, h⟩ | ⟨_, _, _, _, h⟩
    · rw [h]; exact afr_refl M
    · rw [h]; exact afr_refl M
    · exact h
  have hr1 : Ref M1 V Hs := ref_cg hr (fun q hq => ha q (by omega))
  have hk1 : Kep M1 Ws kp := kep_cg hk (ha 0 (by decide)) (fun q g1 g2 => ha q (by omega)) (ha 198 (by decide)) (ha 199 (by decide))
  refine x_aload_n G 1 rfl rfl dL_law_959 ?_
  refine x_arg G hS 1 (by decide) hi ha1 dL_law_960 dL_law_961 dL_law_962 dL_law_963 dL_law_964 ?_
  refine x_callVI G [xI z1] [xI a1] rfl (by decide) (ly_n hY 195 (by decide)) (ly_k hY 195 (by decide)) hy_X7_back hi_X7_back hs_X7_back ml_L_110 rfl rfl (kX7_back _ _ V (Ws a1.toNat) a1 hY hr1.1 hc.1.1 (fun g => by rw [(kep_at hk1 g).1]; exact b2i_01) (fun g1 g2 => by rw [(kep_at hk1 g1).1] at g2; exact ⟨((kep_at hk1 g1).2 (b2i_eq1.mp g2)).2.2, ((kep_at hk1 g1).2 (b2i_eq1.mp g2)).2.1.1⟩)) (by decide) (by decide) (Nat.le_of_ble_eq_true rfl) dL_law_965 (fun z2 M2 h2 => ?_)
  rw [hk.1] at h1
  have hz : z1 = z2 := by
    rcases h1 with ⟨c1, g1, _⟩ | ⟨c1, b1, g1, _⟩ | ⟨c1, b1, g1, _⟩ <;> rcases h2 with ⟨c2, g2, _⟩ | ⟨c2, b2, g2, _⟩ | ⟨c2, b2, g2, _⟩ <;> first | exact absurd c2 c1 | exact absurd c1 c2 | exact g1.trans g2.symm | (rw [(kep_at hk1 c1).1] at b2; exact absurd (b2i_eq1.mp b2) b1) | (rw [(kep_at hk1 c1).1] at b2; exact absurd b1 (b2i_eq0.mp b2))
  refine x_icmp_eq G 2082 (by decide) dL_law_968 (fun _ => ?_) (fun c => absurd hz c)
  refine back M2 ?_
  rcases h1 with ⟨c1, _, m1⟩ | ⟨c1, b1, _, m1⟩ | ⟨c1, b1, _, f1, _⟩ <;> rcases h2 with ⟨c2, _, m2⟩ | ⟨c2, b2, _, m2⟩ | ⟨c2, b2, _, m2, t2, n2, a2⟩ <;> first | exact absurd c2 c1 | exact absurd c1 c2 | (subst m2; subst m1; exact ⟨V, Hs, Ws, kp, bt, len, hI⟩) | (rw [(kep_at hk1 c1).1] at b2; exact absurd (b2i_eq1.mp b2) b1) | (rw [(kep_at hk1 c1).1] at b2; exact absurd b1 (b2i_eq0.mp b2)) | exact inv_a hI f1 ha ((kep_at hk c1).2 b1).2.1.1 (fun X hX => absurd hX List.not_mem_nil) m2 t2 (Or.inl n2) a2
set_option maxRecDepth 100000 in
set_option maxHeartbeats 4000000 in
theorem law_23 {Γ : xΓ} (G : xGL Γ) {L9 : Nat} {f : Nat → Int} (hS : xScr Γ L9 f) {T : xT} (hY : LayOK 208 T) {i : Int} (hi : 0 ≤ i ∧ i + 5 < L9) {M : xM} (hI : Both M) (back : ∀ M2, Both M2 → xXL Γ T 2082 i [] M2) : xXL Γ T 973 i [] M := by
  obtain ⟨V, Hs, Ws, kp, bt, len, hI⟩ := hI
  have hc := hI.1
  have hr := hI.2.1
  have hk := hI.2.2.1
  have ht := hI.2.2.2
  obtain ⟨a1, ha1⟩ : ∃ a : Int, a = f (i + 1).toNat := ⟨_, rfl⟩
  obtain ⟨a2, ha2⟩ : ∃ a : Int, a = f (i + 2).toNat := ⟨_, rfl⟩
  refine x_aload_n G 2 rfl rfl dL_law_973 ?_
  refine x_arg G hS 1 (by decide) hi ha1 dL_law_974 dL_law_975 dL_law_976 dL_law_977 dL_law_978 ?_
  refine x_arg G hS 2 (by decide) hi ha2 dL_law_979 dL_law_980 dL_law_981 dL_law_982 dL_law_983 ?_
  refine x_callVI G [] [xI a1, xI a2] rfl (by decide) (ly_n hY 0 (by decide)) (ly_k hY 0 (by decide)) hy_X6_of hi_X6_of hs_X6_of ml_L_111 rfl rfl (kX6_of _ _ V a1 a2 hY hc.2.1 hc.1.1 hc.1.2) (by decide) (by decide) (Nat.le_of_ble_eq_true rfl) dL_law_984 (fun z1 M1 h1 => ?_)
  have hr1 : Ref M1 V Hs := ref_cg hr (fun q hq => h1.2 q (by simp; omega))
  refine x_aload_n G 1 rfl rfl dL_law_987 ?_
  refine x_arg G hS 1 (by decide) hi ha1 dL_law_988 dL_law_989 dL_law_990 dL_law_991 dL_law_992 ?_
  refine x_arg G hS 2 (by decide) hi ha2 dL_law_993 dL_law_994 dL_law_995 dL_law_996 dL_law_997 ?_
  refine x_callVI G [xI z1] [xI a1, xI a2] rfl (by decide) (ly_n hY 195 (by decide)) (ly_k hY 195 (by decide)) hy_X7_of hi_X7_of hs_X7_of ml_L_114 rfl rfl (kX7_of _ _ V a1 a2 hY hr1.1 hc.1.1 hc.1.2 hr1.2.1) (by decide) (by decide) (Nat.le_of_ble_eq_true rfl) dL_law_998 (fun z2 M2 h2 => ?_)
  have hz : z1 = z2 := h1.1.trans h2.1.symm
  refine x_icmp_eq G 2082 (by decide) dL_law_1001 (fun _ => ?_) (fun c => absurd hz c)
  exact back M2 (inv_q hI (xof_w h1.2 (by decide)) h2.2.1 h2.2.2)
set_option maxRecDepth 100000 in
set_option maxHeartbeats 4000000 in
theorem law_24 {Γ : xΓ} (G : xGL Γ) {L9 : Nat} {f : Nat → Int} (hS : xScr Γ L9 f) {T : xT} (hY : LayOK 208 T) {i : Int} (hi : 0 ≤ i ∧ i + 5 < L9) {M : xM} (hI : Both M) (back : ∀ M2, Both M2 → xXL Γ T 2082 i [] M2) : xXL Γ T 1006 i [] M := by
  obtain ⟨V, Hs, Ws, kp, bt, len, hI⟩ := hI
  have hc := hI.1
  have hr := hI.2.1
  have hk := hI.2.2.1
  have ht := hI.2.2.2
  obtain ⟨a1, ha1⟩ : ∃ a : Int, a = f (i + 1).toNat := ⟨_, rfl⟩
  obtain ⟨a2, ha2⟩ : ∃ a : Int, a = f (i + 2).toNat := ⟨_, rfl⟩
  refine x_aload_n G 2 rfl rfl dL_law_1006 ?_
  refine x_arg G hS 1 (by decide) hi ha1 dL_law_1007 dL_law_1008 dL_law_1009 dL_law_1010 dL_law_1011 ?_
  refine x_arg G hS 2 (by decide) hi ha2 dL_law_1012 dL_law_1013 dL_law_1014 dL_law_1015 dL_law_1016 ?_
  refine x_callVI G [] [xI a1, xI a2] rfl (by decide) (ly_n hY 0 (by decide)) (ly_k hY 0 (by decide)) hy_X6_order hi_X6_order hs_X6_order ml_L_115 rfl rfl (kX6_order _ _ V a1 a2 hY hc.2.1 hc.1.1 hc.1.2) (by decide) (by decide) (Nat.le_of_ble_eq_true rfl) dL_law_1017 (fun z1 M1 h1 => ?_)
  have hr1 : Ref M1 V Hs := ref_cg hr (fun q hq => h1.2 q (by simp; omega))
  refine x_aload_n G 1 rfl rfl dL_law_1020 ?_
  refine x_arg G hS 1 (by decide) hi ha1 dL_law_1021 dL_law_1022 dL_law_1023 dL_law_1024 dL_law_1025 ?_
  refine x_arg G hS 2 (by decide) hi ha2 dL_law_1026 dL_law_1027 dL_law_1028 dL_law_1029 dL_law_1030 ?_
  refine x_callVI G [xI z1] [xI a1, xI a2] rfl (by decide) (ly_n hY 195 (by decide)) (ly_k hY 195 (by decide)) hy_X7_order hi_X7_order hs_X7_order ml_L_118 rfl rfl (kX7_order _ _ V a1 a2 hY hr1.1 hc.1.1 hc.1.2 hr1.2.1) (by decide) (by decide) (Nat.le_of_ble_eq_true rfl) dL_law_1031 (fun z2 M2 h2 => ?_)
  have hz : z1 = z2 := h1.1.trans h2.1.symm
  refine x_icmp_eq G 2082 (by decide) dL_law_1034 (fun _ => ?_) (fun c => absurd hz c)
  exact back M2 (inv_q hI (xof_w h1.2 (by decide)) h2.2.1 h2.2.2)
set_option maxRecDepth 100000 in
set_option maxHeartbeats 4000000 in
theorem law_25 {Γ : xΓ} (G : xGL Γ) {L9 : Nat} {f : Nat → Int} (hS : xScr Γ L9 f) {T : xT} (hY : LayOK 208 T) {i : Int} (hi : 0 ≤ i ∧ i + 5 < L9) {M : xM} (hI : Both M) (back : ∀ M2, Both M2 → xXL Γ T 2082 i [] M2) : xXL Γ T 1039 i [] M := by
  obtain ⟨V, Hs, Ws, kp, bt, len, hI⟩ := hI
  have hc := hI.1
  have hr := hI.2.1
  have hk := hI.2.2.1
  have ht := hI.2.2.2
  obtain ⟨a1, ha1⟩ : ∃ a : Int, a = f (i + 1).toNat := ⟨_, rfl⟩
  obtain ⟨a2, ha2⟩ : ∃ a : Int, a = f (i + 2).toNat := ⟨_, rfl⟩
  refine x_aload_n G 2 rfl rfl dL_law_1039 ?_
  refine x_arg G hS 1 (by decide) hi ha1 dL_law_1040 dL_law_1041 dL_law_1042 dL_law_1043 dL_law_1044 ?_
  refine x_arg G hS 2 (by decide) hi ha2 dL_law_1045 dL_law_1046 dL_law_1047 dL_law_1048 dL_law_1049 ?_
  refine x_callVI G [] [xI a1, xI a2] rfl (by decide) (ly_n hY 0 (by decide)) (ly_k hY 0 (by decide)) hy_X6_part hi_X6_part hs_X6_part ml_L_119 rfl rfl (kX6_part _ _ V a1 a2 hY hc.2.1 hc.1.1 hc.1.2) (by decide) (by decide) (Nat.le_of_ble_eq_true rfl) dL_law_1050 (fun z1 M1 h1 => ?_)
  have hr1 : Ref M1 V Hs := ref_cg hr (fun q hq => h1.2 q (by simp; omega))
  refine x_aload_n G 1 rfl rfl dL_law_1053 ?_
  refine x_arg G hS 1 (by decide) hi ha1 dL_law_1054 dL_law_1055 dL_law_1056 dL_law_1057 dL_law_1058 ?_
  refine x_arg G hS 2 (by decide) hi ha2 dL_law_1059 dL_law_1060 dL_law_1061 dL_law_1062 dL_law_1063 ?_
  refine x_callVI G [xI z1] [xI a1, xI a2] rfl (by decide) (ly_n hY 195 (by decide)) (ly_k hY 195 (by decide)) hy_X7_part hi_X7_part hs_X7_part ml_L_122 rfl rfl (kX7_part _ _ V a1 a2 hY hr1.1 hc.1.1 hc.1.2 hr1.2.1) (by decide) (by decide) (Nat.le_of_ble_eq_true rfl) dL_law_1064 (fun z2 M2 h2 => ?_)
  have hz : z1 = z2 := one_part h1.1 h2.1
  refine x_icmp_eq G 2082 (by decide) dL_law_1067 (fun _ => ?_) (fun c => absurd hz c)
  exact back M2 (inv_q hI (xof_w h1.2 (by decide)) h2.2.1 h2.2.2)
set_option maxRecDepth 100000 in
set_option maxHeartbeats 4000000 in
theorem law_26 {Γ : xΓ} (G : xGL Γ) {L9 : Nat} {f : Nat → Int} (hS : xScr Γ L9 f) {T : xT} (hY : LayOK 208 T) {i : Int} (hi : 0 ≤ i ∧ i + 5 < L9) {M : xM} (hI : Both M) (back : ∀ M2, Both M2 → xXL Γ T 2082 i [] M2) : xXL Γ T 1072 i [] M := by
  obtain ⟨V, Hs, Ws, kp, bt, len, hI⟩ := hI
  have hc := hI.1
  have hr := hI.2.1
  have hk := hI.2.2.1
  have ht := hI.2.2.2
  obtain ⟨a1, ha1⟩ : ∃ a : Int, a = f (i + 1).toNat := ⟨_, rfl⟩
  obtain ⟨a2, ha2⟩ : ∃ a : Int, a = f (i + 2).toNat := ⟨_, rfl⟩
  refine x_aload_n G 2 rfl rfl dL_law_1072 ?_
  refine x_arg G hS 1 (by decide) hi ha1 dL_law_1073 dL_law_1074 dL_law_1075 dL_law_1076 dL_law_1077 ?_
  refine x_arg G hS 2 (by decide) hi ha2 dL_law_1078 dL_law_1079 dL_law_1080 dL_law_1081 dL_law_1082 ?_
  refine x_callVI G [] [xI a1, xI a2] rfl (by decide) (ly_n hY 0 (by decide)) (ly_k hY 0 (by decide)) hy_X6_sample hi_X6_sample hs_X6_sample ml_L_123 rfl rfl (kX6_sample _ _ V a1 a2 hY hc.2.1 hc.1.1 hc.1.2) (by decide) (by decide) (Nat.le_of_ble_eq_true rfl) dL_law_1083 (fun z1 M1 h1 => ?_)
  have hr1 : Ref M1 V Hs := ref_cg hr (fun q hq => h1.2 q (by simp; omega))
  refine x_aload_n G 1 rfl rfl dL_law_1086 ?_
  refine x_arg G hS 1 (by decide) hi ha1 dL_law_1087 dL_law_1088 dL_law_1089 dL_law_1090 dL_law_1091 ?_
  refine x_arg G hS 2 (by decide) hi ha2 dL_law_1092 dL_law_1093 dL_law_1094 dL_law_1095 dL_law_1096 ?_
  refine x_callVI G [xI z1] [xI a1, xI a2] rfl (by decide) (ly_n hY 195 (by decide)) (ly_k hY 195 (by decide)) hy_X7_sample hi_X7_sample hs_X7_sample ml_L_126 rfl rfl (kX7_sample _ _ V a1 a2 hY hr1.1 hc.1.1 hc.1.2 hr1.2.1) (by decide) (by decide) (Nat.le_of_ble_eq_true rfl) dL_law_1097 (fun z2 M2 h2 => ?_)
  have hz : z1 = z2 := h1.1.trans h2.1.symm
  refine x_icmp_eq G 2082 (by decide) dL_law_1100 (fun _ => ?_) (fun c => absurd hz c)
  exact back M2 (inv_q hI (xof_w h1.2 (by decide)) h2.2.1 h2.2.2)
set_option maxRecDepth 100000 in
set_option maxHeartbeats 4000000 in
theorem law_27 {Γ : xΓ} (G : xGL Γ) {L9 : Nat} {f : Nat → Int} (hS : xScr Γ L9 f) {T : xT} (hY : LayOK 208 T) {i : Int} (hi : 0 ≤ i ∧ i + 5 < L9) {M : xM} (hI : Both M) (back : ∀ M2, Both M2 → xXL Γ T 2082 i [] M2) : xXL Γ T 1105 i [] M := by
  obtain ⟨V, Hs, Ws, kp, bt, len, hI⟩ := hI
  have hc := hI.1
  have hr := hI.2.1
  have hk := hI.2.2.1
  have ht := hI.2.2.2
  obtain ⟨a1, ha1⟩ : ∃ a : Int, a = f (i + 1).toNat := ⟨_, rfl⟩
  obtain ⟨a2, ha2⟩ : ∃ a : Int, a = f (i + 2).toNat := ⟨_, rfl⟩
  obtain ⟨a3, ha3⟩ : ∃ a : Int, a = f (i + 3).toNat := ⟨_, rfl⟩
  refine x_aload_n G 2 rfl rfl dL_law_1105 ?_
  refine x_arg G hS 1 (by decide) hi ha1 dL_law_1106 dL_law_1107 dL_law_1108 dL_law_1109 dL_law_1110 ?_
  refine x_arg G hS 2 (by decide) hi ha2 dL_law_1111 dL_law_1112 dL_law_1113 dL_law_1114 dL_law_1115 ?_
  refine x_arg G hS 3 (by decide) hi ha3 dL_law_1116 dL_law_1117 dL_law_1118 dL_law_1119 dL_law_1120 ?_
  refine x_callVI G [] [xI a1, xI a2, xI a3] rfl (by decide) (ly_n hY 0 (by decide)) (ly_k hY 0 (by decide)) hy_X6_merged hi_X6_merged hs_X6_merged ml_L_127 rfl rfl (kX6_merged _ _ V a1 a2 a3 hY hc.2.1 hc.1.1 hc.1.2) (by decide) (by decide) (Nat.le_of_ble_eq_true rfl) dL_law_1121 (fun z1 M1 h1 => ?_)
  have hr1 : Ref M1 V Hs := ref_cg hr (fun q hq => h1.2 q (by simp; omega))
  refine x_aload_n G 1 rfl rfl dL_law_1124 ?_
  refine x_arg G hS 1 (by decide) hi ha1 dL_law_1125 dL_law_1126 dL_law_1127 dL_law_1128 dL_law_1129 ?_
  refine x_arg G hS 2 (by decide) hi ha2 dL_law_1130 dL_law_1131 dL_law_1132 dL_law_1133 dL_law_1134 ?_
  refine x_arg G hS 3 (by decide) hi ha3 dL_law_1135 dL_law_1136 dL_law_1137 dL_law_1138 dL_law_1139 ?_
  refine x_callVI G [xI z1] [xI a1, xI a2, xI a3] rfl (by decide) (ly_n hY 195 (by decide)) (ly_k hY 195 (by decide)) hy_X7_merged hi_X7_merged hs_X7_merged ml_L_130 rfl rfl (kX7_merged _ _ V a1 a2 a3 hY hr1.1 hc.1.1 hc.1.2 hr1.2.1) (by decide) (by decide) (Nat.le_of_ble_eq_true rfl) dL_law_1140 (fun z2 M2 h2 => ?_)
  have hz : z1 = z2 := h1.1.trans h2.1.symm
  refine x_icmp_eq G 2082 (by decide) dL_law_1143 (fun _ => ?_) (fun c => absurd hz c)
  exact back M2 (inv_q hI (xof_w h1.2 (by decide)) h2.2.1 h2.2.2)
set_option maxRecDepth 100000 in
set_option maxHeartbeats 4000000 in
theorem law_28 {Γ : xΓ} (G : xGL Γ) {L9 : Nat} {f : Nat → Int} (hS : xScr Γ L9 f) {T : xT} (hY : LayOK 208 T) {i : Int} (hi : 0 ≤ i ∧ i + 5 < L9) {M : xM} (hI : Both M) (back : ∀ M2, Both M2 → xXL Γ T 2082 i [] M2) : xXL Γ T 1148 i [] M := by
  obtain ⟨V, Hs, Ws, kp, bt, len, hI⟩ := hI
  have hc := hI.1
  have hr := hI.2.1
  have hk := hI.2.2.1
  have ht := hI.2.2.2
  obtain ⟨a1, ha1⟩ : ∃ a : Int, a = f (i + 1).toNat := ⟨_, rfl⟩
  obtain ⟨a2, ha2⟩ : ∃ a : Int, a = f (i + 2).toNat := ⟨_, rfl⟩
  obtain ⟨a3, ha3⟩ : ∃ a : Int, a = f (i + 3).toNat := ⟨_, rfl⟩
  refine x_aload_n G 2 rfl rfl dL_law_1148 ?_
  refine x_arg G hS 1 (by decide) hi ha1 dL_law_1149 dL_law_1150 dL_law_1151 dL_law_1152 dL_law_1153 ?_
  refine x_arg G hS 2 (by decide) hi ha2 dL_law_1154 dL_law_1155 dL_law_1156 dL_law_1157 dL_law_1158 ?_
  refine x_arg G hS 3 (by decide) hi ha3 dL_law_1159 dL_law_1160 dL_law_1161 dL_law_1162 dL_law_1163 ?_
  refine x_callVI G [] [xI a1, xI a2, xI a3] rfl (by decide) (ly_n hY 0 (by decide)) (ly_k hY 0 (by decide)) hy_X6_partOf hi_X6_partOf hs_X6_partOf ml_L_131 rfl rfl (kX6_partOf _ _ V a1 a2 a3 hY hc.2.1 hc.1.1 hc.1.2) (by decide) (by decide) (Nat.le_of_ble_eq_true rfl) dL_law_1164 (fun z1 M1 h1 => ?_)
  have hr1 : Ref M1 V Hs := ref_cg hr (fun q hq => h1.2 q (by simp; omega))
  refine x_aload_n G 1 rfl rfl dL_law_1167 ?_
  refine x_arg G hS 1 (by decide) hi ha1 dL_law_1168 dL_law_1169 dL_law_1170 dL_law_1171 dL_law_1172 ?_
  refine x_arg G hS 2 (by decide) hi ha2 dL_law_1173 dL_law_1174 dL_law_1175 dL_law_1176 dL_law_1177 ?_
  refine x_arg G hS 3 (by decide) hi ha3 dL_law_1178 dL_law_1179 dL_law_1180 dL_law_1181 dL_law_1182 ?_
  refine x_callVI G [xI z1] [xI a1, xI a2, xI a3] rfl (by decide) (ly_n hY 195 (by decide)) (ly_k hY 195 (by decide)) hy_X7_partOf hi_X7_partOf hs_X7_partOf ml_L_134 rfl rfl (kX7_partOf _ _ V a1 a2 a3 hY hr1.1 hc.1.1 hc.1.2 hr1.2.1) (by decide) (by decide) (Nat.le_of_ble_eq_true rfl) dL_law_1183 (fun z2 M2 h2 => ?_)
  have hz : z1 = z2 := h1.1.trans h2.1.symm
  refine x_icmp_eq G 2082 (by decide) dL_law_1186 (fun _ => ?_) (fun c => absurd hz c)
  exact back M2 (inv_q hI (xof_w h1.2 (by decide)) h2.2.1 h2.2.2)
set_option maxRecDepth 100000 in
set_option maxHeartbeats 4000000 in
theorem law_29 {Γ : xΓ} (G : xGL Γ) {L9 : Nat} {f : Nat → Int} (hS : xScr Γ L9 f) {T : xT} (hY : LayOK 208 T) {i : Int} (hi : 0 ≤ i ∧ i + 5 < L9) {M : xM} (hI : Both M) (back : ∀ M2, Both M2 → xXL Γ T 2082 i [] M2) : xXL Γ T 1191 i [] M := by
  obtain ⟨V, Hs, Ws, kp, bt, len, hI⟩ := hI
  have hc := hI.1
  have hr := hI.2.1
  have hk := hI.2.2.1
  have ht := hI.2.2.2
  obtain ⟨a1, ha1⟩ : ∃ a : Int, a = f (i + 1).toNat := ⟨_, rfl⟩
  obtain ⟨a2, ha2⟩ : ∃ a : Int, a = f (i + 2).toNat := ⟨_, rfl⟩
  obtain ⟨a3, ha3⟩ : ∃ a : Int, a = f (i + 3).toNat := ⟨_, rfl⟩
  refine x_aload_n G 2 rfl rfl dL_law_1191 ?_
  refine x_arg G hS 1 (by decide) hi ha1 dL_law_1192 dL_law_1193 dL_law_1194 dL_law_1195 dL_law_1196 ?_
  refine x_arg G hS 2 (by decide) hi ha2 dL_law_1197 dL_law_1198 dL_law_1199 dL_law_1200 dL_law_1201 ?_
  refine x_arg G hS 3 (by decide) hi ha3 dL_law_1202 dL_law_1203 dL_law_1204 dL_law_1205 dL_law_1206 ?_
  refine x_callVI G [] [xI a1, xI a2, xI a3] rfl (by decide) (ly_n hY 0 (by decide)) (ly_k hY 0 (by decide)) hy_X6_capped hi_X6_capped hs_X6_capped ml_L_135 rfl rfl (kX6_capped _ _ V a1 a2 a3 hY hc.2.1 hc.1.1 hc.1.2) (by decide) (by decide) (Nat.le_of_ble_eq_true rfl) dL_law_1207 (fun z1 M1 h1 => ?_)
  have hr1 : Ref M1 V Hs := ref_cg hr (fun q hq => h1.2 q (by simp; omega))
  refine x_aload_n G 1 rfl rfl dL_law_1210 ?_
  refine x_arg G hS 1 (by decide) hi ha1 dL_law_1211 dL_law_1212 dL_law_1213 dL_law_1214 dL_law_1215 ?_
  refine x_arg G hS 2 (by decide) hi ha2 dL_law_1216 dL_law_1217 dL_law_1218 dL_law_1219 dL_law_1220 ?_
  refine x_arg G hS 3 (by decide) hi ha3 dL_law_1221 dL_law_1222 dL_law_1223 dL_law_1224 dL_law_1225 ?_
  refine x_callVI G [xI z1] [xI a1, xI a2, xI a3] rfl (by decide) (ly_n hY 195 (by decide)) (ly_k hY 195 (by decide)) hy_X7_capped hi_X7_capped hs_X7_capped ml_L_138 rfl rfl (kX7_capped _ _ V a1 a2 a3 hY hr1.1 hc.1.1 hc.1.2 hr1.2.1) (by decide) (by decide) (Nat.le_of_ble_eq_true rfl) dL_law_1226 (fun z2 M2 h2 => ?_)
  have hz : z1 = z2 := h1.1.trans h2.1.symm
  refine x_icmp_eq G 2082 (by decide) dL_law_1229 (fun _ => ?_) (fun c => absurd hz c)
  exact back M2 (inv_q hI (xof_w h1.2 (by decide)) h2.2.1 h2.2.2)
set_option maxRecDepth 100000 in
set_option maxHeartbeats 4000000 in
theorem law_30 {Γ : xΓ} (G : xGL Γ) {L9 : Nat} {f : Nat → Int} (hS : xScr Γ L9 f) {T : xT} (hY : LayOK 208 T) {i : Int} (hi : 0 ≤ i ∧ i + 5 < L9) {M : xM} (hI : Both M) (back : ∀ M2, Both M2 → xXL Γ T 2082 i [] M2) : xXL Γ T 1234 i [] M := by
  obtain ⟨V, Hs, Ws, kp, bt, len, hI⟩ := hI
  have hc := hI.1
  have hr := hI.2.1
  have hk := hI.2.2.1
  have ht := hI.2.2.2
  obtain ⟨a1, ha1⟩ : ∃ a : Int, a = f (i + 1).toNat := ⟨_, rfl⟩
  refine x_aload_n G 2 rfl rfl dL_law_1234 ?_
  refine x_arg G hS 1 (by decide) hi ha1 dL_law_1235 dL_law_1236 dL_law_1237 dL_law_1238 dL_law_1239 ?_
  refine x_callVI G [] [xI a1] rfl (by decide) (ly_n hY 0 (by decide)) (ly_k hY 0 (by decide)) hy_X6_last hi_X6_last hs_X6_last ml_L_139 rfl rfl (kX6_last _ _ V a1 hY hc.2.1 hc.1.1 hc.1.2) (by decide) (by decide) (Nat.le_of_ble_eq_true rfl) dL_law_1240 (fun z1 M1 h1 => ?_)
  have hr1 : Ref M1 V Hs := ref_cg hr (fun q hq => h1.2 q (by simp; omega))
  refine x_aload_n G 1 rfl rfl dL_law_1243 ?_
  refine x_arg G hS 1 (by decide) hi ha1 dL_law_1244 dL_law_1245 dL_law_1246 dL_law_1247 dL_law_1248 ?_
  refine x_callVI G [xI z1] [xI a1] rfl (by decide) (ly_n hY 195 (by decide)) (ly_k hY 195 (by decide)) hy_X7_last hi_X7_last hs_X7_last ml_L_142 rfl rfl (kX7_last _ _ V a1 hY hr1.1 hc.1.1 hc.1.2 hr1.2.1) (by decide) (by decide) (Nat.le_of_ble_eq_true rfl) dL_law_1249 (fun z2 M2 h2 => ?_)
  have hz : z1 = z2 := h1.1.trans h2.1.symm
  refine x_icmp_eq G 2082 (by decide) dL_law_1252 (fun _ => ?_) (fun c => absurd hz c)
  exact back M2 (inv_q hI (xof_w h1.2 (by decide)) h2.2.1 h2.2.2)
set_option maxRecDepth 100000 in
set_option maxHeartbeats 4000000 in
theorem law_31 {Γ : xΓ} (G : xGL Γ) {L9 : Nat} {f : Nat → Int} (hS : xScr Γ L9 f) {T : xT} (hY : LayOK 208 T) {i : Int} (hi : 0 ≤ i ∧ i + 5 < L9) {M : xM} (hI : Both M) (back : ∀ M2, Both M2 → xXL Γ T 2082 i [] M2) : xXL Γ T 1257 i [] M := by
  obtain ⟨V, Hs, Ws, kp, bt, len, hI⟩ := hI
  have hc := hI.1
  have hr := hI.2.1
  have hk := hI.2.2.1
  have ht := hI.2.2.2
  obtain ⟨a1, ha1⟩ : ∃ a : Int, a = f (i + 1).toNat := ⟨_, rfl⟩
  obtain ⟨a2, ha2⟩ : ∃ a : Int, a = f (i + 2).toNat := ⟨_, rfl⟩
  refine x_aload_n G 2 rfl rfl dL_law_1257 ?_
  refine x_arg G hS 1 (by decide) hi ha1 dL_law_1258 dL_law_1259 dL_law_1260 dL_law_1261 dL_law_1262 ?_
  refine x_arg G hS 2 (by decide) hi ha2 dL_law_1263 dL_law_1264 dL_law_1265 dL_law_1266 dL_law_1267 ?_
  refine x_callVI G [] [xI a1, xI a2] rfl (by decide) (ly_n hY 0 (by decide)) (ly_k hY 0 (by decide)) hy_X6_needs hi_X6_needs hs_X6_needs ml_L_143 rfl rfl (kX6_needs _ _ V a1 a2 hY hc.2.1 hc.1.1 hc.1.2) (by decide) (by decide) (Nat.le_of_ble_eq_true rfl) dL_law_1268 (fun z1 M1 h1 => ?_)
  have hr1 : Ref M1 V Hs := ref_cg hr (fun q hq => h1.2 q (by simp; omega))
  refine x_aload_n G 1 rfl rfl dL_law_1271 ?_
  refine x_arg G hS 1 (by decide) hi ha1 dL_law_1272 dL_law_1273 dL_law_1274 dL_law_1275 dL_law_1276 ?_
  refine x_arg G hS 2 (by decide) hi ha2 dL_law_1277 dL_law_1278 dL_law_1279 dL_law_1280 dL_law_1281 ?_
  refine x_callVI G [xI z1] [xI a1, xI a2] rfl (by decide) (ly_n hY 195 (by decide)) (ly_k hY 195 (by decide)) hy_X7_needs hi_X7_needs hs_X7_needs ml_L_146 rfl rfl (kX7_needs _ _ V a1 a2 hY hr1.1 hc.1.1 hc.1.2 hr1.2.1) (by decide) (by decide) (Nat.le_of_ble_eq_true rfl) dL_law_1282 (fun z2 M2 h2 => ?_)
  have hz : z1 = z2 := one_needs h1.1 h2.1
  refine x_icmp_eq G 2082 (by decide) dL_law_1285 (fun _ => ?_) (fun c => absurd hz c)
  exact back M2 (inv_q hI (xof_w h1.2 (by decide)) h2.2.1 h2.2.2)
set_option maxRecDepth 100000 in
set_option maxHeartbeats 4000000 in
theorem law_32 {Γ : xΓ} (G : xGL Γ) {L9 : Nat} {f : Nat → Int} (hS : xScr Γ L9 f) {T : xT} (hY : LayOK 208 T) {i : Int} (hi : 0 ≤ i ∧ i + 5 < L9) {M : xM} (hI : Both M) (back : ∀ M2, Both M2 → xXL Γ T 2082 i [] M2) : xXL Γ T 1290 i [] M := by
  obtain ⟨V, Hs, Ws, kp, bt, len, hI⟩ := hI
  have hc := hI.1
  have hr := hI.2.1
  have hk := hI.2.2.1
  have ht := hI.2.2.2
  obtain ⟨a1, ha1⟩ : ∃ a : Int, a = f (i + 1).toNat := ⟨_, rfl⟩
  obtain ⟨a2, ha2⟩ : ∃ a : Int, a = f (i + 2).toNat := ⟨_, rfl⟩
  refine x_aload_n G 2 rfl rfl dL_law_1290 ?_
  refine x_arg G hS 1 (by decide) hi ha1 dL_law_1291 dL_law_1292 dL_law_1293 dL_law_1294 dL_law_1295 ?_
  refine x_arg G hS 2 (by decide) hi ha2 dL_law_1296 dL_law_1297 dL_law_1298 dL_law_1299 dL_law_1300 ?_
  refine x_callVI G [] [xI a1, xI a2] rfl (by decide) (ly_n hY 0 (by decide)) (ly_k hY 0 (by decide)) hy_X6_heavy hi_X6_heavy hs_X6_heavy ml_L_147 rfl rfl (kX6_heavy _ _ V a1 a2 hY hc.2.1 hc.1.1 hc.1.2) (by decide) (by decide) (Nat.le_of_ble_eq_true rfl) dL_law_1301 (fun z1 M1 h1 => ?_)
  have hr1 : Ref M1 V Hs := ref_cg hr (fun q hq => h1.2 q (by simp; omega))
  refine x_aload_n G 1 rfl rfl dL_law_1304 ?_
  refine x_arg G hS 1 (by decide) hi ha1 dL_law_1305 dL_law_1306 dL_law_1307 dL_law_1308 dL_law_1309 ?_
  refine x_arg G hS 2 (by decide) hi ha2 dL_law_1310 dL_law_1311 dL_law_1312 dL_law_1313 dL_law_1314 ?_
  refine x_callVI G [xI z1] [xI a1, xI a2] rfl (by decide) (ly_n hY 195 (by decide)) (ly_k hY 195 (by decide)) hy_X7_heavy hi_X7_heavy hs_X7_heavy ml_L_150 rfl rfl (kX7_heavy _ _ V a1 a2 hY hr1.1 hc.1.1 hc.1.2 hr1.2.1) (by decide) (by decide) (Nat.le_of_ble_eq_true rfl) dL_law_1315 (fun z2 M2 h2 => ?_)
  have hz : z1 = z2 := one_heavy h1.1 h2.1
  refine x_icmp_eq G 2082 (by decide) dL_law_1318 (fun _ => ?_) (fun c => absurd hz c)
  exact back M2 (inv_q hI (xof_w h1.2 (by decide)) h2.2.1 h2.2.2)
set_option maxRecDepth 100000 in
set_option maxHeartbeats 4000000 in
theorem law_33 {Γ : xΓ} (G : xGL Γ) {L9 : Nat} {f : Nat → Int} (hS : xScr Γ L9 f) {T : xT} (hY : LayOK 208 T) {i : Int} (hi : 0 ≤ i ∧ i + 5 < L9) {M : xM} (hI : Both M) (back : ∀ M2, Both M2 → xXL Γ T 2082 i [] M2) : xXL Γ T 1323 i [] M := by
  obtain ⟨V, Hs, Ws, kp, bt, len, hI⟩ := hI
  have hc := hI.1
  have hr := hI.2.1
  have hk := hI.2.2.1
  have ht := hI.2.2.2
  obtain ⟨a1, ha1⟩ : ∃ a : Int, a = f (i + 1).toNat := ⟨_, rfl⟩
  obtain ⟨a2, ha2⟩ : ∃ a : Int, a = f (i + 2).toNat := ⟨_, rfl⟩
  refine x_aload_n G 2 rfl rfl dL_law_1323 ?_
  refine x_arg G hS 1 (by decide) hi ha1 dL_law_1324 dL_law_1325 dL_law_1326 dL_law_1327 dL_law_1328 ?_
  refine x_arg G hS 2 (by decide) hi ha2 dL_law_1329 dL_law_1330 dL_law_1331 dL_law_1332 dL_law_1333 ?_
  refine x_callVI G [] [xI a1, xI a2] rfl (by decide) (ly_n hY 0 (by decide)) (ly_k hY 0 (by decide)) hy_X6_skip hi_X6_skip hs_X6_skip ml_L_151 rfl rfl (kX6_skip _ _ V a1 a2 hY hc.2.1 hc.1.1 hc.1.2) (by decide) (by decide) (Nat.le_of_ble_eq_true rfl) dL_law_1334 (fun z1 M1 h1 => ?_)
  have hr1 : Ref M1 V Hs := ref_cg hr (fun q hq => h1.2 q (by simp; omega))
  refine x_aload_n G 1 rfl rfl dL_law_1337 ?_
  refine x_arg G hS 1 (by decide) hi ha1 dL_law_1338 dL_law_1339 dL_law_1340 dL_law_1341 dL_law_1342 ?_
  refine x_arg G hS 2 (by decide) hi ha2 dL_law_1343 dL_law_1344 dL_law_1345 dL_law_1346 dL_law_1347 ?_
  refine x_callVI G [xI z1] [xI a1, xI a2] rfl (by decide) (ly_n hY 195 (by decide)) (ly_k hY 195 (by decide)) hy_X7_skip hi_X7_skip hs_X7_skip ml_L_154 rfl rfl (kX7_skip _ _ V a1 a2 hY hr1.1 hc.1.1 hc.1.2 hr1.2.1) (by decide) (by decide) (Nat.le_of_ble_eq_true rfl) dL_law_1348 (fun z2 M2 h2 => ?_)
  have hz : z1 = z2 := one_skip h1.1 h2.1
  refine x_icmp_eq G 2082 (by decide) dL_law_1351 (fun _ => ?_) (fun c => absurd hz c)
  exact back M2 (inv_q hI (xof_w h1.2 (by decide)) h2.2.1 h2.2.2)
set_option maxRecDepth 100000 in
set_option maxHeartbeats 4000000 in
theorem law_34 {Γ : xΓ} (G : xGL Γ) {L9 : Nat} {f : Nat → Int} (hS : xScr Γ L9 f) {T : xT} (hY : LayOK 208 T) {i : Int} (hi : 0 ≤ i ∧ i + 5 < L9) {M : xM} (hI : Both M) (back : ∀ M2, Both M2 → xXL Γ T 2082 i [] M2) : xXL Γ T 1356 i [] M := by
  obtain ⟨V, Hs, Ws, kp, bt, len, hI⟩ := hI
  have hc := hI.1
  have hr := hI.2.1
  have hk := hI.2.2.1
  have ht := hI.2.2.2
  obtain ⟨a1, ha1⟩ : ∃ a : Int, a = f (i + 1).toNat := ⟨_, rfl⟩
  obtain ⟨a2, ha2⟩ : ∃ a : Int, a = f (i + 2).toNat := ⟨_, rfl⟩
  refine x_aload_n G 2 rfl rfl dL_law_1356 ?_
  refine x_arg G hS 1 (by decide) hi ha1 dL_law_1357 dL_law_1358 dL_law_1359 dL_law_1360 dL_law_1361 ?_
  refine x_arg G hS 2 (by decide) hi ha2 dL_law_1362 dL_law_1363 dL_law_1364 dL_law_1365 dL_law_1366 ?_
  refine x_callVI G [] [xI a1, xI a2] rfl (by decide) (ly_n hY 0 (by decide)) (ly_k hY 0 (by decide)) hy_X6_lots hi_X6_lots hs_X6_lots ml_L_155 rfl rfl (kX6_lots _ _ V a1 a2 hY hc.2.1 hc.1.1 hc.1.2) (by decide) (by decide) (Nat.le_of_ble_eq_true rfl) dL_law_1367 (fun z1 M1 h1 => ?_)
  have hr1 : Ref M1 V Hs := ref_cg hr (fun q hq => h1.2 q (by simp; omega))
  refine x_aload_n G 1 rfl rfl dL_law_1370 ?_
  refine x_arg G hS 1 (by decide) hi ha1 dL_law_1371 dL_law_1372 dL_law_1373 dL_law_1374 dL_law_1375 ?_
  refine x_arg G hS 2 (by decide) hi ha2 dL_law_1376 dL_law_1377 dL_law_1378 dL_law_1379 dL_law_1380 ?_
  refine x_callVI G [xI z1] [xI a1, xI a2] rfl (by decide) (ly_n hY 195 (by decide)) (ly_k hY 195 (by decide)) hy_X7_lots hi_X7_lots hs_X7_lots ml_L_158 rfl rfl (kX7_lots _ _ V a1 a2 hY hr1.1 hc.1.1 hc.1.2 hr1.2.1) (by decide) (by decide) (Nat.le_of_ble_eq_true rfl) dL_law_1381 (fun z2 M2 h2 => ?_)
  have hz : z1 = z2 := one_lots h1.1 h2.1
  refine x_icmp_eq G 2082 (by decide) dL_law_1384 (fun _ => ?_) (fun c => absurd hz c)
  exact back M2 (inv_q hI (xof_w h1.2 (by decide)) h2.2.1 h2.2.2)
set_option maxRecDepth 100000 in
set_option maxHeartbeats 4000000 in
theorem law_35 {Γ : xΓ} (G : xGL Γ) {L9 : Nat} {f : Nat → Int} (hS : xScr Γ L9 f) {T : xT} (hY : LayOK 208 T) {i : Int} (hi : 0 ≤ i ∧ i + 5 < L9) {M : xM} (hI : Both M) (back : ∀ M2, Both M2 → xXL Γ T 2082 i [] M2) : xXL Γ T 1389 i [] M := by
  obtain ⟨V, Hs, Ws, kp, bt, len, hI⟩ := hI
  have hc := hI.1
  have hr := hI.2.1
  have hk := hI.2.2.1
  have ht := hI.2.2.2
  obtain ⟨a1, ha1⟩ : ∃ a : Int, a = f (i + 1).toNat := ⟨_, rfl⟩
  refine x_aload_n G 2 rfl rfl dL_law_1389 ?_
  refine x_arg G hS 1 (by decide) hi ha1 dL_law_1390 dL_law_1391 dL_law_1392 dL_law_1393 dL_law_1394 ?_
  refine x_callVI G [] [xI a1] rfl (by decide) (ly_n hY 0 (by decide)) (ly_k hY 0 (by decide)) hy_X6_nextLot hi_X6_nextLot hs_X6_nextLot ml_L_159 rfl rfl (kX6_nextLot _ _ V a1 hY hc.2.1 hc.1.1 hc.1.2) (by decide) (by decide) (Nat.le_of_ble_eq_true rfl) dL_law_1395 (fun z1 M1 h1 => ?_)
  have hr1 : Ref M1 V Hs := ref_cg hr (fun q hq => h1.2 q (by simp; omega))
  refine x_aload_n G 1 rfl rfl dL_law_1398 ?_
  refine x_arg G hS 1 (by decide) hi ha1 dL_law_1399 dL_law_1400 dL_law_1401 dL_law_1402 dL_law_1403 ?_
  refine x_callVI G [xI z1] [xI a1] rfl (by decide) (ly_n hY 195 (by decide)) (ly_k hY 195 (by decide)) hy_X7_nextLot hi_X7_nextLot hs_X7_nextLot ml_L_162 rfl rfl (kX7_nextLot _ _ V a1 hY hr1.1 hc.1.1 hc.1.2 hr1.2.1) (by decide) (by decide) (Nat.le_of_ble_eq_true rfl) dL_law_1404 (fun z2 M2 h2 => ?_)
  have hz : z1 = z2 := h1.1.trans h2.1.symm
  refine x_icmp_eq G 2082 (by decide) dL_law_1407 (fun _ => ?_) (fun c => absurd hz c)
  exact back M2 (inv_q hI (xof_w h1.2 (by decide)) h2.2.1 h2.2.2)
set_option maxRecDepth 100000 in
set_option maxHeartbeats 4000000 in
theorem law_36 {Γ : xΓ} (G : xGL Γ) {L9 : Nat} {f : Nat → Int} (hS : xScr Γ L9 f) {T : xT} (hY : LayOK 208 T) {i : Int} (hi : 0 ≤ i ∧ i + 5 < L9) {M : xM} (hI : Both M) (back : ∀ M2, Both M2 → xXL Γ T 2082 i [] M2) : xXL Γ T 1412 i [] M := by
  obtain ⟨V, Hs, Ws, kp, bt, len, hI⟩ := hI
  have hc := hI.1
  have hr := hI.2.1
  have hk := hI.2.2.1
  have ht := hI.2.2.2
  obtain ⟨a1, ha1⟩ : ∃ a : Int, a = f (i + 1).toNat := ⟨_, rfl⟩
  obtain ⟨a2, ha2⟩ : ∃ a : Int, a = f (i + 2).toNat := ⟨_, rfl⟩
  refine x_aload_n G 2 rfl rfl dL_law_1412 ?_
  refine x_arg G hS 1 (by decide) hi ha1 dL_law_1413 dL_law_1414 dL_law_1415 dL_law_1416 dL_law_1417 ?_
  refine x_arg G hS 2 (by decide) hi ha2 dL_law_1418 dL_law_1419 dL_law_1420 dL_law_1421 dL_law_1422 ?_
  refine x_callVI G [] [xI a1, xI a2] rfl (by decide) (ly_n hY 0 (by decide)) (ly_k hY 0 (by decide)) hy_X6_kinds hi_X6_kinds hs_X6_kinds ml_L_163 rfl rfl (kX6_kinds _ _ V a1 a2 hY hc.2.1 hc.1.1 hc.1.2) (by decide) (by decide) (Nat.le_of_ble_eq_true rfl) dL_law_1423 (fun z1 M1 h1 => ?_)
  have hr1 : Ref M1 V Hs := ref_cg hr (fun q hq => h1.2 q (by simp; omega))
  refine x_aload_n G 1 rfl rfl dL_law_1426 ?_
  refine x_arg G hS 1 (by decide) hi ha1 dL_law_1427 dL_law_1428 dL_law_1429 dL_law_1430 dL_law_1431 ?_
  refine x_arg G hS 2 (by decide) hi ha2 dL_law_1432 dL_law_1433 dL_law_1434 dL_law_1435 dL_law_1436 ?_
  refine x_callVI G [xI z1] [xI a1, xI a2] rfl (by decide) (ly_n hY 195 (by decide)) (ly_k hY 195 (by decide)) hy_X7_kinds hi_X7_kinds hs_X7_kinds ml_L_166 rfl rfl (kX7_kinds _ _ V a1 a2 hY hr1.1 hc.1.1 hc.1.2 hr1.2.1) (by decide) (by decide) (Nat.le_of_ble_eq_true rfl) dL_law_1437 (fun z2 M2 h2 => ?_)
  have hz : z1 = z2 := h1.1.trans h2.1.symm
  refine x_icmp_eq G 2082 (by decide) dL_law_1440 (fun _ => ?_) (fun c => absurd hz c)
  exact back M2 (inv_q hI (xof_w h1.2 (by decide)) h2.2.1 h2.2.2)
set_option maxRecDepth 100000 in
set_option maxHeartbeats 4000000 in
theorem law_37 {Γ : xΓ} (G : xGL Γ) {L9 : Nat} {f : Nat → Int} (hS : xScr Γ L9 f) {T : xT} (hY : LayOK 208 T) {i : Int} (hi : 0 ≤ i ∧ i + 5 < L9) {M : xM} (hI : Both M) (back : ∀ M2, Both M2 → xXL Γ T 2082 i [] M2) : xXL Γ T 1445 i [] M := by
  obtain ⟨V, Hs, Ws, kp, bt, len, hI⟩ := hI
  have hc := hI.1
  have hr := hI.2.1
  have hk := hI.2.2.1
  have ht := hI.2.2.2
  obtain ⟨a1, ha1⟩ : ∃ a : Int, a = f (i + 1).toNat := ⟨_, rfl⟩
  obtain ⟨a2, ha2⟩ : ∃ a : Int, a = f (i + 2).toNat := ⟨_, rfl⟩
  refine x_aload_n G 2 rfl rfl dL_law_1445 ?_
  refine x_arg G hS 1 (by decide) hi ha1 dL_law_1446 dL_law_1447 dL_law_1448 dL_law_1449 dL_law_1450 ?_
  refine x_arg G hS 2 (by decide) hi ha2 dL_law_1451 dL_law_1452 dL_law_1453 dL_law_1454 dL_law_1455 ?_
  refine x_callVI G [] [xI a1, xI a2] rfl (by decide) (ly_n hY 0 (by decide)) (ly_k hY 0 (by decide)) hy_X6_sizeForKinds hi_X6_sizeForKinds hs_X6_sizeForKinds ml_L_167 rfl rfl (kX6_sizeForKinds _ _ V a1 a2 hY hc.2.1 hc.1.1 hc.1.2) (by decide) (by decide) (Nat.le_of_ble_eq_true rfl) dL_law_1456 (fun z1 M1 h1 => ?_)
  have hr1 : Ref M1 V Hs := ref_cg hr (fun q hq => h1.2 q (by simp; omega))
  refine x_aload_n G 1 rfl rfl dL_law_1459 ?_
  refine x_arg G hS 1 (by decide) hi ha1 dL_law_1460 dL_law_1461 dL_law_1462 dL_law_1463 dL_law_1464 ?_
  refine x_arg G hS 2 (by decide) hi ha2 dL_law_1465 dL_law_1466 dL_law_1467 dL_law_1468 dL_law_1469 ?_
  refine x_callVI G [xI z1] [xI a1, xI a2] rfl (by decide) (ly_n hY 195 (by decide)) (ly_k hY 195 (by decide)) hy_X7_sizeForKinds hi_X7_sizeForKinds hs_X7_sizeForKinds ml_L_170 rfl rfl (kX7_sizeForKinds _ _ V a1 a2 hY hr1.1 hc.1.1 hc.1.2 hr1.2.1) (by decide) (by decide) (Nat.le_of_ble_eq_true rfl) dL_law_1470 (fun z2 M2 h2 => ?_)
  have hz : z1 = z2 := one_sfk h1.1 h2.1
  refine x_icmp_eq G 2082 (by decide) dL_law_1473 (fun _ => ?_) (fun c => absurd hz c)
  exact back M2 (inv_q hI (xof_w h1.2 (by decide)) h2.2.1 h2.2.2)
set_option maxRecDepth 100000 in
set_option maxHeartbeats 4000000 in
theorem law_38 {Γ : xΓ} (G : xGL Γ) {L9 : Nat} {f : Nat → Int} (hS : xScr Γ L9 f) {T : xT} (hY : LayOK 208 T) {i : Int} (hi : 0 ≤ i ∧ i + 5 < L9) {M : xM} (hI : Both M) (back : ∀ M2, Both M2 → xXL Γ T 2082 i [] M2) : xXL Γ T 1478 i [] M := by
  obtain ⟨V, Hs, Ws, kp, bt, len, hI⟩ := hI
  have hc := hI.1
  have hr := hI.2.1
  have hk := hI.2.2.1
  have ht := hI.2.2.2
  obtain ⟨a1, ha1⟩ : ∃ a : Int, a = f (i + 1).toNat := ⟨_, rfl⟩
  obtain ⟨a2, ha2⟩ : ∃ a : Int, a = f (i + 2).toNat := ⟨_, rfl⟩
  refine x_aload_n G 2 rfl rfl dL_law_1478 ?_
  refine x_arg G hS 1 (by decide) hi ha1 dL_law_1479 dL_law_1480 dL_law_1481 dL_law_1482 dL_law_1483 ?_
  refine x_arg G hS 2 (by decide) hi ha2 dL_law_1484 dL_law_1485 dL_law_1486 dL_law_1487 dL_law_1488 ?_
  refine x_callVI G [] [xI a1, xI a2] rfl (by decide) (ly_n hY 0 (by decide)) (ly_k hY 0 (by decide)) hy_X6_shared hi_X6_shared hs_X6_shared ml_L_171 rfl rfl (kX6_shared _ _ V a1 a2 hY hc.2.1 hc.1.1 hc.1.2) (by decide) (by decide) (Nat.le_of_ble_eq_true rfl) dL_law_1489 (fun z1 M1 h1 => ?_)
  have hr1 : Ref M1 V Hs := ref_cg hr (fun q hq => h1.2 q (by simp; omega))
  refine x_aload_n G 1 rfl rfl dL_law_1492 ?_
  refine x_arg G hS 1 (by decide) hi ha1 dL_law_1493 dL_law_1494 dL_law_1495 dL_law_1496 dL_law_1497 ?_
  refine x_arg G hS 2 (by decide) hi ha2 dL_law_1498 dL_law_1499 dL_law_1500 dL_law_1501 dL_law_1502 ?_
  refine x_callVI G [xI z1] [xI a1, xI a2] rfl (by decide) (ly_n hY 195 (by decide)) (ly_k hY 195 (by decide)) hy_X7_shared hi_X7_shared hs_X7_shared ml_L_174 rfl rfl (kX7_shared _ _ V a1 a2 hY hr1.1 hc.1.1 hc.1.2 hr1.2.1) (by decide) (by decide) (Nat.le_of_ble_eq_true rfl) dL_law_1503 (fun z2 M2 h2 => ?_)
  have hz : z1 = z2 := one_shared h1.1 h2.1
  refine x_icmp_eq G 2082 (by decide) dL_law_1506 (fun _ => ?_) (fun c => absurd hz c)
  exact back M2 (inv_q hI (xof_w h1.2 (by decide)) h2.2.1 h2.2.2)
set_option maxRecDepth 100000 in
set_option maxHeartbeats 4000000 in
theorem law_39 {Γ : xΓ} (G : xGL Γ) {L9 : Nat} {f : Nat → Int} (hS : xScr Γ L9 f) {T : xT} (hY : LayOK 208 T) {i : Int} (hi : 0 ≤ i ∧ i + 5 < L9) {M : xM} (hI : Both M) (back : ∀ M2, Both M2 → xXL Γ T 2082 i [] M2) : xXL Γ T 1511 i [] M := by
  obtain ⟨V, Hs, Ws, kp, bt, len, hI⟩ := hI
  have hc := hI.1
  have hr := hI.2.1
  have hk := hI.2.2.1
  have ht := hI.2.2.2
  obtain ⟨a1, ha1⟩ : ∃ a : Int, a = f (i + 1).toNat := ⟨_, rfl⟩
  obtain ⟨a2, ha2⟩ : ∃ a : Int, a = f (i + 2).toNat := ⟨_, rfl⟩
  refine x_aload_n G 2 rfl rfl dL_law_1511 ?_
  refine x_arg G hS 1 (by decide) hi ha1 dL_law_1512 dL_law_1513 dL_law_1514 dL_law_1515 dL_law_1516 ?_
  refine x_arg G hS 2 (by decide) hi ha2 dL_law_1517 dL_law_1518 dL_law_1519 dL_law_1520 dL_law_1521 ?_
  refine x_callVI G [] [xI a1, xI a2] rfl (by decide) (ly_n hY 0 (by decide)) (ly_k hY 0 (by decide)) hy_X6_without hi_X6_without hs_X6_without ml_L_175 rfl rfl (kX6_without _ _ V a1 a2 hY hc.2.1 hc.1.1 hc.1.2) (by decide) (by decide) (Nat.le_of_ble_eq_true rfl) dL_law_1522 (fun z1 M1 h1 => ?_)
  have hr1 : Ref M1 V Hs := ref_cg hr (fun q hq => h1.2 q (by simp; omega))
  refine x_aload_n G 1 rfl rfl dL_law_1525 ?_
  refine x_arg G hS 1 (by decide) hi ha1 dL_law_1526 dL_law_1527 dL_law_1528 dL_law_1529 dL_law_1530 ?_
  refine x_arg G hS 2 (by decide) hi ha2 dL_law_1531 dL_law_1532 dL_law_1533 dL_law_1534 dL_law_1535 ?_
  refine x_callVI G [xI z1] [xI a1, xI a2] rfl (by decide) (ly_n hY 195 (by decide)) (ly_k hY 195 (by decide)) hy_X7_without hi_X7_without hs_X7_without ml_L_178 rfl rfl (kX7_without _ _ V a1 a2 hY hr1.1 hc.1.1 hc.1.2 hr1.2.1) (by decide) (by decide) (Nat.le_of_ble_eq_true rfl) dL_law_1536 (fun z2 M2 h2 => ?_)
  have hz : z1 = z2 := h1.1.trans h2.1.symm
  refine x_icmp_eq G 2082 (by decide) dL_law_1539 (fun _ => ?_) (fun c => absurd hz c)
  exact back M2 (inv_q hI (xof_w h1.2 (by decide)) h2.2.1 h2.2.2)
set_option maxRecDepth 100000 in
set_option maxHeartbeats 4000000 in
theorem law_40 {Γ : xΓ} (G : xGL Γ) {L9 : Nat} {f : Nat → Int} (hS : xScr Γ L9 f) {T : xT} (hY : LayOK 208 T) {i : Int} (hi : 0 ≤ i ∧ i + 5 < L9) {M : xM} (hI : Both M) (back : ∀ M2, Both M2 → xXL Γ T 2082 i [] M2) : xXL Γ T 1544 i [] M := by
  obtain ⟨V, Hs, Ws, kp, bt, len, hI⟩ := hI
  have hc := hI.1
  have hr := hI.2.1
  have hk := hI.2.2.1
  have ht := hI.2.2.2
  obtain ⟨a1, ha1⟩ : ∃ a : Int, a = f (i + 1).toNat := ⟨_, rfl⟩
  obtain ⟨a2, ha2⟩ : ∃ a : Int, a = f (i + 2).toNat := ⟨_, rfl⟩
  refine x_aload_n G 2 rfl rfl dL_law_1544 ?_
  refine x_arg G hS 1 (by decide) hi ha1 dL_law_1545 dL_law_1546 dL_law_1547 dL_law_1548 dL_law_1549 ?_
  refine x_arg G hS 2 (by decide) hi ha2 dL_law_1550 dL_law_1551 dL_law_1552 dL_law_1553 dL_law_1554 ?_
  refine x_callVI G [] [xI a1, xI a2] rfl (by decide) (ly_n hY 0 (by decide)) (ly_k hY 0 (by decide)) hy_X6_expired hi_X6_expired hs_X6_expired ml_L_179 rfl rfl (kX6_expired _ _ V a1 a2 hY hc.2.1 hc.1.1 hc.1.2) (by decide) (by decide) (Nat.le_of_ble_eq_true rfl) dL_law_1555 (fun z1 M1 h1 => ?_)
  have hr1 : Ref M1 V Hs := ref_cg hr (fun q hq => h1.2 q (by simp; omega))
  refine x_aload_n G 1 rfl rfl dL_law_1558 ?_
  refine x_arg G hS 1 (by decide) hi ha1 dL_law_1559 dL_law_1560 dL_law_1561 dL_law_1562 dL_law_1563 ?_
  refine x_arg G hS 2 (by decide) hi ha2 dL_law_1564 dL_law_1565 dL_law_1566 dL_law_1567 dL_law_1568 ?_
  refine x_callVI G [xI z1] [xI a1, xI a2] rfl (by decide) (ly_n hY 195 (by decide)) (ly_k hY 195 (by decide)) hy_X7_expired hi_X7_expired hs_X7_expired ml_L_182 rfl rfl (kX7_expired _ _ V a1 a2 hY hr1.1 hc.1.1 hc.1.2 hr1.2.1) (by decide) (by decide) (Nat.le_of_ble_eq_true rfl) dL_law_1569 (fun z2 M2 h2 => ?_)
  have hz : z1 = z2 := h1.1.trans h2.1.symm
  refine x_icmp_eq G 2082 (by decide) dL_law_1572 (fun _ => ?_) (fun c => absurd hz c)
  exact back M2 (inv_q hI (xof_w h1.2 (by decide)) h2.2.1 h2.2.2)
set_option maxRecDepth 100000 in
set_option maxHeartbeats 4000000 in
theorem law_41 {Γ : xΓ} (G : xGL Γ) {L9 : Nat} {f : Nat → Int} (hS : xScr Γ L9 f) {T : xT} (hY : LayOK 208 T) {i : Int} (hi : 0 ≤ i ∧ i + 5 < L9) {M : xM} (hI : Both M) (back : ∀ M2, Both M2 → xXL Γ T 2082 i [] M2) : xXL Γ T 1577 i [] M := by
  obtain ⟨V, Hs, Ws, kp, bt, len, hI⟩ := hI
  have hc := hI.1
  have hr := hI.2.1
  have hk := hI.2.2.1
  have ht := hI.2.2.2
  obtain ⟨a1, ha1⟩ : ∃ a : Int, a = f (i + 1).toNat := ⟨_, rfl⟩
  obtain ⟨a2, ha2⟩ : ∃ a : Int, a = f (i + 2).toNat := ⟨_, rfl⟩
  refine x_aload_n G 2 rfl rfl dL_law_1577 ?_
  refine x_arg G hS 1 (by decide) hi ha1 dL_law_1578 dL_law_1579 dL_law_1580 dL_law_1581 dL_law_1582 ?_
  refine x_arg G hS 2 (by decide) hi ha2 dL_law_1583 dL_law_1584 dL_law_1585 dL_law_1586 dL_law_1587 ?_
  refine x_callVI G [] [xI a1, xI a2] rfl (by decide) (ly_n hY 0 (by decide)) (ly_k hY 0 (by decide)) hy_X6_busiest hi_X6_busiest hs_X6_busiest ml_L_183 rfl rfl (kX6_busiest _ _ V a1 a2 hY hc.2.1 hc.1.1 hc.1.2) (by decide) (by decide) (Nat.le_of_ble_eq_true rfl) dL_law_1588 (fun z1 M1 h1 => ?_)
  have hr1 : Ref M1 V Hs := ref_cg hr (fun q hq => h1.2 q (by simp; omega))
  refine x_aload_n G 1 rfl rfl dL_law_1591 ?_
  refine x_arg G hS 1 (by decide) hi ha1 dL_law_1592 dL_law_1593 dL_law_1594 dL_law_1595 dL_law_1596 ?_
  refine x_arg G hS 2 (by decide) hi ha2 dL_law_1597 dL_law_1598 dL_law_1599 dL_law_1600 dL_law_1601 ?_
  refine x_callVI G [xI z1] [xI a1, xI a2] rfl (by decide) (ly_n hY 195 (by decide)) (ly_k hY 195 (by decide)) hy_X7_busiest hi_X7_busiest hs_X7_busiest ml_L_186 rfl rfl (kX7_busiest _ _ V a1 a2 hY hr1.1 hc.1.1 hc.1.2 hr1.2.1) (by decide) (by decide) (Nat.le_of_ble_eq_true rfl) dL_law_1602 (fun z2 M2 h2 => ?_)
  have hz : z1 = z2 := h1.1.trans h2.1.symm
  refine x_icmp_eq G 2082 (by decide) dL_law_1605 (fun _ => ?_) (fun c => absurd hz c)
  exact back M2 (inv_q hI (xof_w h1.2 (by decide)) h2.2.1 h2.2.2)
set_option maxRecDepth 100000 in
set_option maxHeartbeats 4000000 in
theorem law_42 {Γ : xΓ} (G : xGL Γ) {L9 : Nat} {f : Nat → Int} (hS : xScr Γ L9 f) {T : xT} (hY : LayOK 208 T) {i : Int} (hi : 0 ≤ i ∧ i + 5 < L9) {M : xM} (hI : Both M) (back : ∀ M2, Both M2 → xXL Γ T 2082 i [] M2) : xXL Γ T 1610 i [] M := by
  obtain ⟨V, Hs, Ws, kp, bt, len, hI⟩ := hI
  have hc := hI.1
  have hr := hI.2.1
  have hk := hI.2.2.1
  have ht := hI.2.2.2
  obtain ⟨a1, ha1⟩ : ∃ a : Int, a = f (i + 1).toNat := ⟨_, rfl⟩
  refine x_aload_n G 2 rfl rfl dL_law_1610 ?_
  refine x_arg G hS 1 (by decide) hi ha1 dL_law_1611 dL_law_1612 dL_law_1613 dL_law_1614 dL_law_1615 ?_
  refine x_callVI G [] [xI a1] rfl (by decide) (ly_n hY 0 (by decide)) (ly_k hY 0 (by decide)) hy_X6_weightFor hi_X6_weightFor hs_X6_weightFor ml_L_187 rfl rfl (kX6_weightFor _ _ V a1 hY hc.2.1 hc.1.1 hc.1.2) (by decide) (by decide) (Nat.le_of_ble_eq_true rfl) dL_law_1616 (fun z1 M1 h1 => ?_)
  have hr1 : Ref M1 V Hs := ref_cg hr (fun q hq => h1.2 q (by simp; omega))
  refine x_aload_n G 1 rfl rfl dL_law_1619 ?_
  refine x_arg G hS 1 (by decide) hi ha1 dL_law_1620 dL_law_1621 dL_law_1622 dL_law_1623 dL_law_1624 ?_
  refine x_callVI G [xI z1] [xI a1] rfl (by decide) (ly_n hY 195 (by decide)) (ly_k hY 195 (by decide)) hy_X7_weightFor hi_X7_weightFor hs_X7_weightFor ml_L_190 rfl rfl (kX7_weightFor _ _ V a1 hY hr1.1 hc.1.1 hc.1.2 hr1.2.1) (by decide) (by decide) (Nat.le_of_ble_eq_true rfl) dL_law_1625 (fun z2 M2 h2 => ?_)
  have hz : z1 = z2 := one_weightFor h1.1 h2.1
  refine x_icmp_eq G 2082 (by decide) dL_law_1628 (fun _ => ?_) (fun c => absurd hz c)
  exact back M2 (inv_q hI (xof_w h1.2 (by decide)) h2.2.1 h2.2.2)
set_option maxRecDepth 100000 in
set_option maxHeartbeats 4000000 in
theorem law_43 {Γ : xΓ} (G : xGL Γ) {L9 : Nat} {f : Nat → Int} (hS : xScr Γ L9 f) {T : xT} (hY : LayOK 208 T) {i : Int} (hi : 0 ≤ i ∧ i + 5 < L9) {M : xM} (hI : Both M) (back : ∀ M2, Both M2 → xXL Γ T 2082 i [] M2) : xXL Γ T 1633 i [] M := by
  obtain ⟨V, Hs, Ws, kp, bt, len, hI⟩ := hI
  have hc := hI.1
  have hr := hI.2.1
  have hk := hI.2.2.1
  have ht := hI.2.2.2
  obtain ⟨a1, ha1⟩ : ∃ a : Int, a = f (i + 1).toNat := ⟨_, rfl⟩
  refine x_aload_n G 2 rfl rfl dL_law_1633 ?_
  refine x_arg G hS 1 (by decide) hi ha1 dL_law_1634 dL_law_1635 dL_law_1636 dL_law_1637 dL_law_1638 ?_
  refine x_callVI G [] [xI a1] rfl (by decide) (ly_n hY 0 (by decide)) (ly_k hY 0 (by decide)) hy_X6_sizeFor hi_X6_sizeFor hs_X6_sizeFor ml_L_191 rfl rfl (kX6_sizeFor _ _ V a1 hY hc.2.1 hc.1.1 hc.1.2) (by decide) (by decide) (Nat.le_of_ble_eq_true rfl) dL_law_1639 (fun z1 M1 h1 => ?_)
  have hr1 : Ref M1 V Hs := ref_cg hr (fun q hq => h1.2 q (by simp; omega))
  refine x_aload_n G 1 rfl rfl dL_law_1642 ?_
  refine x_arg G hS 1 (by decide) hi ha1 dL_law_1643 dL_law_1644 dL_law_1645 dL_law_1646 dL_law_1647 ?_
  refine x_callVI G [xI z1] [xI a1] rfl (by decide) (ly_n hY 195 (by decide)) (ly_k hY 195 (by decide)) hy_X7_sizeFor hi_X7_sizeFor hs_X7_sizeFor ml_L_194 rfl rfl (kX7_sizeFor _ _ V a1 hY hr1.1 hc.1.1 hc.1.2 hr1.2.1) (by decide) (by decide) (Nat.le_of_ble_eq_true rfl) dL_law_1648 (fun z2 M2 h2 => ?_)
  have hz : z1 = z2 := h1.1.trans h2.1.symm
  refine x_icmp_eq G 2082 (by decide) dL_law_1651 (fun _ => ?_) (fun c => absurd hz c)
  exact back M2 (inv_q hI (xof_w h1.2 (by decide)) h2.2.1 h2.2.2)
set_option maxRecDepth 100000 in
set_option maxHeartbeats 4000000 in
theorem law_44 {Γ : xΓ} (G : xGL Γ) {L9 : Nat} {f : Nat → Int} (hS : xScr Γ L9 f) {T : xT} (hY : LayOK 208 T) {i : Int} (hi : 0 ≤ i ∧ i + 5 < L9) {M : xM} (hI : Both M) (back : ∀ M2, Both M2 → xXL Γ T 2082 i [] M2) : xXL Γ T 1656 i [] M := by
  obtain ⟨V, Hs, Ws, kp, bt, len, hI⟩ := hI
  have hc := hI.1
  have hr := hI.2.1
  have hk := hI.2.2.1
  have ht := hI.2.2.2
  obtain ⟨a1, ha1⟩ : ∃ a : Int, a = f (i + 1).toNat := ⟨_, rfl⟩
  refine x_aload_n G 2 rfl rfl dL_law_1656 ?_
  refine x_arg G hS 1 (by decide) hi ha1 dL_law_1657 dL_law_1658 dL_law_1659 dL_law_1660 dL_law_1661 ?_
  refine x_callVI G [] [xI a1] rfl (by decide) (ly_n hY 0 (by decide)) (ly_k hY 0 (by decide)) hy_X6_windowFor hi_X6_windowFor hs_X6_windowFor ml_L_195 rfl rfl (kX6_windowFor _ _ V a1 hY hc.2.1 hc.1.1 hc.1.2) (by decide) (by decide) (Nat.le_of_ble_eq_true rfl) dL_law_1662 (fun z1 M1 h1 => ?_)
  have hr1 : Ref M1 V Hs := ref_cg hr (fun q hq => h1.2 q (by simp; omega))
  refine x_aload_n G 1 rfl rfl dL_law_1665 ?_
  refine x_arg G hS 1 (by decide) hi ha1 dL_law_1666 dL_law_1667 dL_law_1668 dL_law_1669 dL_law_1670 ?_
  refine x_callVI G [xI z1] [xI a1] rfl (by decide) (ly_n hY 195 (by decide)) (ly_k hY 195 (by decide)) hy_X7_windowFor hi_X7_windowFor hs_X7_windowFor ml_L_198 rfl rfl (kX7_windowFor _ _ V a1 hY hr1.1 hc.1.1 hc.1.2 hr1.2.1) (by decide) (by decide) (Nat.le_of_ble_eq_true rfl) dL_law_1671 (fun z2 M2 h2 => ?_)
  have hz : z1 = z2 := one_windowFor h1.1 h2.1
  refine x_icmp_eq G 2082 (by decide) dL_law_1674 (fun _ => ?_) (fun c => absurd hz c)
  exact back M2 (inv_q hI (xof_w h1.2 (by decide)) h2.2.1 h2.2.2)
set_option maxRecDepth 100000 in
set_option maxHeartbeats 4000000 in
theorem law_45 {Γ : xΓ} (G : xGL Γ) {L9 : Nat} {f : Nat → Int} (hS : xScr Γ L9 f) {T : xT} (hY : LayOK 208 T) {i : Int} (hi : 0 ≤ i ∧ i + 5 < L9) {M : xM} (hI : Both M) (back : ∀ M2, Both M2 → xXL Γ T 2082 i [] M2) : xXL Γ T 1679 i [] M := by
  obtain ⟨V, Hs, Ws, kp, bt, len, hI⟩ := hI
  have hc := hI.1
  have hr := hI.2.1
  have hk := hI.2.2.1
  have ht := hI.2.2.2
  obtain ⟨a1, ha1⟩ : ∃ a : Int, a = f (i + 1).toNat := ⟨_, rfl⟩
  obtain ⟨a2, ha2⟩ : ∃ a : Int, a = f (i + 2).toNat := ⟨_, rfl⟩
  obtain ⟨a3, ha3⟩ : ∃ a : Int, a = f (i + 3).toNat := ⟨_, rfl⟩
  refine x_aload_n G 2 rfl rfl dL_law_1679 ?_
  refine x_arg G hS 1 (by decide) hi ha1 dL_law_1680 dL_law_1681 dL_law_1682 dL_law_1683 dL_law_1684 ?_
  refine x_arg G hS 2 (by decide) hi ha2 dL_law_1685 dL_law_1686 dL_law_1687 dL_law_1688 dL_law_1689 ?_
  refine x_arg G hS 3 (by decide) hi ha3 dL_law_1690 dL_law_1691 dL_law_1692 dL_law_1693 dL_law_1694 ?_
  refine x_callVI G [] [xI a1, xI a2, xI a3] rfl (by decide) (ly_n hY 0 (by decide)) (ly_k hY 0 (by decide)) hy_X6_later hi_X6_later hs_X6_later ml_L_199 rfl rfl (kX6_later _ _ V a1 a2 a3 hY hc.2.1 hc.1.1 hc.1.2) (by decide) (by decide) (Nat.le_of_ble_eq_true rfl) dL_law_1695 (fun z1 M1 h1 => ?_)
  have hr1 : Ref M1 V Hs := ref_cg hr (fun q hq => h1.2 q (by simp; omega))
  refine x_aload_n G 1 rfl rfl dL_law_1698 ?_
  refine x_arg G hS 1 (by decide) hi ha1 dL_law_1699 dL_law_1700 dL_law_1701 dL_law_1702 dL_law_1703 ?_
  refine x_arg G hS 2 (by decide) hi ha2 dL_law_1704 dL_law_1705 dL_law_1706 dL_law_1707 dL_law_1708 ?_
  refine x_arg G hS 3 (by decide) hi ha3 dL_law_1709 dL_law_1710 dL_law_1711 dL_law_1712 dL_law_1713 ?_
  refine x_callVI G [xI z1] [xI a1, xI a2, xI a3] rfl (by decide) (ly_n hY 195 (by decide)) (ly_k hY 195 (by decide)) hy_X7_later hi_X7_later hs_X7_later ml_L_202 rfl rfl (kX7_later _ _ V a1 a2 a3 hY hr1.1 hc.1.1 hc.1.2 hr1.2.1) (by decide) (by decide) (Nat.le_of_ble_eq_true rfl) dL_law_1714 (fun z2 M2 h2 => ?_)
  have hz : z1 = z2 := h1.1.trans h2.1.symm
  refine x_icmp_eq G 2082 (by decide) dL_law_1717 (fun _ => ?_) (fun c => absurd hz c)
  exact back M2 (inv_q hI (xof_w h1.2 (by decide)) h2.2.1 h2.2.2)
set_option maxRecDepth 100000 in
set_option maxHeartbeats 4000000 in
theorem law_46 {Γ : xΓ} (G : xGL Γ) {L9 : Nat} {f : Nat → Int} (hS : xScr Γ L9 f) {T : xT} (hY : LayOK 208 T) {i : Int} (hi : 0 ≤ i ∧ i + 5 < L9) {M : xM} (hI : Both M) (back : ∀ M2, Both M2 → xXL Γ T 2082 i [] M2) : xXL Γ T 1722 i [] M := by
  obtain ⟨V, Hs, Ws, kp, bt, len, hI⟩ := hI
  have hc := hI.1
  have hr := hI.2.1
  have hk := hI.2.2.1
  have ht := hI.2.2.2
  obtain ⟨a1, ha1⟩ : ∃ a : Int, a = f (i + 1).toNat := ⟨_, rfl⟩
  refine x_aload_n G 2 rfl rfl dL_law_1722 ?_
  refine x_arg G hS 1 (by decide) hi ha1 dL_law_1723 dL_law_1724 dL_law_1725 dL_law_1726 dL_law_1727 ?_
  refine x_callVI G [] [xI a1] rfl (by decide) (ly_n hY 0 (by decide)) (ly_k hY 0 (by decide)) hy_X6_enters hi_X6_enters hs_X6_enters ml_L_203 rfl rfl (kX6_enters _ _ V a1 hY hc.2.1 hc.1.1 hc.1.2) (by decide) (by decide) (Nat.le_of_ble_eq_true rfl) dL_law_1728 (fun z1 M1 h1 => ?_)
  have hr1 : Ref M1 V Hs := ref_cg hr (fun q hq => h1.2 q (by simp; omega))
  refine x_aload_n G 1 rfl rfl dL_law_1731 ?_
  refine x_arg G hS 1 (by decide) hi ha1 dL_law_1732 dL_law_1733 dL_law_1734 dL_law_1735 dL_law_1736 ?_
  refine x_callVI G [xI z1] [xI a1] rfl (by decide) (ly_n hY 195 (by decide)) (ly_k hY 195 (by decide)) hy_X7_enters hi_X7_enters hs_X7_enters ml_L_206 rfl rfl (kX7_enters _ _ V a1 hY hr1.1 hc.1.1 hc.1.2 hr1.2.1) (by decide) (by decide) (Nat.le_of_ble_eq_true rfl) dL_law_1737 (fun z2 M2 h2 => ?_)
  have hz : z1 = z2 := one_enters h1.1 h2.1
  refine x_icmp_eq G 2082 (by decide) dL_law_1740 (fun _ => ?_) (fun c => absurd hz c)
  exact back M2 (inv_q hI (xof_w h1.2 (by decide)) h2.2.1 h2.2.2)
set_option maxRecDepth 100000 in
set_option maxHeartbeats 4000000 in
theorem law_47 {Γ : xΓ} (G : xGL Γ) {L9 : Nat} {f : Nat → Int} (hS : xScr Γ L9 f) {T : xT} (hY : LayOK 208 T) {i : Int} (hi : 0 ≤ i ∧ i + 5 < L9) {M : xM} (hI : Both M) (back : ∀ M2, Both M2 → xXL Γ T 2082 i [] M2) : xXL Γ T 1745 i [] M := by
  obtain ⟨V, Hs, Ws, kp, bt, len, hI⟩ := hI
  have hc := hI.1
  have hr := hI.2.1
  have hk := hI.2.2.1
  have ht := hI.2.2.2
  obtain ⟨a1, ha1⟩ : ∃ a : Int, a = f (i + 1).toNat := ⟨_, rfl⟩
  refine x_aload_n G 2 rfl rfl dL_law_1745 ?_
  refine x_arg G hS 1 (by decide) hi ha1 dL_law_1746 dL_law_1747 dL_law_1748 dL_law_1749 dL_law_1750 ?_
  refine x_callVI G [] [xI a1] rfl (by decide) (ly_n hY 0 (by decide)) (ly_k hY 0 (by decide)) hy_X6_changes hi_X6_changes hs_X6_changes ml_L_207 rfl rfl (kX6_changes _ _ V a1 hY hc.2.1 hc.1.1 hc.1.2) (by decide) (by decide) (Nat.le_of_ble_eq_true rfl) dL_law_1751 (fun z1 M1 h1 => ?_)
  have hr1 : Ref M1 V Hs := ref_cg hr (fun q hq => h1.2 q (by simp; omega))
  refine x_aload_n G 1 rfl rfl dL_law_1754 ?_
  refine x_arg G hS 1 (by decide) hi ha1 dL_law_1755 dL_law_1756 dL_law_1757 dL_law_1758 dL_law_1759 ?_
  refine x_callVI G [xI z1] [xI a1] rfl (by decide) (ly_n hY 195 (by decide)) (ly_k hY 195 (by decide)) hy_X7_changes hi_X7_changes hs_X7_changes ml_L_210 rfl rfl (kX7_changes _ _ V a1 hY hr1.1 hc.1.1 hc.1.2 hr1.2.1) (by decide) (by decide) (Nat.le_of_ble_eq_true rfl) dL_law_1760 (fun z2 M2 h2 => ?_)
  have hz : z1 = z2 := one_changes h1.1 h2.1
  refine x_icmp_eq G 2082 (by decide) dL_law_1763 (fun _ => ?_) (fun c => absurd hz c)
  exact back M2 (inv_q hI (xof_w h1.2 (by decide)) h2.2.1 h2.2.2)
set_option maxRecDepth 100000 in
set_option maxHeartbeats 4000000 in
theorem law_48 {Γ : xΓ} (G : xGL Γ) {L9 : Nat} {f : Nat → Int} (hS : xScr Γ L9 f) {T : xT} (hY : LayOK 208 T) {i : Int} (hi : 0 ≤ i ∧ i + 5 < L9) {M : xM} (hI : Both M) (back : ∀ M2, Both M2 → xXL Γ T 2082 i [] M2) : xXL Γ T 1768 i [] M := by
  obtain ⟨V, Hs, Ws, kp, bt, len, hI⟩ := hI
  have hc := hI.1
  have hr := hI.2.1
  have hk := hI.2.2.1
  have ht := hI.2.2.2
  obtain ⟨a1, ha1⟩ : ∃ a : Int, a = f (i + 1).toNat := ⟨_, rfl⟩
  obtain ⟨a2, ha2⟩ : ∃ a : Int, a = f (i + 2).toNat := ⟨_, rfl⟩
  refine x_aload_n G 2 rfl rfl dL_law_1768 ?_
  refine x_arg G hS 1 (by decide) hi ha1 dL_law_1769 dL_law_1770 dL_law_1771 dL_law_1772 dL_law_1773 ?_
  refine x_arg G hS 2 (by decide) hi ha2 dL_law_1774 dL_law_1775 dL_law_1776 dL_law_1777 dL_law_1778 ?_
  refine x_callVI G [] [xI a1, xI a2] rfl (by decide) (ly_n hY 0 (by decide)) (ly_k hY 0 (by decide)) hy_X6_then hi_X6_then hs_X6_then ml_L_211 rfl rfl (kX6_then _ _ V a1 a2 hY hc.2.1 hc.1.1 hc.1.2) (by decide) (by decide) (Nat.le_of_ble_eq_true rfl) dL_law_1779 (fun z1 M1 h1 => ?_)
  have hr1 : Ref M1 V Hs := ref_cg hr (fun q hq => h1.2 q (by simp; omega))
  refine x_aload_n G 1 rfl rfl dL_law_1782 ?_
  refine x_arg G hS 1 (by decide) hi ha1 dL_law_1783 dL_law_1784 dL_law_1785 dL_law_1786 dL_law_1787 ?_
  refine x_arg G hS 2 (by decide) hi ha2 dL_law_1788 dL_law_1789 dL_law_1790 dL_law_1791 dL_law_1792 ?_
  refine x_callVI G [xI z1] [xI a1, xI a2] rfl (by decide) (ly_n hY 195 (by decide)) (ly_k hY 195 (by decide)) hy_X7_then hi_X7_then hs_X7_then ml_L_214 rfl rfl (kX7_then _ _ V a1 a2 hY hr1.1 hc.1.1 hc.1.2 hr1.2.1) (by decide) (by decide) (Nat.le_of_ble_eq_true rfl) dL_law_1793 (fun z2 M2 h2 => ?_)
  have hz : z1 = z2 := h1.1.trans h2.1.symm
  refine x_icmp_eq G 2082 (by decide) dL_law_1796 (fun _ => ?_) (fun c => absurd hz c)
  exact back M2 (inv_q hI (xof_w h1.2 (by decide)) h2.2.1 h2.2.2)
set_option maxRecDepth 100000 in
set_option maxHeartbeats 4000000 in
theorem law_49 {Γ : xΓ} (G : xGL Γ) {L9 : Nat} {f : Nat → Int} (hS : xScr Γ L9 f) {T : xT} (hY : LayOK 208 T) {i : Int} (hi : 0 ≤ i ∧ i + 5 < L9) {M : xM} (hI : Both M) (back : ∀ M2, Both M2 → xXL Γ T 2082 i [] M2) : xXL Γ T 1801 i [] M := by
  obtain ⟨V, Hs, Ws, kp, bt, len, hI⟩ := hI
  have hc := hI.1
  have hr := hI.2.1
  have hk := hI.2.2.1
  have ht := hI.2.2.2
  obtain ⟨a1, ha1⟩ : ∃ a : Int, a = f (i + 1).toNat := ⟨_, rfl⟩
  obtain ⟨a2, ha2⟩ : ∃ a : Int, a = f (i + 2).toNat := ⟨_, rfl⟩
  refine x_aload_n G 2 rfl rfl dL_law_1801 ?_
  refine x_arg G hS 1 (by decide) hi ha1 dL_law_1802 dL_law_1803 dL_law_1804 dL_law_1805 dL_law_1806 ?_
  refine x_arg G hS 2 (by decide) hi ha2 dL_law_1807 dL_law_1808 dL_law_1809 dL_law_1810 dL_law_1811 ?_
  refine x_callVI G [] [xI a1, xI a2] rfl (by decide) (ly_n hY 0 (by decide)) (ly_k hY 0 (by decide)) hy_X6_played hi_X6_played hs_X6_played ml_L_215 rfl rfl (kX6_played _ _ V a1 a2 hY hc.2.1 hc.1.1 hc.1.2) (by decide) (by decide) (Nat.le_of_ble_eq_true rfl) dL_law_1812 (fun z1 M1 h1 => ?_)
  have hr1 : Ref M1 V Hs := ref_cg hr (fun q hq => h1.2 q (by simp; omega))
  refine x_aload_n G 1 rfl rfl dL_law_1815 ?_
  refine x_arg G hS 1 (by decide) hi ha1 dL_law_1816 dL_law_1817 dL_law_1818 dL_law_1819 dL_law_1820 ?_
  refine x_arg G hS 2 (by decide) hi ha2 dL_law_1821 dL_law_1822 dL_law_1823 dL_law_1824 dL_law_1825 ?_
  refine x_callVI G [xI z1] [xI a1, xI a2] rfl (by decide) (ly_n hY 195 (by decide)) (ly_k hY 195 (by decide)) hy_X7_played hi_X7_played hs_X7_played ml_L_218 rfl rfl (kX7_played _ _ V a1 a2 hY hr1.1 hc.1.1 hc.1.2 hr1.2.1) (by decide) (by decide) (Nat.le_of_ble_eq_true rfl) dL_law_1826 (fun z2 M2 h2 => ?_)
  have hz : z1 = z2 := h1.1.trans h2.1.symm
  refine x_icmp_eq G 2082 (by decide) dL_law_1829 (fun _ => ?_) (fun c => absurd hz c)
  exact back M2 (inv_q hI (xof_w h1.2 (by decide)) h2.2.1 h2.2.2)
set_option maxRecDepth 100000 in
set_option maxHeartbeats 4000000 in
theorem law_50 {Γ : xΓ} (G : xGL Γ) {L9 : Nat} {f : Nat → Int} (hS : xScr Γ L9 f) {T : xT} (hY : LayOK 208 T) {i : Int} (hi : 0 ≤ i ∧ i + 5 < L9) {M : xM} (hI : Both M) (back : ∀ M2, Both M2 → xXL Γ T 2082 i [] M2) : xXL Γ T 1834 i [] M := by
  obtain ⟨V, Hs, Ws, kp, bt, len, hI⟩ := hI
  have hc := hI.1
  have hr := hI.2.1
  have hk := hI.2.2.1
  have ht := hI.2.2.2
  obtain ⟨a1, ha1⟩ : ∃ a : Int, a = f (i + 1).toNat := ⟨_, rfl⟩
  refine x_aload_n G 2 rfl rfl dL_law_1834 ?_
  refine x_arg G hS 1 (by decide) hi ha1 dL_law_1835 dL_law_1836 dL_law_1837 dL_law_1838 dL_law_1839 ?_
  refine x_callVI G [] [xI a1] rfl (by decide) (ly_n hY 0 (by decide)) (ly_k hY 0 (by decide)) hy_X6_outBy hi_X6_outBy hs_X6_outBy ml_L_219 rfl rfl (kX6_outBy _ _ V a1 hY hc.2.1 hc.1.1 hc.1.2) (by decide) (by decide) (Nat.le_of_ble_eq_true rfl) dL_law_1840 (fun z1 M1 h1 => ?_)
  have hr1 : Ref M1 V Hs := ref_cg hr (fun q hq => h1.2 q (by simp; omega))
  refine x_aload_n G 1 rfl rfl dL_law_1843 ?_
  refine x_arg G hS 1 (by decide) hi ha1 dL_law_1844 dL_law_1845 dL_law_1846 dL_law_1847 dL_law_1848 ?_
  refine x_callVI G [xI z1] [xI a1] rfl (by decide) (ly_n hY 195 (by decide)) (ly_k hY 195 (by decide)) hy_X7_outBy hi_X7_outBy hs_X7_outBy ml_L_222 rfl rfl (kX7_outBy _ _ V a1 hY hr1.1 hc.1.1 hc.1.2 hr1.2.1) (by decide) (by decide) (Nat.le_of_ble_eq_true rfl) dL_law_1849 (fun z2 M2 h2 => ?_)
  have hz : z1 = z2 := one_outBy h1.1 h2.1
  refine x_icmp_eq G 2082 (by decide) dL_law_1852 (fun _ => ?_) (fun c => absurd hz c)
  exact back M2 (inv_q hI (xof_w h1.2 (by decide)) h2.2.1 h2.2.2)
set_option maxRecDepth 100000 in
set_option maxHeartbeats 4000000 in
theorem law_51 {Γ : xΓ} (G : xGL Γ) {L9 : Nat} {f : Nat → Int} (hS : xScr Γ L9 f) {T : xT} (hY : LayOK 208 T) {i : Int} (hi : 0 ≤ i ∧ i + 5 < L9) {M : xM} (hI : Both M) (back : ∀ M2, Both M2 → xXL Γ T 2082 i [] M2) : xXL Γ T 1857 i [] M := by
  obtain ⟨V, Hs, Ws, kp, bt, len, hI⟩ := hI
  have hc := hI.1
  have hr := hI.2.1
  have hk := hI.2.2.1
  have ht := hI.2.2.2
  obtain ⟨a1, ha1⟩ : ∃ a : Int, a = f (i + 1).toNat := ⟨_, rfl⟩
  obtain ⟨a2, ha2⟩ : ∃ a : Int, a = f (i + 2).toNat := ⟨_, rfl⟩
  obtain ⟨a3, ha3⟩ : ∃ a : Int, a = f (i + 3).toNat := ⟨_, rfl⟩
  refine x_aload_n G 2 rfl rfl dL_law_1857 ?_
  refine x_arg G hS 1 (by decide) hi ha1 dL_law_1858 dL_law_1859 dL_law_1860 dL_law_1861 dL_law_1862 ?_
  refine x_arg G hS 2 (by decide) hi ha2 dL_law_1863 dL_law_1864 dL_law_1865 dL_law_1866 dL_law_1867 ?_
  refine x_arg G hS 3 (by decide) hi ha3 dL_law_1868 dL_law_1869 dL_law_1870 dL_law_1871 dL_law_1872 ?_
  refine x_callVI G [] [xI a1, xI a2, xI a3] rfl (by decide) (ly_n hY 0 (by decide)) (ly_k hY 0 (by decide)) hy_X6_labels hi_X6_labels hs_X6_labels ml_L_223 rfl rfl (kX6_labels _ _ V a1 a2 a3 hY hc.2.1 hc.1.1 hc.1.2) (by decide) (by decide) (Nat.le_of_ble_eq_true rfl) dL_law_1873 (fun z1 M1 h1 => ?_)
  have hr1 : Ref M1 V Hs := ref_cg hr (fun q hq => h1.2 q (by simp; omega))
  refine x_aload_n G 1 rfl rfl dL_law_1876 ?_
  refine x_arg G hS 1 (by decide) hi ha1 dL_law_1877 dL_law_1878 dL_law_1879 dL_law_1880 dL_law_1881 ?_
  refine x_arg G hS 2 (by decide) hi ha2 dL_law_1882 dL_law_1883 dL_law_1884 dL_law_1885 dL_law_1886 ?_
  refine x_arg G hS 3 (by decide) hi ha3 dL_law_1887 dL_law_1888 dL_law_1889 dL_law_1890 dL_law_1891 ?_
  refine x_callVI G [xI z1] [xI a1, xI a2, xI a3] rfl (by decide) (ly_n hY 195 (by decide)) (ly_k hY 195 (by decide)) hy_X7_labels hi_X7_labels hs_X7_labels ml_L_226 rfl rfl (kX7_labels _ _ V a1 a2 a3 hY hr1.1 hc.1.1 hc.1.2 hr1.2.1) (by decide) (by decide) (Nat.le_of_ble_eq_true rfl) dL_law_1892 (fun z2 M2 h2 => ?_)
  have hz : z1 = z2 := h1.1.trans h2.1.symm
  refine x_icmp_eq G 2082 (by decide) dL_law_1895 (fun _ => ?_) (fun c => absurd hz c)
  exact back M2 (inv_q hI (xof_w h1.2 (by decide)) h2.2.1 h2.2.2)
set_option maxRecDepth 100000 in
set_option maxHeartbeats 4000000 in
theorem law_52 {Γ : xΓ} (G : xGL Γ) {L9 : Nat} {f : Nat → Int} (hS : xScr Γ L9 f) {T : xT} (hY : LayOK 208 T) {i : Int} (hi : 0 ≤ i ∧ i + 5 < L9) {M : xM} (hI : Both M) (back : ∀ M2, Both M2 → xXL Γ T 2082 i [] M2) : xXL Γ T 1900 i [] M := by
  obtain ⟨V, Hs, Ws, kp, bt, len, hI⟩ := hI
  have hc := hI.1
  have hr := hI.2.1
  have hk := hI.2.2.1
  have ht := hI.2.2.2
  obtain ⟨a1, ha1⟩ : ∃ a : Int, a = f (i + 1).toNat := ⟨_, rfl⟩
  obtain ⟨a2, ha2⟩ : ∃ a : Int, a = f (i + 2).toNat := ⟨_, rfl⟩
  refine x_aload_n G 2 rfl rfl dL_law_1900 ?_
  refine x_arg G hS 1 (by decide) hi ha1 dL_law_1901 dL_law_1902 dL_law_1903 dL_law_1904 dL_law_1905 ?_
  refine x_arg G hS 2 (by decide) hi ha2 dL_law_1906 dL_law_1907 dL_law_1908 dL_law_1909 dL_law_1910 ?_
  refine x_callVI G [] [xI a1, xI a2] rfl (by decide) (ly_n hY 0 (by decide)) (ly_k hY 0 (by decide)) hy_X6_total hi_X6_total hs_X6_total ml_L_227 rfl rfl (kX6_total _ _ V a1 a2 hY hc.2.1 hc.1.1 hc.1.2) (by decide) (by decide) (Nat.le_of_ble_eq_true rfl) dL_law_1911 (fun z1 M1 h1 => ?_)
  have hr1 : Ref M1 V Hs := ref_cg hr (fun q hq => h1.2 q (by simp; omega))
  refine x_aload_n G 1 rfl rfl dL_law_1914 ?_
  refine x_arg G hS 1 (by decide) hi ha1 dL_law_1915 dL_law_1916 dL_law_1917 dL_law_1918 dL_law_1919 ?_
  refine x_arg G hS 2 (by decide) hi ha2 dL_law_1920 dL_law_1921 dL_law_1922 dL_law_1923 dL_law_1924 ?_
  refine x_callVI G [xI z1] [xI a1, xI a2] rfl (by decide) (ly_n hY 195 (by decide)) (ly_k hY 195 (by decide)) hy_X7_total hi_X7_total hs_X7_total ml_L_230 rfl rfl (kX7_total _ _ V a1 a2 hY hr1.1 hc.1.1 hc.1.2 hr1.2.1) (by decide) (by decide) (Nat.le_of_ble_eq_true rfl) dL_law_1925 (fun z2 M2 h2 => ?_)
  have hz : z1 = z2 := h1.1.trans h2.1.symm
  refine x_icmp_eq G 2082 (by decide) dL_law_1928 (fun _ => ?_) (fun c => absurd hz c)
  exact back M2 (inv_q hI (xof_w h1.2 (by decide)) h2.2.1 h2.2.2)
set_option maxRecDepth 100000 in
set_option maxHeartbeats 4000000 in
theorem law_53 {Γ : xΓ} (G : xGL Γ) {L9 : Nat} {f : Nat → Int} (hS : xScr Γ L9 f) {T : xT} (hY : LayOK 208 T) {i : Int} (hi : 0 ≤ i ∧ i + 5 < L9) {M : xM} (hI : Both M) (back : ∀ M2, Both M2 → xXL Γ T 2082 i [] M2) : xXL Γ T 1933 i [] M := by
  obtain ⟨V, Hs, Ws, kp, bt, len, hI⟩ := hI
  have hc := hI.1
  have hr := hI.2.1
  have hk := hI.2.2.1
  have ht := hI.2.2.2
  obtain ⟨a1, ha1⟩ : ∃ a : Int, a = f (i + 1).toNat := ⟨_, rfl⟩
  refine x_aload_n G 2 rfl rfl dL_law_1933 ?_
  refine x_arg G hS 1 (by decide) hi ha1 dL_law_1934 dL_law_1935 dL_law_1936 dL_law_1937 dL_law_1938 ?_
  refine x_callVI G [] [xI a1] rfl (by decide) (ly_n hY 0 (by decide)) (ly_k hY 0 (by decide)) hy_X6_mode hi_X6_mode hs_X6_mode ml_L_231 rfl rfl (kX6_mode _ _ V a1 hY hc.2.1 hc.1.1 hc.1.2) (by decide) (by decide) (Nat.le_of_ble_eq_true rfl) dL_law_1939 (fun z1 M1 h1 => ?_)
  have hr1 : Ref M1 V Hs := ref_cg hr (fun q hq => h1.2 q (by simp; omega))
  refine x_aload_n G 1 rfl rfl dL_law_1942 ?_
  refine x_arg G hS 1 (by decide) hi ha1 dL_law_1943 dL_law_1944 dL_law_1945 dL_law_1946 dL_law_1947 ?_
  refine x_callVI G [xI z1] [xI a1] rfl (by decide) (ly_n hY 195 (by decide)) (ly_k hY 195 (by decide)) hy_X7_mode hi_X7_mode hs_X7_mode ml_L_234 rfl rfl (kX7_mode _ _ V a1 hY hr1.1 hc.1.1 hc.1.2 hr1.2.1) (by decide) (by decide) (Nat.le_of_ble_eq_true rfl) dL_law_1948 (fun z2 M2 h2 => ?_)
  have hz : z1 = z2 := one_mode h1.1 h2.1
  refine x_icmp_eq G 2082 (by decide) dL_law_1951 (fun _ => ?_) (fun c => absurd hz c)
  exact back M2 (inv_q hI (xof_w h1.2 (by decide)) h2.2.1 h2.2.2)
set_option maxRecDepth 100000 in
set_option maxHeartbeats 4000000 in
theorem law_54 {Γ : xΓ} (G : xGL Γ) {L9 : Nat} {f : Nat → Int} (hS : xScr Γ L9 f) {T : xT} (hY : LayOK 208 T) {i : Int} (hi : 0 ≤ i ∧ i + 5 < L9) {M : xM} (hI : Both M) (back : ∀ M2, Both M2 → xXL Γ T 2082 i [] M2) : xXL Γ T 1956 i [] M := by
  obtain ⟨V, Hs, Ws, kp, bt, len, hI⟩ := hI
  have hc := hI.1
  have hr := hI.2.1
  have hk := hI.2.2.1
  have ht := hI.2.2.2
  obtain ⟨a1, ha1⟩ : ∃ a : Int, a = f (i + 1).toNat := ⟨_, rfl⟩
  obtain ⟨a2, ha2⟩ : ∃ a : Int, a = f (i + 2).toNat := ⟨_, rfl⟩
  refine x_aload_n G 2 rfl rfl dL_law_1956 ?_
  refine x_arg G hS 1 (by decide) hi ha1 dL_law_1957 dL_law_1958 dL_law_1959 dL_law_1960 dL_law_1961 ?_
  refine x_arg G hS 2 (by decide) hi ha2 dL_law_1962 dL_law_1963 dL_law_1964 dL_law_1965 dL_law_1966 ?_
  refine x_callVI G [] [xI a1, xI a2] rfl (by decide) (ly_n hY 0 (by decide)) (ly_k hY 0 (by decide)) hy_X6_unlike hi_X6_unlike hs_X6_unlike ml_L_235 rfl rfl (kX6_unlike _ _ V a1 a2 hY hc.2.1 hc.1.1 hc.1.2) (by decide) (by decide) (Nat.le_of_ble_eq_true rfl) dL_law_1967 (fun z1 M1 h1 => ?_)
  have hr1 : Ref M1 V Hs := ref_cg hr (fun q hq => h1.2 q (by simp; omega))
  refine x_aload_n G 1 rfl rfl dL_law_1970 ?_
  refine x_arg G hS 1 (by decide) hi ha1 dL_law_1971 dL_law_1972 dL_law_1973 dL_law_1974 dL_law_1975 ?_
  refine x_arg G hS 2 (by decide) hi ha2 dL_law_1976 dL_law_1977 dL_law_1978 dL_law_1979 dL_law_1980 ?_
  refine x_callVI G [xI z1] [xI a1, xI a2] rfl (by decide) (ly_n hY 195 (by decide)) (ly_k hY 195 (by decide)) hy_X7_unlike hi_X7_unlike hs_X7_unlike ml_L_238 rfl rfl (kX7_unlike _ _ V a1 a2 hY hr1.1 hc.1.1 hc.1.2 hr1.2.1) (by decide) (by decide) (Nat.le_of_ble_eq_true rfl) dL_law_1981 (fun z2 M2 h2 => ?_)
  have hz : z1 = z2 := h1.1.trans h2.1.symm
  refine x_icmp_eq G 2082 (by decide) dL_law_1984 (fun _ => ?_) (fun c => absurd hz c)
  exact back M2 (inv_q hI (xof_w h1.2 (by decide)) h2.2.1 h2.2.2)
set_option maxRecDepth 100000 in
set_option maxHeartbeats 4000000 in
theorem law_55 {Γ : xΓ} (G : xGL Γ) {L9 : Nat} {f : Nat → Int} (hS : xScr Γ L9 f) {T : xT} (hY : LayOK 208 T) {i : Int} (hi : 0 ≤ i ∧ i + 5 < L9) {M : xM} (hI : Both M) (back : ∀ M2, Both M2 → xXL Γ T 2082 i [] M2) : xXL Γ T 1989 i [] M := by
  obtain ⟨V, Hs, Ws, kp, bt, len, hI⟩ := hI
  have hc := hI.1
  have hr := hI.2.1
  have hk := hI.2.2.1
  have ht := hI.2.2.2
  obtain ⟨a1, ha1⟩ : ∃ a : Int, a = f (i + 1).toNat := ⟨_, rfl⟩
  obtain ⟨a2, ha2⟩ : ∃ a : Int, a = f (i + 2).toNat := ⟨_, rfl⟩
  refine x_aload_n G 2 rfl rfl dL_law_1989 ?_
  refine x_arg G hS 1 (by decide) hi ha1 dL_law_1990 dL_law_1991 dL_law_1992 dL_law_1993 dL_law_1994 ?_
  refine x_arg G hS 2 (by decide) hi ha2 dL_law_1995 dL_law_1996 dL_law_1997 dL_law_1998 dL_law_1999 ?_
  refine x_callVI G [] [xI a1, xI a2] rfl (by decide) (ly_n hY 0 (by decide)) (ly_k hY 0 (by decide)) hy_X6_same hi_X6_same hs_X6_same ml_L_239 rfl rfl (kX6_same _ _ V (Ws a1.toNat) a1 a2 hY hc.2.1 hc.1.1 hc.1.2 (by have := hk.1; have := hk.2.1; omega) (fun g1 g2 => (fun h => ⟨h.1, h.2.1⟩) ((kep_at hk g1).2 (by rw [hk.1] at g2; exact g2)))) (by decide) (by decide) (Nat.le_of_ble_eq_true rfl) dL_law_2000 (fun z1 M1 h1 => ?_)
  have hr1 : Ref M1 V Hs := ref_cg hr (fun q hq => h1.2 q (by simp; omega))
  have hk1 : Kep M1 Ws kp := kep_cg hk (h1.2 0 (by decide)) (fun q g1 g2 => h1.2 q (by simp; omega)) (h1.2 198 (by decide)) (h1.2 199 (by decide))
  refine x_aload_n G 1 rfl rfl dL_law_2003 ?_
  refine x_arg G hS 1 (by decide) hi ha1 dL_law_2004 dL_law_2005 dL_law_2006 dL_law_2007 dL_law_2008 ?_
  refine x_arg G hS 2 (by decide) hi ha2 dL_law_2009 dL_law_2010 dL_law_2011 dL_law_2012 dL_law_2013 ?_
  refine x_callVI G [xI z1] [xI a1, xI a2] rfl (by decide) (ly_n hY 195 (by decide)) (ly_k hY 195 (by decide)) hy_X7_same hi_X7_same hs_X7_same ml_L_242 rfl rfl (kX7_same _ _ V (Ws a1.toNat) kp a1 a2 hY hr1.1 hc.1.1 hc.1.2 hr1.2.1 (fun g => (kep_at hk1 g).1) (fun g1 g2 => ⟨((kep_at hk1 g1).2 g2).2.2, ((kep_at hk1 g1).2 g2).2.1⟩)) (by decide) (by decide) (Nat.le_of_ble_eq_true rfl) dL_law_2014 (fun z2 M2 h2 => ?_)
  have hz : z1 = z2 := by rw [h1.1, h2.1, hk.1]
  refine x_icmp_eq G 2082 (by decide) dL_law_2017 (fun _ => ?_) (fun c => absurd hz c)
  exact back M2 (inv_q hI (xof_w h1.2 (by decide)) h2.2.1 h2.2.2)
set_option maxRecDepth 100000 in
set_option maxHeartbeats 4000000 in
theorem law_56 {Γ : xΓ} (G : xGL Γ) {L9 : Nat} {f : Nat → Int} (hS : xScr Γ L9 f) {T : xT} (hY : LayOK 208 T) {i : Int} (hi : 0 ≤ i ∧ i + 5 < L9) {M : xM} (hI : Both M) (back : ∀ M2, Both M2 → xXL Γ T 2082 i [] M2) : xXL Γ T 2022 i [] M := by
  obtain ⟨V, Hs, Ws, kp, bt, len, hI⟩ := hI
  have hc := hI.1
  have hr := hI.2.1
  have hk := hI.2.2.1
  have ht := hI.2.2.2
  obtain ⟨a1, ha1⟩ : ∃ a : Int, a = f (i + 1).toNat := ⟨_, rfl⟩
  refine x_aload_n G 2 rfl rfl dL_law_2022 ?_
  refine x_arg G hS 1 (by decide) hi ha1 dL_law_2023 dL_law_2024 dL_law_2025 dL_law_2026 dL_law_2027 ?_
  refine x_callVI G [] [xI a1] rfl (by decide) (ly_n hY 0 (by decide)) (ly_k hY 0 (by decide)) hy_X6_told hi_X6_told hs_X6_told ml_L_243 rfl rfl (kX6_told _ _ V a1 hY hc.2.1 hc.1.1) (by decide) (by decide) (Nat.le_of_ble_eq_true rfl) dL_law_2028 (fun z1 M1 h1 => ?_)
  have hr1 : Ref M1 V Hs := ref_cg hr (fun q hq => h1.2 q (by simp; omega))
  refine x_aload_n G 1 rfl rfl dL_law_2031 ?_
  refine x_arg G hS 1 (by decide) hi ha1 dL_law_2032 dL_law_2033 dL_law_2034 dL_law_2035 dL_law_2036 ?_
  refine x_callVI G [xI z1] [xI a1] rfl (by decide) (ly_n hY 195 (by decide)) (ly_k hY 195 (by decide)) hy_X7_told hi_X7_told hs_X7_told ml_L_246 rfl rfl (kX7_told _ _ V a1 hY hr1.1 hc.1.1 hc.1.2 hr1.2.1) (by decide) (by decide) (Nat.le_of_ble_eq_true rfl) dL_law_2037 (fun z2 M2 h2 => ?_)
  have hz : z1 = z2 := h1.1.trans h2.1.symm
  refine x_icmp_eq G 2082 (by decide) dL_law_2040 (fun _ => ?_) (fun c => absurd hz c)
  exact back M2 (inv_q hI (xof_w h1.2 (by decide)) h2.2.1 h2.2.2)
set_option maxRecDepth 100000 in
set_option maxHeartbeats 4000000 in
theorem law_57 {Γ : xΓ} (G : xGL Γ) {L9 : Nat} {f : Nat → Int} (hS : xScr Γ L9 f) {T : xT} (hY : LayOK 208 T) {i : Int} (hi : 0 ≤ i ∧ i + 5 < L9) {M : xM} (hI : Both M) (back : ∀ M2, Both M2 → xXL Γ T 2082 i [] M2) : xXL Γ T 2045 i [] M := by
  obtain ⟨V, Hs, Ws, kp, bt, len, hI⟩ := hI
  have hc := hI.1
  have hr := hI.2.1
  have hk := hI.2.2.1
  have ht := hI.2.2.2
  refine x_aload_n G 2 rfl rfl dL_law_2045 ?_
  refine x_callVL G [] [] rfl (by decide) (ly_n hY 0 (by decide)) (ly_k hY 0 (by decide)) hy_X6_digest hi_X6_digest hs_X6_digest ml_L_247 rfl rfl (kX6_digest _ _ V  hY hc.2.1 hc.1.1 hc.1.2) (by decide) (by decide) (Nat.le_of_ble_eq_true rfl) dL_law_2046 (fun z1 M1 h1 => ?_)
  have hr1 : Ref M1 V Hs := by rw [h1.2]; exact hr
  refine x_aload_n G 1 rfl rfl dL_law_2049 ?_
  refine x_callVL G [xL z1] [] rfl (by decide) (ly_n hY 195 (by decide)) (ly_k hY 195 (by decide)) hy_X7_digest hi_X7_digest hs_X7_digest ml_L_251 rfl rfl (kX7_digest _ _ V hY hr1.1 hc.1.1) (by decide) (by decide) (Nat.le_of_ble_eq_true rfl) dL_law_2050 (fun z2 M2 h2 => ?_)
  have hz : z1 = z2 := h1.1.trans h2.1.symm
  refine x_lcmp G dL_law_2053 ?_
  refine x_if_eq G 2082 (by decide) dL_law_2054 (fun _ => ?_) (fun c => absurd (xcmp_eq.mpr hz) c)
  refine back M2 ?_
  rw [h2.2, h1.2]
  exact ⟨V, Hs, Ws, kp, bt, len, hI⟩
set_option maxRecDepth 100000 in
set_option maxHeartbeats 4000000 in
theorem law_58 {Γ : xΓ} (G : xGL Γ) {L9 : Nat} {f : Nat → Int} (hS : xScr Γ L9 f) {T : xT} (hY : LayOK 208 T) {i : Int} (hi : 0 ≤ i ∧ i + 5 < L9) {M : xM} (hI : Both M) (back : ∀ M2, Both M2 → xXL Γ T 2082 i [] M2) : xXL Γ T 2059 i [] M := by
  obtain ⟨V, Hs, Ws, kp, bt, len, hI⟩ := hI
  have hc := hI.1
  have hr := hI.2.1
  have hk := hI.2.2.1
  have ht := hI.2.2.2
  obtain ⟨a1, ha1⟩ : ∃ a : Int, a = f (i + 1).toNat := ⟨_, rfl⟩
  refine x_aload_n G 2 rfl rfl dL_law_2059 ?_
  refine x_arg G hS 1 (by decide) hi ha1 dL_law_2060 dL_law_2061 dL_law_2062 dL_law_2063 dL_law_2064 ?_
  refine x_callVI G [] [xI a1] rfl (by decide) (ly_n hY 0 (by decide)) (ly_k hY 0 (by decide)) hy_X6_count hi_X6_count hs_X6_count ml_L_252 rfl rfl (kX6_count _ _ V a1 hY hc.2.1 hc.1.1 hc.1.2) (by decide) (by decide) (Nat.le_of_ble_eq_true rfl) dL_law_2065 (fun z1 M1 h1 => ?_)
  have hr1 : Ref M1 V Hs := by rw [h1.2]; exact hr
  have hk1 : Kep M1 Ws kp := by rw [h1.2]; exact hk
  refine x_aload_n G 1 rfl rfl dL_law_2068 ?_
  refine x_arg G hS 1 (by decide) hi ha1 dL_law_2069 dL_law_2070 dL_law_2071 dL_law_2072 dL_law_2073 ?_
  refine x_callVI G [xI z1] [xI a1] rfl (by decide) (ly_n hY 195 (by decide)) (ly_k hY 195 (by decide)) hy_X7_count hi_X7_count hs_X7_count ml_L_255 rfl rfl (kX7_count _ _ V kp a1 hY hr1.1 hc.1.1 hk.2.1 (hk1.2.2 0 (by decide)).1 (hk1.2.2 1 (by decide)).1) (by decide) (by decide) (Nat.le_of_ble_eq_true rfl) dL_law_2074 (fun z2 M2 h2 => ?_)
  have hz : z1 = z2 := by rw [h1.1, h2.1, h1.2, hk.1, hc.2.2.1.2.1, hr.2.2.1, ht.2.1.1, ht.2.2.1]
  refine x_icmp_eq G 2082 (by decide) dL_law_2077 (fun _ => ?_) (fun c => absurd hz c)
  refine back M2 ?_
  rw [h2.2, h1.2]
  exact ⟨V, Hs, Ws, kp, bt, len, hI⟩
