/-- what is known of field k of class ci -/
def xFd (ci k : Nat) (ref nm ds : String) (ty : FieldType) (fin : Bool) : Prop :=
  ∃ (C : String) (Tf : u_T) (N : Nat) (ty0 : Nat → FieldType), vwCl[ci]? = some (C, Tf, N) ∧ (∀ w ∈ u_ws C Tf N, w ∈ WS) ∧ k < N ∧ Tf k = (ref, nm, ds, fin) ∧ (∀ k, k < N → parseFieldDescriptor (Tf k).2.2.1 = some (ty0 k)) ∧ (∀ a, a < N → ∀ b, b < N → a ≠ b → (Tf a).2.1 ≠ (Tf b).2.1) ∧ ty0 k = ty ∧ ci < 8 ∧ xN ci = N
/-- a method may link that field by its own pool's entry -/
def xFl (own : String) (idx : Nat) (ref nm ds : String) : Prop := Cond.fieldLink own idx ref nm ds ∈ WS ∨ (own, idx, ref, nm, ds) ∈ xnF
/-- the value of field k of a cell of layout t, whose numbers are f -/
def xfv (ci : Nat) (t : Nat × Nat × (Nat → Option Nat)) (f : Nat → Int) (k : Nat) (v : xV) : Prop := (xB ci k = false ∧ v = xI (f k)) ∨ (xB ci k = true ∧ ∃ b, t.2.2 k = some b ∧ v = xR b)
theorem xo_get {σ : Nat → Nat} {ci k : Nat} {t : Nat × Nat × (Nat → Option Nat)} {f : Nat → Int} {v : xV} (hk : k < xN ci) (h : xfv ci t f k v) : (xo σ ci t.2.2 f)[k]? = some (xc σ v) := by
  unfold xo
  rw [List.getElem?_map, List.getElem?_range hk]
  rcases h with ⟨h1, rfl⟩ | ⟨h1, b, h2, rfl⟩
  · simp [h1, xc]
  · simp [h1, h2, xc, va_rf]
theorem xe_obj {σ : Nat → Nat} {cy : Nat → ClassId} {t : Nat × Nat × (Nat → Option Nat)} {f : Nat → Int} {ci : Nat} (h : t.1 = ci) (hci : ci < 8) : xe σ cy t f = .inr (ci, xo σ ci t.2.2 f) := by
  subst h
  simp [xe, hci]
theorem xr_obj {T : xT} {M : xM} {a k ci : Nat} (hr : xr T M) (hT : (T a).1 = ci) (hci : ci < 8) : i32 (M a k) := (hr a k).2 (by omega)
theorem xfv_ok {T : xT} {M : xM} {a k ci : Nat} {v : xV} (hr : xr T M) (hT : (T a).1 = ci) (hci : ci < 8) (h : xfv ci (T a) (M a) k v) : xk v := by
  rcases h with ⟨-, rfl⟩ | ⟨-, b, -, rfl⟩
  · exact xr_obj hr hT hci
  · exact True.intro
theorem x_get {Γ : xΓ} {own : String} {cc : ByteArray} {nL fr lo mc ms : Nat} (G : xG Γ own cc nL fr lo mc ms) {cells slots n pc : Nat} {T : xT} {L : List (Nat × xV)} {st : List xV} {M : xM} {ci a k idx : Nat} {ref nm ds : String} {ty : FieldType} {fin : Bool} (v : xV) (hf : xFd ci k ref nm ds ty fin) (hl : xFl own idx ref nm ds) (ha : a < n) (hT : (T a).1 = ci) (hv : xfv ci (T a) (M a) k v) (hd : decode cc pc = .ok (.getfield idx, 3)) (kk : xX Γ cells slots n T (pc + 3) L (v :: st) M) : xX Γ cells slots n T pc L (xR a :: st) M := by
  obtain ⟨D, p, l, e, R, s, m, args, below, meth, c, Q⟩ := Γ
  obtain ⟨hx, hb, hml, hown, hts, hE, hB, hR⟩ := G
  obtain ⟨C, Tf, N, ty0, hc, hin, hk, hTk, hty, hnm, hty0, hci, hN⟩ := hf
  intro ls H locs hll hL hs hH
  obtain ⟨hP, hD, hS, hr, hz⟩ := id hH
  have he : (xw D n T M)[a]? = some (D.1 a, .inr (ci, xo D.1 ci (T a).2.2 (M a))) := by rw [xw_get ha, xe_obj hT hci]
  have hvv := xo_get (σ := D.1) (by rw [hN]; exact hk) hv
  have h9 := kk ls H locs hll hL (List.forall_mem_cons.mpr ⟨xfv_ok hr hT hci hv, (List.forall_mem_cons.mp hs).2⟩) hH
  rw [List.map_cons] at h9
  rcases hl with hl | hl
  · exact va_get hx hb hts hin hown hE.2.1 hP a he hc k hk (by rw [hTk]; exact hts _ hl) (by rw [hTk]; exact fun _ h => h) hvv hd h9
  · exact va_getN (host := "FairDraws") hx hb hts hin hown hE.2.1 hP a he hc k hk (by rw [hTk]; exact va_Nw.use rfl (hE.2.2.1 _ hl)) (by rw [hTk]; exact fun _ h => h) hvv hd h9
theorem xo_set {σ : Nat → Nat} {ci k : Nat} {r : Nat → Option Nat} {f : Nat → Int} {z : Int} (hk : k < xN ci) (hB : xB ci k = false) : (xo σ ci r f).set k (.int (Int32.ofInt z)) = xo σ ci r (fun b => if b = k then z else f b) := by
  apply List.ext_getElem?
  intro i
  unfold xo
  by_cases hi : i < xN ci
  · by_cases hk2 : i = k
    · subst hk2
      rw [List.getElem?_set_self (by simp; exact hi)]
      simp [List.getElem?_range hi, hB]
    · rw [List.getElem?_set_ne (Ne.symm hk2)]
      simp [List.getElem?_range hi, hk2]
  · rw [List.getElem?_eq_none (by simp; omega), List.getElem?_eq_none (by simp; omega)]
theorem xo_setr {σ : Nat → Nat} {ci k b : Nat} {r : Nat → Option Nat} {f : Nat → Int} (hk : k < xN ci) (hB : xB ci k = true) : (xo σ ci r f).set k (.ref (σ b)) = xo σ ci (fun i => if i = k then some b else r i) f := by
  apply List.ext_getElem?
  intro i
  unfold xo
  by_cases hi : i < xN ci
  · by_cases hk2 : i = k
    · subst hk2
      rw [List.getElem?_set_self (by simp; exact hi)]
      simp [List.getElem?_range hi, hB, va_rf]
    · rw [List.getElem?_set_ne (Ne.symm hk2)]
      simp [List.getElem?_range hi, hk2]
  · rw [List.getElem?_eq_none (by simp; omega), List.getElem?_eq_none (by simp; omega)]
theorem xo_len {σ : Nat → Nat} {ci : Nat} {r : Nat → Option Nat} {f : Nat → Int} : (xo σ ci r f).length = xN ci := by simp [xo]
theorem xr_st {T : xT} {M : xM} {a k : Nat} {z : Int} (hr : xr T M) (h10 : (T a).1 = 10 → i64 z) (h : ¬ (T a).1 = 10 → i32 z) : xr T (xst M a k z) := by
  intro a2 k2
  rw [xst_eq]
  split
  · rename_i hc
    rw [hc.1]
    exact ⟨h10, h⟩
  · exact hr a2 k2
theorem xst_ne {M : xM} {a k : Nat} {z : Int} : ∀ b, b ≠ a → xst M a k z b = M b := fun b hb => by simp [xst, hb]
theorem xst_self {M : xM} {a k : Nat} {z : Int} : xst M a k z a = fun b => if b = k then z else M a b := by simp [xst]
theorem xH_set {D : xD} {s : State} {n a k9 : Nat} {T T' : xT} {M M' : xM} {H H1 : Heap} {locs : List Loc} (hH : xH D s n T M H locs) (ha : a < n) (z : H1.size = H.size) (oq : ∀ q : Nat, q ≠ D.1 a → H1[q]? = H[q]?) (hat : va_at D.2.2.2 vwCl (D.1 a, xe D.1 D.2.1 (T' a) (M' a)) H1) (hT : ∀ b, b ≠ a → T' b = T b) (hM : ∀ b, b ≠ a → M' b = M b) (hr : xr T' M') : xH D s n T' M' H1 (locs ++ [⟨D.1 a, k9⟩]) := by
  obtain ⟨hP, hD, hS, -, hz⟩ := hH
  refine ⟨?_, ?_, hS.put z oq (hD.2 a _ (xw_get ha)), hr, by rw [z]; exact hz⟩
  · rw [← xw_set ha hT hM]
    exact hP.set hD (xw_get ha) hat oq
  · rw [← xw_set ha hT hM]
    exact hD.set (xw_get ha)
/-- a field's cell, as the machine has it -/
theorem x_cell {D : xD} {n a ci : Nat} {T : xT} {M : xM} {H : Heap} {C : String} {Tf : u_T} {N : Nat} (hP : va_P D.2.2.2 vwCl (xw D n T M) H) (ha : a < n) (hT : (T a).1 = ci) (hci : ci < 8) (hc : vwCl[ci]? = some (C, Tf, N)) : t_OB (D.1 a) (D.2.2.2.1 ci) N (D.2.2.2.2 ci) H (vp_V (xo D.1 ci (T a).2.2 (M a))) := by
  have h := hP a _ (xw_get ha)
  rw [xe_obj hT hci] at h
  obtain ⟨r, h1, h2⟩ := h
  have hr : r = (C, Tf, N) := Option.some.inj (h1.symm.trans hc)
  subst hr
  exact h2
theorem x_put {Γ : xΓ} {own : String} {cc : ByteArray} {nL fr lo mc ms : Nat} (G : xG Γ own cc nL fr lo mc ms) {cells slots n pc : Nat} {T : xT} {L : List (Nat × xV)} {st : List xV} {M : xM} {ci a k idx : Nat} {ref nm ds : String} {z : Int} (hf : xFd ci k ref nm ds .int false) (hl : xFl own idx ref nm ds) (ha : a < n) (hT : (T a).1 = ci) (hB2 : xB ci k = false) (hd : decode cc pc = .ok (.putfield idx, 3)) (kk : xX Γ cells slots n T (pc + 3) L st (xst M a k z)) : xX Γ cells slots n T pc L (xI z :: xR a :: st) M := by
  obtain ⟨D, p, l, e, R, s, m, args, below, meth, c, Q⟩ := Γ
  obtain ⟨hx, hb, hml, hown, hts, hE, hB, hR⟩ := G
  obtain ⟨C, Tf, N, ty0, hc, hin, hk, hTk, hty, hnm, hty0, hci, hN⟩ := hf
  intro ls H locs hll hL hs hH
  obtain ⟨hz0, hs⟩ := List.forall_mem_cons.mp hs
  obtain ⟨-, hs⟩ := List.forall_mem_cons.mp hs
  have hpd : parseFieldDescriptor (Tf k).2.2.1 = some .int := by rw [hty k hk, hty0]
  have hap := va_apart (own := own) hts hin ty0 hty hnm hE.2.1 hc
  obtain ⟨cell, q1, q2, q3, q4⟩ := x_cell hH.1 ha hT hci hc
  obtain ⟨hS9, hfc, kC, hkC, hkind⟩ := hE.2.1.1 ci _ hc
  obtain ⟨cf, kf, fi, f, hi, hsl⟩ := hS9 k hk
  have hlay := hts _ (hin _ (u_in_lay hk))
  unfold u_lay at hlay
  rw [if_neg (by rw [hTk]; exact Bool.false_ne_true)] at hlay
  have hst := (u_facts hfc hkC (u_lays hts hin hk) hi).1
  have h6 := u_store hfc hkC hkind hlay hi hpd (v := .int (Int32.ofInt z)) (rfl) (rfl)
  have hi2 : s.fieldFound? ref nm ds = some (cf, kf, fi, f) := by
    have hi : s.fieldFound? (Tf k).1 (Tf k).2.1 (Tf k).2.2.1 = some (cf, kf, fi, f) := hi
    rw [hTk] at hi
    exact hi
  have fin : ∀ H' : Heap, H'[D.1 a]? = some (cell.setSlot f.slot (.int (Int32.ofInt z))) → H'.size = H.size → (∀ q, q ≠ D.1 a → H'[q]? = H[q]?) → W p l e R s m args below meth c H' (locs ++ [⟨D.1 a, f.slot⟩]) cells slots Q (F0 m (pc + 3) ls (st.map (xc D.1))) := by
    intro H' e1 e2 e3
    refine kk ls H' _ hll hL hs (xH_set (T' := T) hH ha e2 e3 ?_ (fun _ _ => rfl) xst_ne (xr_st hH.2.2.2.1 (fun h => by omega) (fun _ => hz0)))
    rw [xe_obj hT hci, xst_self, ← xo_set (by rw [hN]; exact hk) hB2]
    rw [hsl] at e1
    exact ⟨_, hc, t_OB.to (V := updV (vp_V (xo D.1 ci (T a).2.2 (M a))) k (.int (Int32.ofInt z))) ⟨_, e1, q2, q3, t_set q4 hap hk _⟩ (fun j _ => vp_updV_set (by rw [xo_len, hN]; exact hk) _ j)⟩
  rcases hl with hl | hl
  · exact W.putK hx hb (f := f) ⟨hown, hts _ hl, ⟨_, _, _, hi2⟩, hst⟩ (by rw [q2]; exact h6) q1 q3 (by rw [hsl]; exact k2_hasslot (q4 k hk)) rfl rfl hd fin
  · exact va_WputK (host := "FairDraws") hx hb (f := f) hown (va_Nw.use rfl (hE.2.2.1 _ hl)) hi2 hst (by rw [q2]; exact h6) q1 q3 (by rw [hsl]; exact k2_hasslot (q4 k hk)) rfl rfl hd fin
theorem x_putz {Γ : xΓ} {own : String} {cc : ByteArray} {nL fr lo mc ms : Nat} (G : xG Γ own cc nL fr lo mc ms) {cells slots n pc : Nat} {T : xT} {L : List (Nat × xV)} {st : List xV} {M : xM} {ci a k idx : Nat} {ref nm ds : String} {z : Int} (hz1 : z = 0 ∨ z = 1) (hf : xFd ci k ref nm ds .boolean false) (hl : xFl own idx ref nm ds) (ha : a < n) (hT : (T a).1 = ci) (hB2 : xB ci k = false) (hd : decode cc pc = .ok (.putfield idx, 3)) (kk : xX Γ cells slots n T (pc + 3) L st (xst M a k z)) : xX Γ cells slots n T pc L (xI z :: xR a :: st) M := by
  obtain ⟨D, p, l, e, R, s, m, args, below, meth, c, Q⟩ := Γ
  obtain ⟨hx, hb, hml, hown, hts, hE, hB, hR⟩ := G
  obtain ⟨C, Tf, N, ty0, hc, hin, hk, hTk, hty, hnm, hty0, hci, hN⟩ := hf
  intro ls H locs hll hL hs hH
  obtain ⟨hz0, hs⟩ := List.forall_mem_cons.mp hs
  obtain ⟨-, hs⟩ := List.forall_mem_cons.mp hs
  have hpd : parseFieldDescriptor (Tf k).2.2.1 = some .boolean := by rw [hty k hk, hty0]
  have hap := va_apart (own := own) hts hin ty0 hty hnm hE.2.1 hc
  obtain ⟨cell, q1, q2, q3, q4⟩ := x_cell hH.1 ha hT hci hc
  obtain ⟨hS9, hfc, kC, hkC, hkind⟩ := hE.2.1.1 ci _ hc
  obtain ⟨cf, kf, fi, f, hi, hsl⟩ := hS9 k hk
  have hlay := hts _ (hin _ (u_in_lay hk))
  unfold u_lay at hlay
  rw [if_neg (by rw [hTk]; exact Bool.false_ne_true)] at hlay
  have hst := (u_facts hfc hkC (u_lays hts hin hk) hi).1
  have h6 := u_store hfc hkC hkind hlay hi hpd (v := .int (Int32.ofInt z)) (by rcases hz1 with rfl | rfl <;> rfl) (by rcases hz1 with rfl | rfl <;> rfl)
  have hi2 : s.fieldFound? ref nm ds = some (cf, kf, fi, f) := by
    have hi : s.fieldFound? (Tf k).1 (Tf k).2.1 (Tf k).2.2.1 = some (cf, kf, fi, f) := hi
    rw [hTk] at hi
    exact hi
  have fin : ∀ H' : Heap, H'[D.1 a]? = some (cell.setSlot f.slot (.int (Int32.ofInt z))) → H'.size = H.size → (∀ q, q ≠ D.1 a → H'[q]? = H[q]?) → W p l e R s m args below meth c H' (locs ++ [⟨D.1 a, f.slot⟩]) cells slots Q (F0 m (pc + 3) ls (st.map (xc D.1))) := by
    intro H' e1 e2 e3
    refine kk ls H' _ hll hL hs (xH_set (T' := T) hH ha e2 e3 ?_ (fun _ _ => rfl) xst_ne (xr_st hH.2.2.2.1 (fun h => by omega) (fun _ => hz0)))
    rw [xe_obj hT hci, xst_self, ← xo_set (by rw [hN]; exact hk) hB2]
    rw [hsl] at e1
    exact ⟨_, hc, t_OB.to (V := updV (vp_V (xo D.1 ci (T a).2.2 (M a))) k (.int (Int32.ofInt z))) ⟨_, e1, q2, q3, t_set q4 hap hk _⟩ (fun j _ => vp_updV_set (by rw [xo_len, hN]; exact hk) _ j)⟩
  rcases hl with hl | hl
  · exact W.putK hx hb (f := f) ⟨hown, hts _ hl, ⟨_, _, _, hi2⟩, hst⟩ (by rw [q2]; exact h6) q1 q3 (by rw [hsl]; exact k2_hasslot (q4 k hk)) rfl rfl hd fin
  · exact va_WputK (host := "FairDraws") hx hb (f := f) hown (va_Nw.use rfl (hE.2.2.1 _ hl)) hi2 hst (by rw [q2]; exact h6) q1 q3 (by rw [hsl]; exact k2_hasslot (q4 k hk)) rfl rfl hd fin
theorem xr_Tr {T : xT} {M : xM} {a k b : Nat} (h : xr T M) : xr (xTr T a k b) M := by
  intro q j
  have h8 : (xTr T a k b q).1 = (T q).1 := by
    by_cases hq : q = a
    · subst hq; simp [xTr]
    · simp [xTr, hq]
  rw [h8]
  exact h q j
def xIsInit (Γ : xΓ) : Prop := match Γ with
  | (_, _, _, _, _, _, _, _, _, meth, _, _) => meth.name = "<init>"
theorem x_putr {Γ : xΓ} {own : String} {cc : ByteArray} {nL fr lo mc ms : Nat} (G : xG Γ own cc nL fr lo mc ms) {cells slots n pc : Nat} {T : xT} {L : List (Nat × xV)} {st : List xV} {M : xM} (hinit : xIsInit Γ) {ci a b k idx : Nat} {ref nm ds : String} {ty : FieldType} (hf : xFd ci k ref nm ds ty true) (href : ref = own) (hty1 : ∀ q : Nat, narrow ty (.ref q) = .ref q ∧ fits ty (.ref q) = true) (hl : Cond.fieldLink own idx ref nm ds ∈ WS) (ha : a < n) (hT : (T a).1 = ci) (hB2 : xB ci k = true) (hd : decode cc pc = .ok (.putfield idx, 3)) (kk : xX Γ cells slots n (xTr T a k b) (pc + 3) L st M) : xX Γ cells slots n T pc L (xR b :: xR a :: st) M := by
  obtain ⟨D, p, l, e, R, s, m, args, below, meth, c, Q⟩ := Γ
  obtain ⟨hx, hb, hml, hown, hts, hE, hB, hR⟩ := G
  have hinit : meth.name = "<init>" := hinit
  obtain ⟨C, Tf, N, ty0, hc, hin, hk, hTk, hty, hnm, hty0, hci, hN⟩ := hf
  intro ls H locs hll hL hs hH
  obtain ⟨-, hs⟩ := List.forall_mem_cons.mp hs
  obtain ⟨-, hs⟩ := List.forall_mem_cons.mp hs
  have hpd : parseFieldDescriptor (Tf k).2.2.1 = some ty := by rw [hty k hk, hty0]
  have hap := va_apart (own := own) hts hin ty0 hty hnm hE.2.1 hc
  obtain ⟨cell, q1, q2, q3, q4⟩ := x_cell hH.1 ha hT hci hc
  obtain ⟨hS9, hfc, kC, hkC, hkind⟩ := hE.2.1.1 ci _ hc
  obtain ⟨cf, kf, fi, f, hi, hsl⟩ := hS9 k hk
  have hlay := hts _ (hin _ (u_in_lay hk))
  unfold u_lay at hlay
  rw [if_pos (by rw [hTk])] at hlay
  have hst := (u_facts hfc hkC (u_lays hts hin hk) hi).1
  have hcf : m.cls = cf := by
    obtain ⟨_, _, c', _, _, _, -, -, hf', -, -, -, hown2, -⟩ := Cond.laysFinal_spec hlay
    have e1 : c' = cf := by have := hi.symm.trans hf'; simp at this; exact this.1.symm
    rw [hTk, href] at hown2
    rw [← e1]; exact Option.some.inj (hown.symm.trans hown2)
  have h6 := u_fits hfc hkC hkind (Or.inr hlay) hi hpd (v := .ref (D.1 b)) (hty1 _).1 (hty1 _).2
  have hi2 : s.fieldFound? ref nm ds = some (cf, kf, fi, f) := by
    have hi : s.fieldFound? (Tf k).1 (Tf k).2.1 (Tf k).2.2.1 = some (cf, kf, fi, f) := hi
    rw [hTk] at hi
    exact hi
  refine W.putFinK hx hb hown (hts _ hl) hi2 hst hcf hinit (by rw [q2]; exact h6) q1 q3 (by rw [hsl]; exact k2_hasslot (q4 k hk)) rfl rfl hd fun H' e1 e2 e3 => ?_
  have hT2 : (xTr T a k b a).1 = ci := by simp [xTr, hT]
  refine kk ls H' _ hll hL hs (xH_set (T' := xTr T a k b) (M' := M) hH ha e2 e3 ?_ (fun q hq => by simp [xTr, hq]) (fun _ _ => rfl) ?_)
  · rw [xe_obj hT2 hci]
    have h7 : (xTr T a k b a).2.2 = fun i => if i = k then some b else (T a).2.2 i := by simp [xTr]
    rw [h7, ← xo_setr (by rw [hN]; exact hk) hB2]
    rw [hsl] at e1
    exact ⟨_, hc, t_OB.to (V := updV (vp_V (xo D.1 ci (T a).2.2 (M a))) k (.ref (D.1 b))) ⟨_, e1, q2, q3, t_set q4 hap hk _⟩ (fun j _ => vp_updV_set (by rw [xo_len, hN]; exact hk) _ j)⟩
  · exact xr_Tr hH.2.2.2.1
theorem xe_arr {σ : Nat → Nat} {cy : Nat → ClassId} {t : Nat × Nat × (Nat → Option Nat)} {f : Nat → Int} {c : Nat} (h : t.1 = c) (h1 : ¬ c < 8) (h2 : ¬ c = 10) (h3 : ¬ c = 12) : xe σ cy t f = .inl (cy c, t.2.1, .inl fun j => Int32.ofInt (f j)) := by
  subst h
  simp [xe, h1, h2, h3]
theorem xe_arrL {σ : Nat → Nat} {cy : Nat → ClassId} {t : Nat × Nat × (Nat → Option Nat)} {f : Nat → Int} (h : t.1 = 10) : xe σ cy t f = .inl (cy 10, t.2.1, .inr (.inl fun j => Int64.ofInt (f j))) := by
  simp [xe, h]
theorem xe_arrR {σ : Nat → Nat} {cy : Nat → ClassId} {t : Nat × Nat × (Nat → Option Nat)} {f : Nat → Int} (h : t.1 = 12) : xe σ cy t f = .inl (cy 12, t.2.1, .inr (.inr (.inr (.inr fun j => (t.2.2 j).map σ)))) := by
  simp [xe, h]
theorem xnarb {v : Int} (hv : -128 ≤ v ∧ v < 128) : narrow .byte (.int (Int32.ofInt v)) = .int (Int32.ofInt v) := by
  show Value.int _ = _
  congr 1
  apply Int32.toInt_inj.mp
  rw [x_toInt (by omega), Int8.toInt_toInt32, Int32.toInt_toInt8, x_toInt (by omega)]
  exact Int.bmod_eq_of_le (by simp; omega) (by simp; omega)
theorem x_iald {Γ : xΓ} {own : String} {cc : ByteArray} {nL fr lo mc ms : Nat} (G : xG Γ own cc nL fr lo mc ms) {cells slots n pc : Nat} {T : xT} {L : List (Nat × xV)} {st : List xV} {M : xM} {a : Nat} {i : Int} (ha : a < n) (hT : (T a).1 = 9) {len : Nat} (hlen : (T a).2.1 = len) (h0 : 0 ≤ i) (h1 : i < len) (hd : decode cc pc = .ok (.iaload, 1)) (kk : xX Γ cells slots n T (pc + 1) L (xI (M a i.toNat) :: st) M) : xX Γ cells slots n T pc L (xI i :: xR a :: st) M := by
  obtain ⟨D, p, l, e, R, s, m, args, below, meth, c, Q⟩ := Γ
  obtain ⟨hx, hb, hml, hown, hts, hE, hB, hR⟩ := G
  subst hlen
  intro ls H locs hll hL hs hH
  obtain ⟨hi, hs⟩ := List.forall_mem_cons.mp hs
  obtain ⟨-, hs⟩ := List.forall_mem_cons.mp hs
  have he : (xw D n T M)[a]? = some (D.1 a, .inl (D.2.1 9, (T a).2.1, .inl fun j => Int32.ofInt (M a j))) := by rw [xw_get ha, xe_arr hT (by decide) (by decide) (by decide)]
  have h9 := kk ls H locs hll hL (List.forall_mem_cons.mpr ⟨(hH.2.2.2.1 a i.toNat).2 (by omega), hs⟩) hH
  rw [List.map_cons] at h9
  refine va_iald hx hb hE.2.1 hH.1 a 1 he rfl (x_in hi h0 h1) hd ?_
  try dsimp only
  rw [x_nat hi]
  exact h9
theorem x_iast {Γ : xΓ} {own : String} {cc : ByteArray} {nL fr lo mc ms : Nat} (G : xG Γ own cc nL fr lo mc ms) {cells slots n pc : Nat} {T : xT} {L : List (Nat × xV)} {st : List xV} {M : xM} {a : Nat} {i v : Int} (ha : a < n) (hT : (T a).1 = 9) {len : Nat} (hlen : (T a).2.1 = len) (h0 : 0 ≤ i) (h1 : i < len) (hd : decode cc pc = .ok (.iastore, 1)) (kk : xX Γ cells slots n T (pc + 1) L st (xst M a i.toNat v)) : xX Γ cells slots n T pc L (xI v :: xI i :: xR a :: st) M := by
  obtain ⟨D, p, l, e, R, s, m, args, below, meth, c, Q⟩ := Γ
  obtain ⟨hx, hb, hml, hown, hts, hE, hB, hR⟩ := G
  subst hlen
  intro ls H locs hll hL hs hH
  obtain ⟨hv0, hs⟩ := List.forall_mem_cons.mp hs
  obtain ⟨hi, hs⟩ := List.forall_mem_cons.mp hs
  obtain ⟨-, hs⟩ := List.forall_mem_cons.mp hs
  have he : (xw D n T M)[a]? = some (D.1 a, .inl (D.2.1 9, (T a).2.1, .inl fun j => Int32.ofInt (M a j))) := by rw [xw_get ha, xe_arr hT (by decide) (by decide) (by decide)]
  refine W.iast hx hb (hH.1 a _ he) ((hE.2.1.2 1 _ rfl).1 (T a).2.1 (fun j => .int (Int32.ofInt (M a j)))) (fun q => by cases q) (by show ¬ (Int32.ofInt i < 0 ∨ (arrV _ _ _).slots.size ≤ _); rw [arrV_size]; exact x_in hi h0 h1) rfl rfl hd fun H1 e z oq => ?_
  refine kk ls H1 _ hll hL hs (xH_set (T' := T) hH ha z oq ?_ (fun _ _ => rfl) xst_ne (xr_st hH.2.2.2.1 (fun h => by omega) (fun _ => hv0)))
  rw [xe_arr hT (by decide) (by decide) (by decide), xst_self]
  show H1[D.1 a]? = some (vp_cell _ _)
  rw [e, x_nat hi]
  rw [vp_cell_i, vp_cell_i, arrV_store]
  congr 2
  funext q
  by_cases hq : q = i.toNat
  · subst hq
    simp [updV]
  · simp [updV, hq]
theorem x_bald {Γ : xΓ} {own : String} {cc : ByteArray} {nL fr lo mc ms : Nat} (G : xG Γ own cc nL fr lo mc ms) {cells slots n pc : Nat} {T : xT} {L : List (Nat × xV)} {st : List xV} {M : xM} {a : Nat} {i : Int} (ha : a < n) (hT : (T a).1 = 8) {len : Nat} (hlen : (T a).2.1 = len) (h0 : 0 ≤ i) (h1 : i < len) (hd : decode cc pc = .ok (.baload, 1)) (kk : xX Γ cells slots n T (pc + 1) L (xI (M a i.toNat) :: st) M) : xX Γ cells slots n T pc L (xI i :: xR a :: st) M := by
  obtain ⟨D, p, l, e, R, s, m, args, below, meth, c, Q⟩ := Γ
  obtain ⟨hx, hb, hml, hown, hts, hE, hB, hR⟩ := G
  subst hlen
  intro ls H locs hll hL hs hH
  obtain ⟨hi, hs⟩ := List.forall_mem_cons.mp hs
  obtain ⟨-, hs⟩ := List.forall_mem_cons.mp hs
  have he : (xw D n T M)[a]? = some (D.1 a, .inl (D.2.1 8, (T a).2.1, .inl fun j => Int32.ofInt (M a j))) := by rw [xw_get ha, xe_arr hT (by decide) (by decide) (by decide)]
  have h9 := kk ls H locs hll hL (List.forall_mem_cons.mpr ⟨(hH.2.2.2.1 a i.toNat).2 (by omega), hs⟩) hH
  rw [List.map_cons] at h9
  refine va_bald hx hb hE.2.1 hH.1 a 0 he rfl (x_in hi h0 h1) hd ?_
  try dsimp only
  rw [x_nat hi]
  exact h9
theorem x_bast {Γ : xΓ} {own : String} {cc : ByteArray} {nL fr lo mc ms : Nat} (G : xG Γ own cc nL fr lo mc ms) {cells slots n pc : Nat} {T : xT} {L : List (Nat × xV)} {st : List xV} {M : xM} {a : Nat} {i v : Int} (hv : -128 ≤ v ∧ v < 128) (ha : a < n) (hT : (T a).1 = 8) {len : Nat} (hlen : (T a).2.1 = len) (h0 : 0 ≤ i) (h1 : i < len) (hd : decode cc pc = .ok (.bastore, 1)) (kk : xX Γ cells slots n T (pc + 1) L st (xst M a i.toNat v)) : xX Γ cells slots n T pc L (xI v :: xI i :: xR a :: st) M := by
  obtain ⟨D, p, l, e, R, s, m, args, below, meth, c, Q⟩ := Γ
  obtain ⟨hx, hb, hml, hown, hts, hE, hB, hR⟩ := G
  subst hlen
  intro ls H locs hll hL hs hH
  obtain ⟨hv0, hs⟩ := List.forall_mem_cons.mp hs
  obtain ⟨hi, hs⟩ := List.forall_mem_cons.mp hs
  obtain ⟨-, hs⟩ := List.forall_mem_cons.mp hs
  have he : (xw D n T M)[a]? = some (D.1 a, .inl (D.2.1 8, (T a).2.1, .inl fun j => Int32.ofInt (M a j))) := by rw [xw_get ha, xe_arr hT (by decide) (by decide) (by decide)]
  refine W.bast hx hb (hH.1 a _ he) ((hE.2.1.2 0 _ rfl).1 (T a).2.1 (fun j => .int (Int32.ofInt (M a j)))) (fun q => by cases q) (by show ¬ (Int32.ofInt i < 0 ∨ (arrV _ _ _).slots.size ≤ _); rw [arrV_size]; exact x_in hi h0 h1) rfl rfl hd fun H1 e z oq => ?_
  refine kk ls H1 _ hll hL hs (xH_set (T' := T) hH ha z oq ?_ (fun _ _ => rfl) xst_ne (xr_st hH.2.2.2.1 (fun h => by omega) (fun _ => hv0)))
  rw [xe_arr hT (by decide) (by decide) (by decide), xst_self]
  show H1[D.1 a]? = some (vp_cell _ _)
  rw [e, x_nat hi]
  rw [vp_cell_i, vp_cell_i, arrV_store]
  congr 2
  funext q
  by_cases hq : q = i.toNat
  · subst hq
    simp [updV]
    exact xnarb hv
  · simp [updV, hq]
theorem x_zald {Γ : xΓ} {own : String} {cc : ByteArray} {nL fr lo mc ms : Nat} (G : xG Γ own cc nL fr lo mc ms) {cells slots n pc : Nat} {T : xT} {L : List (Nat × xV)} {st : List xV} {M : xM} {a : Nat} {i : Int} (ha : a < n) (hT : (T a).1 = 11) {len : Nat} (hlen : (T a).2.1 = len) (h0 : 0 ≤ i) (h1 : i < len) (hd : decode cc pc = .ok (.baload, 1)) (kk : xX Γ cells slots n T (pc + 1) L (xI (M a i.toNat) :: st) M) : xX Γ cells slots n T pc L (xI i :: xR a :: st) M := by
  obtain ⟨D, p, l, e, R, s, m, args, below, meth, c, Q⟩ := Γ
  obtain ⟨hx, hb, hml, hown, hts, hE, hB, hR⟩ := G
  subst hlen
  intro ls H locs hll hL hs hH
  obtain ⟨hi, hs⟩ := List.forall_mem_cons.mp hs
  obtain ⟨-, hs⟩ := List.forall_mem_cons.mp hs
  have he : (xw D n T M)[a]? = some (D.1 a, .inl (D.2.1 11, (T a).2.1, .inl fun j => Int32.ofInt (M a j))) := by rw [xw_get ha, xe_arr hT (by decide) (by decide) (by decide)]
  have h9 := kk ls H locs hll hL (List.forall_mem_cons.mpr ⟨(hH.2.2.2.1 a i.toNat).2 (by omega), hs⟩) hH
  rw [List.map_cons] at h9
  refine va_zald hx hb hE.2.1 hH.1 a 3 he rfl (x_in hi h0 h1) hd ?_
  try dsimp only
  rw [x_nat hi]
  exact h9
theorem x_zast {Γ : xΓ} {own : String} {cc : ByteArray} {nL fr lo mc ms : Nat} (G : xG Γ own cc nL fr lo mc ms) {cells slots n pc : Nat} {T : xT} {L : List (Nat × xV)} {st : List xV} {M : xM} {a : Nat} {i v : Int} (hv : v = 0 ∨ v = 1) (ha : a < n) (hT : (T a).1 = 11) {len : Nat} (hlen : (T a).2.1 = len) (h0 : 0 ≤ i) (h1 : i < len) (hd : decode cc pc = .ok (.bastore, 1)) (kk : xX Γ cells slots n T (pc + 1) L st (xst M a i.toNat v)) : xX Γ cells slots n T pc L (xI v :: xI i :: xR a :: st) M := by
  obtain ⟨D, p, l, e, R, s, m, args, below, meth, c, Q⟩ := Γ
  obtain ⟨hx, hb, hml, hown, hts, hE, hB, hR⟩ := G
  subst hlen
  intro ls H locs hll hL hs hH
  obtain ⟨hv0, hs⟩ := List.forall_mem_cons.mp hs
  obtain ⟨hi, hs⟩ := List.forall_mem_cons.mp hs
  obtain ⟨-, hs⟩ := List.forall_mem_cons.mp hs
  have he : (xw D n T M)[a]? = some (D.1 a, .inl (D.2.1 11, (T a).2.1, .inl fun j => Int32.ofInt (M a j))) := by rw [xw_get ha, xe_arr hT (by decide) (by decide) (by decide)]
  refine W.zast hx hb (hH.1 a _ he) ((hE.2.1.2 3 _ rfl).1 (T a).2.1 (fun j => .int (Int32.ofInt (M a j)))) (fun q => by cases q) (by show ¬ (Int32.ofInt i < 0 ∨ (arrV _ _ _).slots.size ≤ _); rw [arrV_size]; exact x_in hi h0 h1) rfl rfl hd fun H1 e z oq => ?_
  refine kk ls H1 _ hll hL hs (xH_set (T' := T) hH ha z oq ?_ (fun _ _ => rfl) xst_ne (xr_st hH.2.2.2.1 (fun h => by omega) (fun _ => hv0)))
  rw [xe_arr hT (by decide) (by decide) (by decide), xst_self]
  show H1[D.1 a]? = some (vp_cell _ _)
  rw [e, x_nat hi]
  rw [vp_cell_i, vp_cell_i, arrV_store]
  congr 2
  funext q
  by_cases hq : q = i.toNat
  · subst hq
    rcases hv with rfl | rfl <;> simp [updV] <;> rfl
  · simp [updV, hq]
theorem x_lald {Γ : xΓ} {own : String} {cc : ByteArray} {nL fr lo mc ms : Nat} (G : xG Γ own cc nL fr lo mc ms) {cells slots n pc : Nat} {T : xT} {L : List (Nat × xV)} {st : List xV} {M : xM} {a : Nat} {i : Int} (ha : a < n) (hT : (T a).1 = 10) {len : Nat} (hlen : (T a).2.1 = len) (h0 : 0 ≤ i) (h1 : i < len) (hd : decode cc pc = .ok (.laload, 1)) (kk : xX Γ cells slots n T (pc + 1) L (xL (M a i.toNat) :: st) M) : xX Γ cells slots n T pc L (xI i :: xR a :: st) M := by
  obtain ⟨D, p, l, e, R, s, m, args, below, meth, c, Q⟩ := Γ
  obtain ⟨hx, hb, hml, hown, hts, hE, hB, hR⟩ := G
  subst hlen
  intro ls H locs hll hL hs hH
  obtain ⟨hi, hs⟩ := List.forall_mem_cons.mp hs
  obtain ⟨-, hs⟩ := List.forall_mem_cons.mp hs
  have he : (xw D n T M)[a]? = some (D.1 a, .inl (D.2.1 10, (T a).2.1, .inr (.inl fun j => Int64.ofInt (M a j)))) := by rw [xw_get ha, xe_arrL hT]
  have h9 := kk ls H locs hll hL (List.forall_mem_cons.mpr ⟨(hH.2.2.2.1 a i.toNat).1 hT, hs⟩) hH
  rw [List.map_cons] at h9
  refine va_lald hx hb hE.2.1 hH.1 a 2 he rfl (x_in hi h0 h1) hd ?_
  try dsimp only
  rw [x_nat hi]
  exact h9
theorem x_last {Γ : xΓ} {own : String} {cc : ByteArray} {nL fr lo mc ms : Nat} (G : xG Γ own cc nL fr lo mc ms) {cells slots n pc : Nat} {T : xT} {L : List (Nat × xV)} {st : List xV} {M : xM} {a : Nat} {i v : Int} (ha : a < n) (hT : (T a).1 = 10) {len : Nat} (hlen : (T a).2.1 = len) (h0 : 0 ≤ i) (h1 : i < len) (hd : decode cc pc = .ok (.lastore, 1)) (kk : xX Γ cells slots n T (pc + 1) L st (xst M a i.toNat v)) : xX Γ cells slots n T pc L (xL v :: xI i :: xR a :: st) M := by
  obtain ⟨D, p, l, e, R, s, m, args, below, meth, c, Q⟩ := Γ
  obtain ⟨hx, hb, hml, hown, hts, hE, hB, hR⟩ := G
  subst hlen
  intro ls H locs hll hL hs hH
  obtain ⟨hv0, hs⟩ := List.forall_mem_cons.mp hs
  obtain ⟨hi, hs⟩ := List.forall_mem_cons.mp hs
  obtain ⟨-, hs⟩ := List.forall_mem_cons.mp hs
  have he : (xw D n T M)[a]? = some (D.1 a, .inl (D.2.1 10, (T a).2.1, .inr (.inl fun j => Int64.ofInt (M a j)))) := by rw [xw_get ha, xe_arrL hT]
  refine W.last hx hb (hH.1 a _ he) ((hE.2.1.2 2 _ rfl).1 (T a).2.1 (fun j => .long (Int64.ofInt (M a j)))) (fun q => by cases q) (by show ¬ (Int32.ofInt i < 0 ∨ (arrV _ _ _).slots.size ≤ _); rw [arrV_size]; exact x_in hi h0 h1) rfl rfl hd fun H1 e z oq => ?_
  refine kk ls H1 _ hll hL hs (xH_set (T' := T) hH ha z oq ?_ (fun _ _ => rfl) xst_ne (xr_st hH.2.2.2.1 (fun _ => hv0) (fun h => absurd hT h)))
  rw [xe_arrL hT, xst_self]
  show H1[D.1 a]? = some (vp_cell _ _)
  rw [e, x_nat hi]
  rw [vp_cell_l, vp_cell_l, arrV_store]
  congr 2
  funext q
  by_cases hq : q = i.toNat
  · subst hq
    simp [updV]
  · simp [updV, hq]
theorem x_aald {Γ : xΓ} {own : String} {cc : ByteArray} {nL fr lo mc ms : Nat} (G : xG Γ own cc nL fr lo mc ms) {cells slots n pc : Nat} {T : xT} {L : List (Nat × xV)} {st : List xV} {M : xM} {a b : Nat} {i : Int} (ha : a < n) (hT : (T a).1 = 12) {len : Nat} (hlen : (T a).2.1 = len) (h0 : 0 ≤ i) (h1 : i < len) (hb9 : (T a).2.2 i.toNat = some b) (hd : decode cc pc = .ok (.aaload, 1)) (kk : xX Γ cells slots n T (pc + 1) L (xR b :: st) M) : xX Γ cells slots n T pc L (xI i :: xR a :: st) M := by
  obtain ⟨D, p, l, e, R, s, m, args, below, meth, c, Q⟩ := Γ
  obtain ⟨hx, hb, hml, hown, hts, hE, hB, hR⟩ := G
  subst hlen
  intro ls H locs hll hL hs hH
  obtain ⟨hi, hs⟩ := List.forall_mem_cons.mp hs
  obtain ⟨-, hs⟩ := List.forall_mem_cons.mp hs
  have he : (xw D n T M)[a]? = some (D.1 a, .inl (D.2.1 12, (T a).2.1, .inr (.inr (.inr (.inr fun j => ((T a).2.2 j).map D.1))))) := by rw [xw_get ha, xe_arrR hT]
  have h9 := kk ls H locs hll hL (List.forall_mem_cons.mpr ⟨True.intro, hs⟩) hH
  rw [List.map_cons] at h9
  refine va_aldq hx hb hE.2.1 hH.1 a 4 he rfl (x_in hi h0 h1) hd ?_
  try dsimp only
  rw [x_nat hi, hb9]
  exact h9
theorem x_aast {Γ : xΓ} {own : String} {cc : ByteArray} {nL fr lo mc ms : Nat} (G : xG Γ own cc nL fr lo mc ms) {cells slots n pc : Nat} {T : xT} {L : List (Nat × xV)} {st : List xV} {M : xM} {a b : Nat} {i : Int} (ha : a < n) (hb8 : b < n) (hTb : (T b).1 = 3) (hT : (T a).1 = 12) {len : Nat} (hlen : (T a).2.1 = len) (h0 : 0 ≤ i) (h1 : i < len) (hd : decode cc pc = .ok (.aastore, 1)) (kk : xX Γ cells slots n (xTr T a i.toNat b) (pc + 1) L st M) : xX Γ cells slots n T pc L (xR b :: xI i :: xR a :: st) M := by
  obtain ⟨D, p, l, e, R, s, m, args, below, meth, c, Q⟩ := Γ
  obtain ⟨hx, hb, hml, hown, hts, hE, hB, hR⟩ := G
  subst hlen
  intro ls H locs hll hL hs hH
  obtain ⟨-, hs⟩ := List.forall_mem_cons.mp hs
  obtain ⟨hi, hs⟩ := List.forall_mem_cons.mp hs
  obtain ⟨-, hs⟩ := List.forall_mem_cons.mp hs
  have he : (xw D n T M)[a]? = some (D.1 a, .inl (D.2.1 12, (T a).2.1, .inr (.inr (.inr (.inr fun j => ((T a).2.2 j).map D.1))))) := by rw [xw_get ha, xe_arrR hT]
  obtain ⟨cellV, g1, g2, g3, -⟩ := x_cell (C := RX3) (Tf := TX3) (N := 13) hH.1 hb8 hTb (by decide) rfl
  have hcls := (hE.2.1.1 3 (RX3, TX3, 13) rfl).2
  obtain ⟨kA, comp, k1, k2, k3, -⟩ := (hE.2.1.2 4 _ rfl).2
  have hcomp : comp = D.2.2.2.1 3 := Option.some.inj (k3.symm.trans hcls.1)
  subst hcomp
  obtain ⟨kC, hkC, -⟩ := id hcls.2
  have hin := x_in hi h0 h1
  refine W.aast hx hb (hH.1 a _ he) (fun q h => by cases h) (fun h => by cases h) k1 k2 rfl hkC ⟨fun q => hin (Or.inl q), by show _ < (arrV _ _ _).slots.size; rw [arrV_size]; exact Nat.not_le.mp fun q => hin (Or.inr q)⟩ g1 (fun q h => by rw [g3] at h; cases h) (by rw [g2]; exact hkC) (by rw [g2]; exact va_assign hcls) rfl rfl hd fun H1 e z oq => ?_
  have hT2 : (xTr T a i.toNat b a).1 = 12 := by simp [xTr, hT]
  refine kk ls H1 _ hll hL hs (xH_set (T' := xTr T a i.toNat b) (M' := M) hH ha z oq ?_ (fun q hq => by simp [xTr, hq]) (fun _ _ => rfl) (xr_Tr hH.2.2.2.1))
  rw [xe_arrR hT2]
  show H1[D.1 a]? = some (vp_cell _ _)
  rw [e, x_nat hi]
  have h7 : (xTr T a i.toNat b a).2.1 = (T a).2.1 := by simp [xTr]
  rw [h7, vp_cell_q, vp_cell_q, arrV_store]
  congr 2
  funext q
  by_cases hq : q = i.toNat
  · subst hq
    simp [updV, xTr, va_rf]
  · simp [updV, xTr, hq]
theorem x_alen {Γ : xΓ} {own : String} {cc : ByteArray} {nL fr lo mc ms : Nat} (G : xG Γ own cc nL fr lo mc ms) {cells slots n pc : Nat} {T : xT} {L : List (Nat × xV)} {st : List xV} {M : xM} {a cl : Nat} (t0 : Nat) {ty : FieldType} (ha : a < n) (hT : (T a).1 = cl) (h8 : ¬ cl < 8) (ht : ∀ cy : Nat → ClassId, (xty cy)[t0]? = some (cy cl, ty)) (hlen : (T a).2.1 < 2147483648) (hd : decode cc pc = .ok (.arraylength, 1)) (kk : xX Γ cells slots n T (pc + 1) L (xI ((T a).2.1 : Int) :: st) M) : xX Γ cells slots n T pc L (xR a :: st) M := by
  obtain ⟨D, p, l, e, R, s, m, args, below, meth, c, Q⟩ := Γ
  obtain ⟨hx, hb, hml, hown, hts, hE, hB, hR⟩ := G
  intro ls H locs hll hL hs hH
  have h9 := kk ls H locs hll hL (List.forall_mem_cons.mpr ⟨by show i32 _; omega, (List.forall_mem_cons.mp hs).2⟩) hH
  rw [List.map_cons] at h9
  have hv : Int32.ofNat (T a).2.1 = Int32.ofInt ((T a).2.1 : Int) := by
    apply Int32.toInt_inj.mp
    rw [x_toInt (by omega)]
    exact nI_toInt hlen
  by_cases hc1 : cl = 10
  · subst hc1
    exact va_alen (x := ((T a).2.1, .inr (.inl fun j => Int64.ofInt (M a j)))) hx hb hE.2.1 hH.1 a t0 (by rw [xw_get ha, xe_arrL hT]) (ht _) hv hd h9
  · by_cases hc2 : cl = 12
    · subst hc2
      exact va_alen (x := ((T a).2.1, .inr (.inr (.inr (.inr fun j => ((T a).2.2 j).map D.1))))) hx hb hE.2.1 hH.1 a t0 (by rw [xw_get ha, xe_arrR hT]) (ht _) hv hd h9
    · exact va_alen (x := ((T a).2.1, .inl fun j => Int32.ofInt (M a j))) hx hb hE.2.1 hH.1 a t0 (by rw [xw_get ha, xe_arr hT h8 hc1 hc2]) (ht _) hv hd h9
