theorem xH_push {D : xD} {s : State} {n k len : Nat} {T : xT} {M : xM} {H H1 : Heap} {locs : List Loc} (hH : xH D s n T M H locs) (hσ : ∀ k, k < 1000000 → D.1 k = D.2.2.1 + k) (hn : n < 1000000) (z1 : H1.size = H.size + 1) (o1 : ∀ q : Nat, q < H.size → H1[q]? = H[q]?) (hat : va_at D.2.2.2 vwCl (D.1 n, xe D.1 D.2.1 (k, len, fun _ => none) (fun _ => 0)) H1) : xH D s (n + 1) (xTn T n k len) (xsr M n fun _ => 0) H1 locs := by
  obtain ⟨hP, hD, hS, hr, hz⟩ := hH
  have hq : D.1 n = H.size := by rw [hσ n hn, hz]
  have hT1 : ∀ a, a < n → xTn T n k len a = T a := fun a h => by simp [xTn, Nat.ne_of_lt h]
  have hM1 : ∀ a, a < n → xsr M n (fun _ => 0) a = M a := fun a h => by simp [xsr, Nat.ne_of_lt h]
  have hT2 : xTn T n k len n = (k, len, fun _ => none) := by simp [xTn]
  have hM2 : xsr M n (fun _ => 0) n = fun _ => 0 := by simp [xsr]
  have hk : ∀ (k : Nat) (x : Nat × va_E), (xw D n T M)[k]? = some x → H1[x.1]? = H[x.1]? := fun k x hx => o1 x.1 ((hP k x hx).lt)
  have hA : xA D.2.2.1 (D.1 n) := by rw [hq, hz]; exact Nat.le_add_right _ _
  refine ⟨?_, ?_, ⟨Nat.le_trans hS.1 (by omega), fun x h1 h2 => (o1 x (Nat.lt_of_lt_of_le h1 hS.1)).trans (hS.2.1 x h1 h2), hS.2.2⟩, ?_, by rw [z1, hz]; omega⟩
  · rw [← xw_push hT1 hM1, hT2, hM2]
    refine (hP.kept hk).app (fun k x hx => ?_)
    have hz : k < 1 := (List.getElem?_eq_some_iff.mp hx).1
    rw [show k = 0 by omega] at hx
    cases hx
    exact hat
  · rw [← xw_push hT1 hM1, hT2, hM2]
    exact hD.push hP hq hA
  · intro a j
    by_cases ha : a = n
    · subst ha
      rw [hM2]
      exact ⟨fun _ => (by decide : i64 0), fun _ => (by decide : i32 0)⟩
    · have e1 : xTn T n k len a = T a := by simp [xTn, ha]
      have e2 : xsr M n (fun _ => 0) a = M a := by simp [xsr, ha]
      rw [e1, e2]
      exact hr a j
/-- what is known of class ci, to make an object of it -/
def xCd (ci : Nat) (C : String) (N : Nat) : Prop := ∃ (Tf : u_T) (ty0 : Nat → FieldType), vwCl[ci]? = some (C, Tf, N) ∧ (∀ w ∈ u_ws C Tf N, w ∈ WS) ∧ (∀ k, k < N → parseFieldDescriptor (Tf k).2.2.1 = some (ty0 k)) ∧ (∀ (σ : Nat → Nat) (j : Nat), j < N → defaultValue (ty0 j) = vp_V (xo σ ci (fun _ => none) (fun _ => 0)) j) ∧ ci < 8 ∧ Cond.instantiable C N ∈ WS ∧ Cond.initialized C ∈ WS
theorem x_new {Γ : xΓ} {own : String} {cc : ByteArray} {nL fr lo mc ms : Nat} (G : xG Γ own cc nL fr lo mc ms) {cells slots n pc : Nat} {T : xT} {L : List (Nat × xV)} {st : List xV} {M : xM} {ci idx N : Nat} {C : String} (hC : xCd ci C N) (w1 : Cond.classLink own idx C ∈ WS) (hn : n < 1000000) (hCe : cells + 1 ≤ mc ∧ slots + N ≤ ms) (hd : decode cc pc = .ok (.new idx, 3)) (kk : xX Γ (cells + 1) (slots + N) (n + 1) (xTn T n ci 0) (pc + 3) L (xR n :: st) (xsr M n fun _ => 0)) : xX Γ cells slots n T pc L st M := by
  obtain ⟨D, p, l, e, R, s, m, args, below, meth, c, Q⟩ := Γ
  obtain ⟨hx, hb, hml, hown, hts, hE, hB, hR⟩ := G
  obtain ⟨Tf, ty0, hc, hin, hty, hdef, hci, w2, w3⟩ := hC
  intro ls H locs hll hL hs hH
  have hKn := hE.2.1.1 ci _ hc
  refine W.newcK hx hb hown (hts _ w1) (hts _ w2) (hts _ w3) rfl hd (by rw [hR]; exact hCe.1) (by rw [hR]; exact hCe.2) hKn.2.1 rfl fun H1 kC hkC e1 z1 o1 => ?_
  have hq : D.1 n = H.size := by rw [hE.1 n hn, hH.2.2.2.2]
  have h9 := kk ls H1 locs hll hL (List.forall_mem_cons.mpr ⟨True.intro, hs⟩) (xH_push hH hE.1 hn z1 o1 (by
    rw [xe_obj rfl hci]
    exact ⟨_, hc, by rw [hq]; exact (u_born ty0 hts hin hKn hkC e1 hty).to (fun j hj => hdef D.1 j hj)⟩))
  rw [List.map_cons, show xc D.1 (xR n) = .ref H.size from by rw [← hq]; rfl] at h9
  exact h9
theorem x_newi {Γ : xΓ} {own : String} {cc : ByteArray} {nL fr lo mc ms : Nat} (G : xG Γ own cc nL fr lo mc ms) {cells slots n pc : Nat} {T : xT} {L : List (Nat × xV)} {st : List xV} {M : xM} {z : Int} {N : Nat} (hz : z = N) (hN : N ≤ 100000) (w1 : Cond.arrayClass .int ∈ WS) (hn : n < 1000000) (hCe : cells + 1 ≤ mc ∧ slots + N ≤ ms) (hd : decode cc pc = .ok (.newarray .int, 2)) (kk : xX Γ (cells + 1) (slots + N) (n + 1) (xTn T n 9 N) (pc + 2) L (xR n :: st) (xsr M n fun _ => 0)) : xX Γ cells slots n T pc L (xI z :: st) M := by
  obtain ⟨D, p, l, e, R, s, m, args, below, meth, c, Q⟩ := Γ
  obtain ⟨hx, hb, hml, hown, hts, hE, hB, hR⟩ := G
  subst hz
  intro ls H locs hll hL hs hH
  obtain ⟨hv, hs⟩ := List.forall_mem_cons.mp hs
  have hv : i32 (N : Int) := hv
  have hq : D.1 n = H.size := by rw [hE.1 n hn, hH.2.2.2.2]
  refine va_newaK (atype := .int) hx hb (hts _ w1) rfl hd rfl (n := Int32.ofInt N) (N := N) (by
    intro h
    have := (x_lt hv (y := 0) (by decide)).mp h
    omega) (by rw [x_nat hv]; rfl) (by
    show N * componentBytes .int ≤ _
    have : componentBytes .int ≤ 8 := by decide
    have := Nat.mul_le_mul_left N this
    omega) (by rw [hR]; exact hCe.1) (by rw [hR]; exact hCe.2) rfl fun H1 cA e1 z1 o1 hAr hNm => ?_
  have hcA : D.2.1 9 = cA := by
    have h2 : s.vm.findClass ("[" ++ (FieldType.toString .int)) = some (D.2.1 9) := (hE.2.1.2 1 _ rfl).2
    exact Option.some.inj (h2.symm.trans hNm)
  have h9 := kk ls H1 locs hll hL (List.forall_mem_cons.mpr ⟨True.intro, hs⟩) (xH_push hH hE.1 hn z1 o1 (by
    rw [xe_arr (c := 9) rfl (by decide) (by decide) (by decide)]
    show H1[D.1 n]? = some (vp_cell _ _)
    rw [hq, e1, vp_cell_i, hcA]
    rfl))
  rw [List.map_cons, show xc D.1 (xR n) = .ref H.size from by rw [← hq]; rfl] at h9
  exact h9
theorem x_newb {Γ : xΓ} {own : String} {cc : ByteArray} {nL fr lo mc ms : Nat} (G : xG Γ own cc nL fr lo mc ms) {cells slots n pc : Nat} {T : xT} {L : List (Nat × xV)} {st : List xV} {M : xM} {z : Int} {N : Nat} (hz : z = N) (hN : N ≤ 100000) (w1 : Cond.arrayClass .byte ∈ WS) (hn : n < 1000000) (hCe : cells + 1 ≤ mc ∧ slots + N ≤ ms) (hd : decode cc pc = .ok (.newarray .byte, 2)) (kk : xX Γ (cells + 1) (slots + N) (n + 1) (xTn T n 8 N) (pc + 2) L (xR n :: st) (xsr M n fun _ => 0)) : xX Γ cells slots n T pc L (xI z :: st) M := by
  obtain ⟨D, p, l, e, R, s, m, args, below, meth, c, Q⟩ := Γ
  obtain ⟨hx, hb, hml, hown, hts, hE, hB, hR⟩ := G
  subst hz
  intro ls H locs hll hL hs hH
  obtain ⟨hv, hs⟩ := List.forall_mem_cons.mp hs
  have hv : i32 (N : Int) := hv
  have hq : D.1 n = H.size := by rw [hE.1 n hn, hH.2.2.2.2]
  refine va_newaK (atype := .byte) hx hb (hts _ w1) rfl hd rfl (n := Int32.ofInt N) (N := N) (by
    intro h
    have := (x_lt hv (y := 0) (by decide)).mp h
    omega) (by rw [x_nat hv]; rfl) (by
    show N * componentBytes .byte ≤ _
    have : componentBytes .byte ≤ 8 := by decide
    have := Nat.mul_le_mul_left N this
    omega) (by rw [hR]; exact hCe.1) (by rw [hR]; exact hCe.2) rfl fun H1 cA e1 z1 o1 hAr hNm => ?_
  have hcA : D.2.1 8 = cA := by
    have h2 : s.vm.findClass ("[" ++ (FieldType.toString .byte)) = some (D.2.1 8) := (hE.2.1.2 0 _ rfl).2
    exact Option.some.inj (h2.symm.trans hNm)
  have h9 := kk ls H1 locs hll hL (List.forall_mem_cons.mpr ⟨True.intro, hs⟩) (xH_push hH hE.1 hn z1 o1 (by
    rw [xe_arr (c := 8) rfl (by decide) (by decide) (by decide)]
    show H1[D.1 n]? = some (vp_cell _ _)
    rw [hq, e1, vp_cell_i, hcA]
    rfl))
  rw [List.map_cons, show xc D.1 (xR n) = .ref H.size from by rw [← hq]; rfl] at h9
  exact h9
theorem x_newz {Γ : xΓ} {own : String} {cc : ByteArray} {nL fr lo mc ms : Nat} (G : xG Γ own cc nL fr lo mc ms) {cells slots n pc : Nat} {T : xT} {L : List (Nat × xV)} {st : List xV} {M : xM} {z : Int} {N : Nat} (hz : z = N) (hN : N ≤ 100000) (w1 : Cond.arrayClass .boolean ∈ WS) (hn : n < 1000000) (hCe : cells + 1 ≤ mc ∧ slots + N ≤ ms) (hd : decode cc pc = .ok (.newarray .boolean, 2)) (kk : xX Γ (cells + 1) (slots + N) (n + 1) (xTn T n 11 N) (pc + 2) L (xR n :: st) (xsr M n fun _ => 0)) : xX Γ cells slots n T pc L (xI z :: st) M := by
  obtain ⟨D, p, l, e, R, s, m, args, below, meth, c, Q⟩ := Γ
  obtain ⟨hx, hb, hml, hown, hts, hE, hB, hR⟩ := G
  subst hz
  intro ls H locs hll hL hs hH
  obtain ⟨hv, hs⟩ := List.forall_mem_cons.mp hs
  have hv : i32 (N : Int) := hv
  have hq : D.1 n = H.size := by rw [hE.1 n hn, hH.2.2.2.2]
  refine va_newaK (atype := .boolean) hx hb (hts _ w1) rfl hd rfl (n := Int32.ofInt N) (N := N) (by
    intro h
    have := (x_lt hv (y := 0) (by decide)).mp h
    omega) (by rw [x_nat hv]; rfl) (by
    show N * componentBytes .boolean ≤ _
    have : componentBytes .boolean ≤ 8 := by decide
    have := Nat.mul_le_mul_left N this
    omega) (by rw [hR]; exact hCe.1) (by rw [hR]; exact hCe.2) rfl fun H1 cA e1 z1 o1 hAr hNm => ?_
  have hcA : D.2.1 11 = cA := by
    have h2 : s.vm.findClass ("[" ++ (FieldType.toString .boolean)) = some (D.2.1 11) := (hE.2.1.2 3 _ rfl).2
    exact Option.some.inj (h2.symm.trans hNm)
  have h9 := kk ls H1 locs hll hL (List.forall_mem_cons.mpr ⟨True.intro, hs⟩) (xH_push hH hE.1 hn z1 o1 (by
    rw [xe_arr (c := 11) rfl (by decide) (by decide) (by decide)]
    show H1[D.1 n]? = some (vp_cell _ _)
    rw [hq, e1, vp_cell_i, hcA]
    rfl))
  rw [List.map_cons, show xc D.1 (xR n) = .ref H.size from by rw [← hq]; rfl] at h9
  exact h9
theorem x_newl {Γ : xΓ} {own : String} {cc : ByteArray} {nL fr lo mc ms : Nat} (G : xG Γ own cc nL fr lo mc ms) {cells slots n pc : Nat} {T : xT} {L : List (Nat × xV)} {st : List xV} {M : xM} {z : Int} {N : Nat} (hz : z = N) (hN : N ≤ 100000) (w1 : Cond.arrayClass .long ∈ WS) (hn : n < 1000000) (hCe : cells + 1 ≤ mc ∧ slots + N ≤ ms) (hd : decode cc pc = .ok (.newarray .long, 2)) (kk : xX Γ (cells + 1) (slots + N) (n + 1) (xTn T n 10 N) (pc + 2) L (xR n :: st) (xsr M n fun _ => 0)) : xX Γ cells slots n T pc L (xI z :: st) M := by
  obtain ⟨D, p, l, e, R, s, m, args, below, meth, c, Q⟩ := Γ
  obtain ⟨hx, hb, hml, hown, hts, hE, hB, hR⟩ := G
  subst hz
  intro ls H locs hll hL hs hH
  obtain ⟨hv, hs⟩ := List.forall_mem_cons.mp hs
  have hv : i32 (N : Int) := hv
  have hq : D.1 n = H.size := by rw [hE.1 n hn, hH.2.2.2.2]
  refine va_newaK (atype := .long) hx hb (hts _ w1) rfl hd rfl (n := Int32.ofInt N) (N := N) (by
    intro h
    have := (x_lt hv (y := 0) (by decide)).mp h
    omega) (by rw [x_nat hv]; rfl) (by
    show N * componentBytes .long ≤ _
    have : componentBytes .long ≤ 8 := by decide
    have := Nat.mul_le_mul_left N this
    omega) (by rw [hR]; exact hCe.1) (by rw [hR]; exact hCe.2) rfl fun H1 cA e1 z1 o1 hAr hNm => ?_
  have hcA : D.2.1 10 = cA := by
    have h2 : s.vm.findClass ("[" ++ (FieldType.toString .long)) = some (D.2.1 10) := (hE.2.1.2 2 _ rfl).2
    exact Option.some.inj (h2.symm.trans hNm)
  have h9 := kk ls H1 locs hll hL (List.forall_mem_cons.mpr ⟨True.intro, hs⟩) (xH_push hH hE.1 hn z1 o1 (by
    rw [xe_arrL rfl]
    show H1[D.1 n]? = some (vp_cell _ _)
    rw [hq, e1, vp_cell_l, hcA]
    rfl))
  rw [List.map_cons, show xc D.1 (xR n) = .ref H.size from by rw [← hq]; rfl] at h9
  exact h9
theorem x_newR {Γ : xΓ} {own : String} {cc : ByteArray} {nL fr lo mc ms : Nat} (G : xG Γ own cc nL fr lo mc ms) {cells slots n pc : Nat} {T : xT} {L : List (Nat × xV)} {st : List xV} {M : xM} {z : Int} {N idx : Nat} (hz : z = N) (hN : N ≤ 100000) (w1 : Cond.classLink own idx "FairDraws$State" ∈ WS) (hn : n < 1000000) (hCe : cells + 1 ≤ mc ∧ slots + N ≤ ms) (hd : decode cc pc = .ok (.anewarray idx, 3)) (kk : xX Γ (cells + 1) (slots + N) (n + 1) (xTn T n 12 N) (pc + 3) L (xR n :: st) (xsr M n fun _ => 0)) : xX Γ cells slots n T pc L (xI z :: st) M := by
  obtain ⟨D, p, l, e, R, s, m, args, below, meth, c, Q⟩ := Γ
  obtain ⟨hx, hb, hml, hown, hts, hE, hB, hR⟩ := G
  subst hz
  intro ls H locs hll hL hs hH
  obtain ⟨hv, hs⟩ := List.forall_mem_cons.mp hs
  have hv : i32 (N : Int) := hv
  have hq : D.1 n = H.size := by rw [hE.1 n hn, hH.2.2.2.2]
  have hnat : (Int32.ofInt N).toNatClampNeg = N := by rw [x_nat hv]; rfl
  refine W.anew hx hb hown (hts _ w1) (va_AO.use hE.2.2.2.2.1) rfl hd rfl (n := Int32.ofInt N) (by
    intro h
    have := (x_lt hv (y := 0) (by decide)).mp h
    omega) (by rw [hnat]; omega) (by rw [hR]; exact hCe.1) (by rw [hR, hnat]; exact hCe.2) fun cA kA comp f1 f2 f3 f4 => ?_
  rw [hnat]
  have hcA : D.2.1 12 = cA := by
    obtain ⟨kA', comp', k1, k2, k3, k4⟩ := (hE.2.1.2 4 _ rfl).2
    exact Option.some.inj (k4.symm.trans f1)
  have h9 := kk ls (H.push { cls := cA, slots := Array.replicate N .null, vm := .none }) locs hll hL (List.forall_mem_cons.mpr ⟨True.intro, hs⟩) (xH_push hH hE.1 hn (by rw [Array.size_push]) (fun q hq => by rw [Array.getElem?_push, if_neg (Nat.ne_of_lt hq)]) (by
    rw [xe_arrR rfl]
    show (H.push _)[D.1 n]? = some (vp_cell _ _)
    rw [hq, vp_cell_q, Array.getElem?_push_size, hcA, arrV_new]
    rfl))
  rw [List.map_cons, show xc D.1 (xR n) = .ref H.size from by rw [← hq]; rfl] at h9
  exact h9
theorem x_objInit {Γ : xΓ} {own : String} {cc : ByteArray} {nL fr lo mc ms : Nat} (G : xG Γ own cc nL fr lo mc ms) {cells slots n pc : Nat} {T : xT} {L : List (Nat × xV)} {st : List xV} {M : xM} {a idx : Nat} (w1 : Cond.methodLink own idx Lib.objectInit ∈ WS) (w2 : Cond.instanceMethod Lib.objectInit ∈ WS) (w3 : Cond.code Lib.objectInit ⟨#[0xb1]⟩ 1 none ∈ WS) (hRo : 1 ≤ fr ∧ 20 ≤ lo) (hcat : (st.map xcat).sum ≤ 8) (hd : decode cc pc = .ok (.invokespecial idx, 3)) (kk : xX Γ cells slots n T (pc + 3) L st M) : xX Γ cells slots n T pc L (xR a :: st) M := by
  obtain ⟨D, p, l, e, R, s, m, args, below, meth, c, Q⟩ := Γ
  obtain ⟨hx, hb, hml, hown, hts, hE, hB, hR⟩ := G
  intro ls H locs hll hL hs hH
  have h8 := xroom (m := m) (pc := pc) (ls := ls) (σ := D.1) (st0 := (xR a :: st).map (xc D.1)) hcat
  exact W.objInit hx hb hown (hts _ w1) (hts _ w2) (hts _ w3) rfl (by rw [hml]; rw [← hml]; exact hll.1) rfl hd (by rw [hR]; exact hRo.1) (by rw [hR]; show _ ≤ lo; omega) (kk ls H locs hll hL (List.forall_mem_cons.mp hs).2 hH)
theorem x_min {Γ : xΓ} {own : String} {cc : ByteArray} {nL fr lo mc ms : Nat} (G : xG Γ own cc nL fr lo mc ms) {cells slots n pc : Nat} {T : xT} {L : List (Nat × xV)} {st : List xV} {M : xM} {x y : Int} {idx : Nat} (w1 : Cond.methodLink own idx Lib.Math.min.name ∈ WS) (w2 : Cond.static Lib.Math.min.name ∈ WS) (w3 : Cond.initialized "java/lang/Math" ∈ WS) (w4 : Cond.code Lib.Math.min.name Lib.Math.min.code 2 (some .int) ∈ WS) (hRo : 1 ≤ fr ∧ 21 ≤ lo) (hCe : cells ≤ mc ∧ slots ≤ ms) (hcat : (st.map xcat).sum ≤ 8) (hd : decode cc pc = .ok (.invokestatic idx, 3)) (kk : xX Γ cells slots n T (pc + 3) L (xI (if y < x then y else x) :: st) M) : xX Γ cells slots n T pc L (xI y :: xI x :: st) M := by
  obtain ⟨D, p, l, e, R, s, m, args, below, meth, c, Q⟩ := Γ
  obtain ⟨hx, hb, hml, hown, hts, hE, hB, hR⟩ := G
  intro ls H locs hll hL hs hH
  obtain ⟨hy, hs⟩ := List.forall_mem_cons.mp hs
  obtain ⟨hxx, hs⟩ := List.forall_mem_cons.mp hs
  have e : (st.map (xc D.1)).map (fun v => v.category) = st.map xcat := by
    rw [List.map_map]
    exact List.map_congr_left fun v _ => xcat_eq D.1 v
  refine va_mmin hx hb hll.1.symm hown (hts _ w1) (hts _ w2) (hts _ w3) (hts _ w4) (by rw [hR]; exact hRo.1) (by rw [hR, e]; show _ ≤ lo; omega) (by rw [hR]; exact hCe.1) (by rw [hR]; exact hCe.2) hd ?_
  have h9 := kk ls H locs hll hL (List.forall_mem_cons.mpr ⟨by split; exact hy; exact hxx, hs⟩) hH
  rw [List.map_cons] at h9
  rw [show (if Int32.ofInt y < Int32.ofInt x then Int32.ofInt y else Int32.ofInt x) = Int32.ofInt (if y < x then y else x) by
    by_cases h : y < x
    · rw [if_pos h, if_pos ((x_lt hy hxx).mpr h)]
    · rw [if_neg h, if_neg (fun q => h ((x_lt hy hxx).mp q))]]
  exact h9
theorem x_abs {Γ : xΓ} {own : String} {cc : ByteArray} {nL fr lo mc ms : Nat} (G : xG Γ own cc nL fr lo mc ms) {cells slots n pc : Nat} {T : xT} {L : List (Nat × xV)} {st : List xV} {M : xM} {x : Int} {idx : Nat} (h0 : -1000000 ≤ x) (w1 : Cond.methodLink own idx Lib.Math.abs.name ∈ WS) (w2 : Cond.static Lib.Math.abs.name ∈ WS) (w3 : Cond.initialized "java/lang/Math" ∈ WS) (w4 : Cond.code Lib.Math.abs.name Lib.Math.abs.code 1 (some .int) ∈ WS) (hRo : 1 ≤ fr ∧ 21 ≤ lo) (hCe : cells ≤ mc ∧ slots ≤ ms) (hcat : (st.map xcat).sum ≤ 8) (hd : decode cc pc = .ok (.invokestatic idx, 3)) (kk : xX Γ cells slots n T (pc + 3) L (xI (if 0 ≤ x then x else -x) :: st) M) : xX Γ cells slots n T pc L (xI x :: st) M := by
  obtain ⟨D, p, l, e, R, s, m, args, below, meth, c, Q⟩ := Γ
  obtain ⟨hx, hb, hml, hown, hts, hE, hB, hR⟩ := G
  intro ls H locs hll hL hs hH
  obtain ⟨hxx, hs⟩ := List.forall_mem_cons.mp hs
  have hxx : i32 x := hxx
  have e : (st.map (xc D.1)).map (fun v => v.category) = st.map xcat := by
    rw [List.map_map]
    exact List.map_congr_left fun v _ => xcat_eq D.1 v
  refine va_mabs hx hb hll.1.symm hown (hts _ w1) (hts _ w2) (hts _ w3) (hts _ w4) (by rw [hR]; exact hRo.1) (by rw [hR, e]; show _ ≤ lo; omega) (by rw [hR]; exact hCe.1) (by rw [hR]; exact hCe.2) hd ?_
  have h9 := kk ls H locs hll hL (List.forall_mem_cons.mpr ⟨by show i32 _; split <;> omega, hs⟩) hH
  rw [List.map_cons] at h9
  rw [show (if (0 : Int32) ≤ Int32.ofInt x then Int32.ofInt x else 0 - Int32.ofInt x) = Int32.ofInt (if 0 ≤ x then x else -x) by
    have h2 := x_le (x := 0) (y := x) (by decide) hxx
    rw [show Int32.ofInt 0 = 0 from rfl] at h2
    by_cases h : 0 ≤ x
    · rw [if_pos h, if_pos (h2.mpr h)]
    · rw [if_neg h, if_neg (fun q => h (h2.mp q)), Int32.ofInt_neg]; simp]
  exact h9
