/-- a tape with the four bytes of a number behind its end; a tape that is cut -/
def apb (bt : Int → Int) (len v : Int) : Int → Int := fun k => if k = len then v / 16777216 % 256 else if k = len + 1 then v / 65536 % 256 else if k = len + 2 then v / 256 % 256 else if k = len + 3 then v / 1 % 256 else bt k
theorem apb_ok {bt : Int → Int} {len v : Int} (h : TB bt len) (hl : len + 4 ≤ 400) : TB (apb bt len v) (len + 4) := by
  refine ⟨by omega, fun k h1 h2 => ?_, fun k hk => ?_⟩
  · unfold apb
    split
    · omega
    · split
      · omega
      · split
        · omega
        · split
          · omega
          · exact h.2.1 k h1 (by omega)
  · unfold apb
    rw [if_neg (by omega), if_neg (by omega), if_neg (by omega), if_neg (by omega)]
    exact h.2.2 k (by omega)
def cutb (bt : Int → Int) (m : Int) : Int → Int := fun k => if k < m then bt k else -1
theorem cutb_ok {bt : Int → Int} {len m : Int} (h : TB bt len) (h0 : 0 ≤ m) (hm : m ≤ len) : TB (cutb bt m) m := by
  refine ⟨by omega, fun k h1 h2 => ?_, fun k hk => ?_⟩
  · unfold cutb; rw [if_pos h2]; exact h.2.1 k h1 (by omega)
  · unfold cutb; rw [if_neg (by omega)]
theorem x_sar {x k : Int} (hx : i32 x) (hk0 : 0 ≤ k) (hk : k < 32) : Int32.ofInt x >>> (Int32.ofInt k &&& 31) = Int32.ofInt (x / 2 ^ k.toNat) := by
  obtain ⟨n, rfl⟩ := Int.eq_ofNat_of_zero_le hk0
  have hp := ipow_pos (show (1 : Int) ≤ 2 by decide) ((n : Int)).toNat
  have hd : -2147483648 ≤ x / 2 ^ ((n : Int)).toNat ∧ x / 2 ^ ((n : Int)).toNat < 2147483648 := by
    constructor
    · apply Int.le_ediv_of_mul_le (by omega)
      have := Int.mul_le_mul_of_nonneg_left hp (show (0 : Int) ≤ 2147483648 by decide)
      omega
    · apply Int.ediv_lt_of_lt_mul (by omega)
      have := Int.mul_le_mul_of_nonneg_left hp (show (0 : Int) ≤ 2147483648 by decide)
      omega
  apply Int32.toInt_inj.mp
  have e : (Int32.ofInt x >>> (nI n &&& 31)).toInt = (Int32.ofInt x).toInt >>> n := by
    have h9 := s_l n (by omega)
    have e9 : (Int32.ofInt x >>> (nI n &&& 31)).toInt = (Int32.ofInt x).toInt >>> (((nI n &&& 31).toBitVec.smod 32).toNat) := BitVec.toInt_sshiftRight ..
    rw [h9] at e9
    exact e9
  show (Int32.ofInt x >>> (nI n &&& 31)).toInt = _
  rw [e, Int.shiftRight_eq_div_pow, x_toInt hx, x_toInt hd]
  simp
theorem ofInt_nat (x : Int) : Int32.ofInt x = nI (x % 4294967296).toNat := by
  apply Int32.toBitVec_inj.mp
  show BitVec.ofInt 32 x = BitVec.ofNat 32 _
  apply BitVec.eq_of_toNat_eq
  rw [BitVec.toNat_ofInt, BitVec.toNat_ofNat]
  omega
theorem x_and255 (x : Int) : Int32.ofInt x &&& Int32.ofInt 255 = Int32.ofInt (x % 256) := by
  rw [ofInt_nat x]
  have e : Int32.ofInt 255 = nI (2 ^ 8 - 1) := rfl
  rw [e, fa_mask]
  have e2 : (x % 256) = (((x % 4294967296).toNat % 2 ^ 8 : Nat) : Int) := by omega
  rw [e2]
  rfl
theorem x_know {Γ : xΓ} {cells slots n pc : Nat} {T : xT} {L : List (Nat × xV)} {st : List xV} {M : xM} {i : Nat} {v : xV} (j : Nat) (hj : L[j]? = some (i, v)) (k : xk v → xX Γ cells slots n T pc L st M) : xX Γ cells slots n T pc L st M := by
  obtain ⟨D, p, l, e, R, s, m, args, below, meth, c, Q⟩ := Γ
  intro ls H locs hl hL hs hH
  exact k (hL _ (List.mem_of_getElem? hj)) ls H locs hl hL hs hH
set_option maxRecDepth 100000 in
set_option maxHeartbeats 4000000 in
theorem kX4_append (D : xD) (l : Launch) {n : Nat} {T : xT} {M : xM} (bt : Int → Int) (len : Int) (v : Int) (hY : LayOK n T) (hT : TB bt len) (hM : TM M bt len) (hl : len + 4 ≤ 400) : xC D l uX4_append 0 0 0 0 [xR 146, xI v] n T M (xPV n T (fun M2 => TM M2 (apb bt len v) (len + 4) ∧ ∀ q, q < 146 ∨ 148 ≤ q → M2 q = M q)) := by
  refine x_met uX4_append (by decide) (Nat.le_of_ble_eq_true rfl) ?_
  intro Γ G Rt _
  have G : xG Γ RX4 cX4_append 3 0 0 0 0 := G
  have Rt : xRt Γ (xPV n T (fun M2 => TM M2 (apb bt len v) (len + 4) ∧ ∀ q, q < 146 ∨ 148 ≤ q → M2 q = M q)) none 0 0 := Rt
  show xX Γ 0 0 n T 0 [(0, xR 146), (1, xI v)] [] M
  have hL := hT.1
  have hMl := hM.1
  refine x_know 1 rfl (fun hvi => ?_)
  have hvi : i32 v := hvi
  refine x_bipush G (by decide) dX4_append_0 ?_
  refine x_istore_n G [(2, xI 24), (0, xR 146), (1, xI v)] rfl (by decide) rfl dX4_append_2 ?_
  refine x_iload_n G 0 rfl rfl dX4_append_3 ?_
  refine x_if_lt G 39 (by decide) dX4_append_4 (fun c4 => absurd c4 (by decide)) (fun _ => ?_)
  refine x_aload_n G 1 rfl rfl dX4_append_7 ?_
  refine x_get G (xR 147) xf4_0 lk_X4_9 (ly_n hY 146 (by decide)) (ly_k hY 146 (by decide)) (Or.inr ⟨rfl, _, (ly_r hY 146 0 (by decide) (by decide)), rfl⟩) dX4_append_8 ?_
  refine x_aload_n G 1 rfl rfl dX4_append_11 ?_
  refine x_get G (xI (M 146 2)) xf4_2 lk_X4_22 (ly_n hY 146 (by decide)) (ly_k hY 146 (by decide)) (Or.inl ⟨rfl, rfl⟩) dX4_append_12 ?_
  refine x_iload_n G 2 rfl rfl dX4_append_15 ?_
  refine x_iload_n G 0 rfl rfl dX4_append_16 ?_
  refine x_ishr G (v / 16777216) (by have := x_sar (x := v) (k := 24) hvi (by decide) (by decide); exact this) (by omega) dX4_append_17 ?_
  refine x_sipush G (by decide) dX4_append_18 ?_
  refine x_iand G ((v / 16777216) % 256) (x_and255 _) (by omega) dX4_append_21 ?_
  refine x_iast G (ly_n hY 147 (by decide)) (ly_k hY 147 (by decide)) (show _ = 400 from ly_l hY 147 (by decide)) (by omega) (by omega) dX4_append_22 ?_
  refine x_aload_n G 1 rfl rfl dX4_append_23 ?_
  refine x_dup G rfl dX4_append_24 ?_
  refine x_get G (xI ((xst M 147 (M 146 2).toNat ((v / 16777216) % 256)) 146 2)) xf4_2 lk_X4_22 (ly_n hY 146 (by decide)) (ly_k hY 146 (by decide)) (Or.inl ⟨rfl, rfl⟩) dX4_append_25 ?_
  rw [show (xst M 147 (M 146 2).toNat ((v / 16777216) % 256)) 146 2 = (M 146 2) from (xst_nq (by omega))]
  refine x_iconst G (by decide) dX4_append_28 ?_
  refine x_iadd G (by omega) dX4_append_29 ?_
  refine x_put G  xf4_2 lk_X4_22 (ly_n hY 146 (by decide)) (ly_k hY 146 (by decide)) rfl dX4_append_30 ?_
  refine x_iinc G [(2, xI 16), (0, xR 146), (1, xI v)] 0 rfl (by decide) (by omega) rfl dX4_append_33 ?_
  refine x_goto G 3 (by decide) dX4_append_36 ?_
  refine x_iload_n G 0 rfl rfl dX4_append_3 ?_
  refine x_if_lt G 39 (by decide) dX4_append_4 (fun c4 => absurd c4 (by decide)) (fun _ => ?_)
  refine x_aload_n G 1 rfl rfl dX4_append_7 ?_
  refine x_get G (xR 147) xf4_0 lk_X4_9 (ly_n hY 146 (by decide)) (ly_k hY 146 (by decide)) (Or.inr ⟨rfl, _, (ly_r hY 146 0 (by decide) (by decide)), rfl⟩) dX4_append_8 ?_
  refine x_aload_n G 1 rfl rfl dX4_append_11 ?_
  refine x_get G (xI ((xst (xst M 147 (M 146 2).toNat ((v / 16777216) % 256)) 146 2 ((M 146 2) + 1)) 146 2)) xf4_2 lk_X4_22 (ly_n hY 146 (by decide)) (ly_k hY 146 (by decide)) (Or.inl ⟨rfl, rfl⟩) dX4_append_12 ?_
  rw [show (xst (xst M 147 (M 146 2).toNat ((v / 16777216) % 256)) 146 2 ((M 146 2) + 1)) 146 2 = ((M 146 2) + 1) from (xst_same ..)]
  refine x_iload_n G 2 rfl rfl dX4_append_15 ?_
  refine x_iload_n G 0 rfl rfl dX4_append_16 ?_
  refine x_ishr G (v / 65536) (by have := x_sar (x := v) (k := 16) hvi (by decide) (by decide); exact this) (by omega) dX4_append_17 ?_
  refine x_sipush G (by decide) dX4_append_18 ?_
  refine x_iand G ((v / 65536) % 256) (x_and255 _) (by omega) dX4_append_21 ?_
  refine x_iast G (ly_n hY 147 (by decide)) (ly_k hY 147 (by decide)) (show _ = 400 from ly_l hY 147 (by decide)) (by omega) (by omega) dX4_append_22 ?_
  refine x_aload_n G 1 rfl rfl dX4_append_23 ?_
  refine x_dup G rfl dX4_append_24 ?_
  refine x_get G (xI ((xst (xst (xst M 147 (M 146 2).toNat ((v / 16777216) % 256)) 146 2 ((M 146 2) + 1)) 147 ((M 146 2) + 1).toNat ((v / 65536) % 256)) 146 2)) xf4_2 lk_X4_22 (ly_n hY 146 (by decide)) (ly_k hY 146 (by decide)) (Or.inl ⟨rfl, rfl⟩) dX4_append_25 ?_
  rw [show (xst (xst (xst M 147 (M 146 2).toNat ((v / 16777216) % 256)) 146 2 ((M 146 2) + 1)) 147 ((M 146 2) + 1).toNat ((v / 65536) % 256)) 146 2 = ((M 146 2) + 1) from ((xst_nq (by omega)).trans (xst_same ..))]
  refine x_iconst G (by decide) dX4_append_28 ?_
  refine x_iadd G (by omega) dX4_append_29 ?_
  refine x_put G  xf4_2 lk_X4_22 (ly_n hY 146 (by decide)) (ly_k hY 146 (by decide)) rfl dX4_append_30 ?_
  refine x_iinc G [(2, xI 8), (0, xR 146), (1, xI v)] 0 rfl (by decide) (by omega) rfl dX4_append_33 ?_
  refine x_goto G 3 (by decide) dX4_append_36 ?_
  refine x_iload_n G 0 rfl rfl dX4_append_3 ?_
  refine x_if_lt G 39 (by decide) dX4_append_4 (fun c4 => absurd c4 (by decide)) (fun _ => ?_)
  refine x_aload_n G 1 rfl rfl dX4_append_7 ?_
  refine x_get G (xR 147) xf4_0 lk_X4_9 (ly_n hY 146 (by decide)) (ly_k hY 146 (by decide)) (Or.inr ⟨rfl, _, (ly_r hY 146 0 (by decide) (by decide)), rfl⟩) dX4_append_8 ?_
  refine x_aload_n G 1 rfl rfl dX4_append_11 ?_
  refine x_get G (xI ((xst (xst (xst (xst M 147 (M 146 2).toNat ((v / 16777216) % 256)) 146 2 ((M 146 2) + 1)) 147 ((M 146 2) + 1).toNat ((v / 65536) % 256)) 146 2 (((M 146 2) + 1) + 1)) 146 2)) xf4_2 lk_X4_22 (ly_n hY 146 (by decide)) (ly_k hY 146 (by decide)) (Or.inl ⟨rfl, rfl⟩) dX4_append_12 ?_
  rw [show (xst (xst (xst (xst M 147 (M 146 2).toNat ((v / 16777216) % 256)) 146 2 ((M 146 2) + 1)) 147 ((M 146 2) + 1).toNat ((v / 65536) % 256)) 146 2 (((M 146 2) + 1) + 1)) 146 2 = (((M 146 2) + 1) + 1) from (xst_same ..)]
  refine x_iload_n G 2 rfl rfl dX4_append_15 ?_
  refine x_iload_n G 0 rfl rfl dX4_append_16 ?_
  refine x_ishr G (v / 256) (by have := x_sar (x := v) (k := 8) hvi (by decide) (by decide); exact this) (by omega) dX4_append_17 ?_
  refine x_sipush G (by decide) dX4_append_18 ?_
  refine x_iand G ((v / 256) % 256) (x_and255 _) (by omega) dX4_append_21 ?_
  refine x_iast G (ly_n hY 147 (by decide)) (ly_k hY 147 (by decide)) (show _ = 400 from ly_l hY 147 (by decide)) (by omega) (by omega) dX4_append_22 ?_
  refine x_aload_n G 1 rfl rfl dX4_append_23 ?_
  refine x_dup G rfl dX4_append_24 ?_
  refine x_get G (xI ((xst (xst (xst (xst (xst M 147 (M 146 2).toNat ((v / 16777216) % 256)) 146 2 ((M 146 2) + 1)) 147 ((M 146 2) + 1).toNat ((v / 65536) % 256)) 146 2 (((M 146 2) + 1) + 1)) 147 (((M 146 2) + 1) + 1).toNat ((v / 256) % 256)) 146 2)) xf4_2 lk_X4_22 (ly_n hY 146 (by decide)) (ly_k hY 146 (by decide)) (Or.inl ⟨rfl, rfl⟩) dX4_append_25 ?_
  rw [show (xst (xst (xst (xst (xst M 147 (M 146 2).toNat ((v / 16777216) % 256)) 146 2 ((M 146 2) + 1)) 147 ((M 146 2) + 1).toNat ((v / 65536) % 256)) 146 2 (((M 146 2) + 1) + 1)) 147 (((M 146 2) + 1) + 1).toNat ((v / 256) % 256)) 146 2 = (((M 146 2) + 1) + 1) from ((xst_nq (by omega)).trans (xst_same ..))]
  refine x_iconst G (by decide) dX4_append_28 ?_
  refine x_iadd G (by omega) dX4_append_29 ?_
  refine x_put G  xf4_2 lk_X4_22 (ly_n hY 146 (by decide)) (ly_k hY 146 (by decide)) rfl dX4_append_30 ?_
  refine x_iinc G [(2, xI 0), (0, xR 146), (1, xI v)] 0 rfl (by decide) (by omega) rfl dX4_append_33 ?_
  refine x_goto G 3 (by decide) dX4_append_36 ?_
  refine x_iload_n G 0 rfl rfl dX4_append_3 ?_
  refine x_if_lt G 39 (by decide) dX4_append_4 (fun c4 => absurd c4 (by decide)) (fun _ => ?_)
  refine x_aload_n G 1 rfl rfl dX4_append_7 ?_
  refine x_get G (xR 147) xf4_0 lk_X4_9 (ly_n hY 146 (by decide)) (ly_k hY 146 (by decide)) (Or.inr ⟨rfl, _, (ly_r hY 146 0 (by decide) (by decide)), rfl⟩) dX4_append_8 ?_
  refine x_aload_n G 1 rfl rfl dX4_append_11 ?_
  refine x_get G (xI ((xst (xst (xst (xst (xst (xst M 147 (M 146 2).toNat ((v / 16777216) % 256)) 146 2 ((M 146 2) + 1)) 147 ((M 146 2) + 1).toNat ((v / 65536) % 256)) 146 2 (((M 146 2) + 1) + 1)) 147 (((M 146 2) + 1) + 1).toNat ((v / 256) % 256)) 146 2 ((((M 146 2) + 1) + 1) + 1)) 146 2)) xf4_2 lk_X4_22 (ly_n hY 146 (by decide)) (ly_k hY 146 (by decide)) (Or.inl ⟨rfl, rfl⟩) dX4_append_12 ?_
  rw [show (xst (xst (xst (xst (xst (xst M 147 (M 146 2).toNat ((v / 16777216) % 256)) 146 2 ((M 146 2) + 1)) 147 ((M 146 2) + 1).toNat ((v / 65536) % 256)) 146 2 (((M 146 2) + 1) + 1)) 147 (((M 146 2) + 1) + 1).toNat ((v / 256) % 256)) 146 2 ((((M 146 2) + 1) + 1) + 1)) 146 2 = ((((M 146 2) + 1) + 1) + 1) from (xst_same ..)]
  refine x_iload_n G 2 rfl rfl dX4_append_15 ?_
  refine x_iload_n G 0 rfl rfl dX4_append_16 ?_
  refine x_ishr G (v / 1) (by have := x_sar (x := v) (k := 0) hvi (by decide) (by decide); exact this) (by omega) dX4_append_17 ?_
  refine x_sipush G (by decide) dX4_append_18 ?_
  refine x_iand G ((v / 1) % 256) (x_and255 _) (by omega) dX4_append_21 ?_
  refine x_iast G (ly_n hY 147 (by decide)) (ly_k hY 147 (by decide)) (show _ = 400 from ly_l hY 147 (by decide)) (by omega) (by omega) dX4_append_22 ?_
  refine x_aload_n G 1 rfl rfl dX4_append_23 ?_
  refine x_dup G rfl dX4_append_24 ?_
  refine x_get G (xI ((xst (xst (xst (xst (xst (xst (xst M 147 (M 146 2).toNat ((v / 16777216) % 256)) 146 2 ((M 146 2) + 1)) 147 ((M 146 2) + 1).toNat ((v / 65536) % 256)) 146 2 (((M 146 2) + 1) + 1)) 147 (((M 146 2) + 1) + 1).toNat ((v / 256) % 256)) 146 2 ((((M 146 2) + 1) + 1) + 1)) 147 ((((M 146 2) + 1) + 1) + 1).toNat ((v / 1) % 256)) 146 2)) xf4_2 lk_X4_22 (ly_n hY 146 (by decide)) (ly_k hY 146 (by decide)) (Or.inl ⟨rfl, rfl⟩) dX4_append_25 ?_
  rw [show (xst (xst (xst (xst (xst (xst (xst M 147 (M 146 2).toNat ((v / 16777216) % 256)) 146 2 ((M 146 2) + 1)) 147 ((M 146 2) + 1).toNat ((v / 65536) % 256)) 146 2 (((M 146 2) + 1) + 1)) 147 (((M 146 2) + 1) + 1).toNat ((v / 256) % 256)) 146 2 ((((M 146 2) + 1) + 1) + 1)) 147 ((((M 146 2) + 1) + 1) + 1).toNat ((v / 1) % 256)) 146 2 = ((((M 146 2) + 1) + 1) + 1) from ((xst_nq (by omega)).trans (xst_same ..))]
  refine x_iconst G (by decide) dX4_append_28 ?_
  refine x_iadd G (by omega) dX4_append_29 ?_
  refine x_put G  xf4_2 lk_X4_22 (ly_n hY 146 (by decide)) (ly_k hY 146 (by decide)) rfl dX4_append_30 ?_
  refine x_iinc G [(2, xI (-8)), (0, xR 146), (1, xI v)] 0 rfl (by decide) (by omega) rfl dX4_append_33 ?_
  refine x_goto G 3 (by decide) dX4_append_36 ?_
  refine x_iload_n G 0 rfl rfl dX4_append_3 ?_
  refine x_if_lt G 39 (by decide) dX4_append_4 (fun _ => ?_) (fun c4 => absurd c4 (by decide))
  exact x_vret G Rt dX4_append_39 ⟨rfl, rfl, rfl, by
        refine ⟨⟨by simp [xst_eq]; omega, fun k hk => ?_⟩, fun q hq => by simp (disch := omega) only [xst_row]⟩
        have hkc : (k : Int) = len + 3 ∨ (k : Int) = len + 2 ∨ (k : Int) = len + 1 ∨ (k : Int) = len ∨ (k : Int) < len := by omega
        rcases hkc with g | g | g | g | g
        · rw [show k = ((((M 146 2) + 1) + 1) + 1).toNat by omega, xst_nq (by omega), xst_same]
          unfold apb
          rw [if_neg (by omega), if_neg (by omega), if_neg (by omega), if_pos (by omega)]
        · rw [show k = (((M 146 2) + 1) + 1).toNat by omega, xst_nq (by omega), xst_nq (by omega), xst_nq (by omega), xst_same]
          unfold apb
          rw [if_neg (by omega), if_neg (by omega), if_pos (by omega)]
        · rw [show k = ((M 146 2) + 1).toNat by omega, xst_nq (by omega), xst_nq (by omega), xst_nq (by omega), xst_nq (by omega), xst_nq (by omega), xst_same]
          unfold apb
          rw [if_neg (by omega), if_pos (by omega)]
        · rw [show k = (M 146 2).toNat by omega, xst_nq (by omega), xst_nq (by omega), xst_nq (by omega), xst_nq (by omega), xst_nq (by omega), xst_nq (by omega), xst_nq (by omega), xst_same]
          unfold apb
          rw [if_pos (by omega)]
        · rw [xst_nq (by omega), xst_nq (by omega), xst_nq (by omega), xst_nq (by omega), xst_nq (by omega), xst_nq (by omega), xst_nq (by omega), xst_nq (by omega), hM.2 k g]
          unfold apb
          rw [if_neg (by omega), if_neg (by omega), if_neg (by omega), if_neg (by omega)]⟩
def feedT (bt : Int → Int) (len a b c d e : Int) : Int → Int := apb (apb (apb (apb (apb bt len a) (len + 4) b) (len + 4 + 4) c) (len + 4 + 4 + 4) d) (len + 4 + 4 + 4 + 4) e
abbrev tpf (M M2 : xM) : Prop := ∀ q, q < 146 ∨ 148 ≤ q → M2 q = M q
set_option maxRecDepth 100000 in
set_option maxHeartbeats 4000000 in
theorem kX6_feed (D : xD) (l : Launch) {n : Nat} {T : xT} {M : xM} (bt : Int → Int) (len : Int) (a b c d e : Int) (hY : LayOK n T) (hT : TB bt len) (hM : TM M bt len) : xC D l uX6_feed 1 22 0 0 [xR 0, xI a, xI b, xI c, xI d, xI e] n T M (xPI n T (fun z M2 => (380 < len ∧ z = -1 ∧ M2 = M) ∨ (len ≤ 380 ∧ z = len + 20 ∧ TM M2 (feedT bt len a b c d e) (len + 20) ∧ tpf M M2))) := by
  refine x_met uX6_feed (by decide) (Nat.le_of_ble_eq_true rfl) ?_
  intro Γ G Rt _
  have G : xG Γ RX6 cX6_feed 6 1 22 0 0 := G
  have Rt : xRt Γ (xPI n T (fun z M2 => (380 < len ∧ z = -1 ∧ M2 = M) ∨ (len ≤ 380 ∧ z = len + 20 ∧ TM M2 (feedT bt len a b c d e) (len + 20) ∧ tpf M M2))) (some .int) 0 0 := Rt
  show xX Γ 0 0 n T 0 [(0, xR 0), (1, xI a), (2, xI b), (3, xI c), (4, xI d), (5, xI e)] [] M
  have hL := hT.1
  have hMl := hM.1
  refine x_aload_n G 0 rfl rfl dX6_feed_0 ?_
  refine x_get G (xR 146) xf6_2 lk_X6_26 (ly_n hY 0 (by decide)) (ly_k hY 0 (by decide)) (Or.inr ⟨rfl, _, (ly_r hY 0 2 (by decide) (by decide)), rfl⟩) dX6_feed_1 ?_
  refine x_get G (xI (M 146 2)) xf4_2 lk_X6_55 (ly_n hY 146 (by decide)) (ly_k hY 146 (by decide)) (Or.inl ⟨rfl, rfl⟩) dX6_feed_4 ?_
  refine x_sipush G (by decide) dX6_feed_7 ?_
  refine x_icmp_le G 15 (by decide) dX6_feed_10 (fun c10 => ?_) (fun c10 => ?_)
  · skip
    refine x_aload_n G 0 rfl rfl dX6_feed_15 ?_
    refine x_get G (xR 146) xf6_2 lk_X6_26 (ly_n hY 0 (by decide)) (ly_k hY 0 (by decide)) (Or.inr ⟨rfl, _, (ly_r hY 0 2 (by decide) (by decide)), rfl⟩) dX6_feed_16 ?_
    refine x_iload_n G 1 rfl rfl dX6_feed_19 ?_
    refine x_callVV G [] [xI a] rfl (by decide) (ly_n hY 146 (by decide)) (ly_k hY 146 (by decide)) hy_X4_append hi_X4_append hs_X4_append ml_X6_58 rfl rfl (kX4_append _ _ bt len a hY hT hM (by omega)) (by decide) (by decide) (Nat.le_of_ble_eq_true rfl) dX6_feed_20 (fun M20 h20 => ?_)
    have hl20 := h20.1.1
    refine x_aload_n G 0 rfl rfl dX6_feed_23 ?_
    refine x_get G (xR 146) xf6_2 lk_X6_26 (ly_n hY 0 (by decide)) (ly_k hY 0 (by decide)) (Or.inr ⟨rfl, _, (ly_r hY 0 2 (by decide) (by decide)), rfl⟩) dX6_feed_24 ?_
    refine x_iload_n G 2 rfl rfl dX6_feed_27 ?_
    refine x_callVV G [] [xI b] rfl (by decide) (ly_n hY 146 (by decide)) (ly_k hY 146 (by decide)) hy_X4_append hi_X4_append hs_X4_append ml_X6_58 rfl rfl (kX4_append _ _ (apb bt len a) (len + 4) b hY (apb_ok hT (by omega)) h20.1 (by omega)) (by decide) (by decide) (Nat.le_of_ble_eq_true rfl) dX6_feed_28 (fun M28 h28 => ?_)
    have hl28 := h28.1.1
    refine x_aload_n G 0 rfl rfl dX6_feed_31 ?_
    refine x_get G (xR 146) xf6_2 lk_X6_26 (ly_n hY 0 (by decide)) (ly_k hY 0 (by decide)) (Or.inr ⟨rfl, _, (ly_r hY 0 2 (by decide) (by decide)), rfl⟩) dX6_feed_32 ?_
    refine x_iload_n G 3 rfl rfl dX6_feed_35 ?_
    refine x_callVV G [] [xI c] rfl (by decide) (ly_n hY 146 (by decide)) (ly_k hY 146 (by decide)) hy_X4_append hi_X4_append hs_X4_append ml_X6_58 rfl rfl (kX4_append _ _ (apb (apb bt len a) (len + 4) b) ((len + 4) + 4) c hY (apb_ok (apb_ok hT (by omega)) (by omega)) h28.1 (by omega)) (by decide) (by decide) (Nat.le_of_ble_eq_true rfl) dX6_feed_36 (fun M36 h36 => ?_)
    have hl36 := h36.1.1
    refine x_aload_n G 0 rfl rfl dX6_feed_39 ?_
    refine x_get G (xR 146) xf6_2 lk_X6_26 (ly_n hY 0 (by decide)) (ly_k hY 0 (by decide)) (Or.inr ⟨rfl, _, (ly_r hY 0 2 (by decide) (by decide)), rfl⟩) dX6_feed_40 ?_
    refine x_iload G 4 rfl dX6_feed_43 ?_
    refine x_callVV G [] [xI d] rfl (by decide) (ly_n hY 146 (by decide)) (ly_k hY 146 (by decide)) hy_X4_append hi_X4_append hs_X4_append ml_X6_58 rfl rfl (kX4_append _ _ (apb (apb (apb bt len a) (len + 4) b) ((len + 4) + 4) c) (((len + 4) + 4) + 4) d hY (apb_ok (apb_ok (apb_ok hT (by omega)) (by omega)) (by omega)) h36.1 (by omega)) (by decide) (by decide) (Nat.le_of_ble_eq_true rfl) dX6_feed_45 (fun M45 h45 => ?_)
    have hl45 := h45.1.1
    refine x_aload_n G 0 rfl rfl dX6_feed_48 ?_
    refine x_get G (xR 146) xf6_2 lk_X6_26 (ly_n hY 0 (by decide)) (ly_k hY 0 (by decide)) (Or.inr ⟨rfl, _, (ly_r hY 0 2 (by decide) (by decide)), rfl⟩) dX6_feed_49 ?_
    refine x_iload G 5 rfl dX6_feed_52 ?_
    refine x_callVV G [] [xI e] rfl (by decide) (ly_n hY 146 (by decide)) (ly_k hY 146 (by decide)) hy_X4_append hi_X4_append hs_X4_append ml_X6_58 rfl rfl (kX4_append _ _ (apb (apb (apb (apb bt len a) (len + 4) b) ((len + 4) + 4) c) (((len + 4) + 4) + 4) d) ((((len + 4) + 4) + 4) + 4) e hY (apb_ok (apb_ok (apb_ok (apb_ok hT (by omega)) (by omega)) (by omega)) (by omega)) h45.1 (by omega)) (by decide) (by decide) (Nat.le_of_ble_eq_true rfl) dX6_feed_54 (fun M54 h54 => ?_)
    have hl54 := h54.1.1
    refine x_aload_n G 0 rfl rfl dX6_feed_57 ?_
    refine x_get G (xR 146) xf6_2 lk_X6_26 (ly_n hY 0 (by decide)) (ly_k hY 0 (by decide)) (Or.inr ⟨rfl, _, (ly_r hY 0 2 (by decide) (by decide)), rfl⟩) dX6_feed_58 ?_
    refine x_get G (xI (M54 146 2)) xf4_2 lk_X6_55 (ly_n hY 146 (by decide)) (ly_k hY 146 (by decide)) (Or.inl ⟨rfl, rfl⟩) dX6_feed_61 ?_
    exact x_iret G Rt dX6_feed_64 ⟨rfl, rfl, _, rfl, Or.inr ⟨by omega, by omega, (by have h9 := h54.1; rw [show len + 4 + 4 + 4 + 4 + 4 = len + 20 by omega] at h9; exact h9), fun q9 g9 => ((h54.2 q9 (by omega)).trans ((h45.2 q9 (by omega)).trans ((h36.2 q9 (by omega)).trans ((h28.2 q9 (by omega)).trans ((h20.2 q9 (by omega)).trans rfl)))))⟩⟩
  · skip
    refine x_iconst G (by decide) dX6_feed_13 ?_
    exact x_iret G Rt dX6_feed_14 ⟨rfl, rfl, _, rfl, Or.inl ⟨by omega, rfl, rfl⟩⟩
set_option maxRecDepth 100000 in
set_option maxHeartbeats 4000000 in
theorem kX6_end (D : xD) (l : Launch) {n : Nat} {T : xT} {M : xM} (bt : Int → Int) (len : Int) (m : Int) (hY : LayOK n T) (hT : TB bt len) (hM : TM M bt len) : xC D l uX6_end 1 22 0 0 [xR 0, xI m] n T M (xPI n T (fun z M2 => (¬ (0 ≤ m ∧ m ≤ len) ∧ z = -1 ∧ M2 = M) ∨ ((0 ≤ m ∧ m ≤ len) ∧ z = m ∧ TM M2 (cutb bt m) m ∧ tpf M M2))) := by
  refine x_met uX6_end (by decide) (Nat.le_of_ble_eq_true rfl) ?_
  intro Γ G Rt _
  have G : xG Γ RX6 cX6_end 2 1 22 0 0 := G
  have Rt : xRt Γ (xPI n T (fun z M2 => (¬ (0 ≤ m ∧ m ≤ len) ∧ z = -1 ∧ M2 = M) ∨ ((0 ≤ m ∧ m ≤ len) ∧ z = m ∧ TM M2 (cutb bt m) m ∧ tpf M M2))) (some .int) 0 0 := Rt
  show xX Γ 0 0 n T 0 [(0, xR 0), (1, xI m)] [] M
  have hL := hT.1
  have hMl := hM.1
  refine x_iload_n G 1 rfl rfl dX6_end_0 ?_
  refine x_iconst G (by decide) dX6_end_1 ?_
  refine x_aload_n G 0 rfl rfl dX6_end_2 ?_
  refine x_get G (xR 146) xf6_2 lk_X6_26 (ly_n hY 0 (by decide)) (ly_k hY 0 (by decide)) (Or.inr ⟨rfl, _, (ly_r hY 0 2 (by decide) (by decide)), rfl⟩) dX6_end_3 ?_
  refine x_get G (xI (M 146 2)) xf4_2 lk_X6_55 (ly_n hY 146 (by decide)) (ly_k hY 146 (by decide)) (Or.inl ⟨rfl, rfl⟩) dX6_end_6 ?_
  refine x_callSp G [] [xI m, xI 0, xI (M 146 2)] hy_X6_isWithin ht_X6_isWithin ml_X6_62 rfl rfl (kX6_isWithin _ _ m 0 (M 146 2)) (by decide) (by decide) (Nat.le_of_ble_eq_true rfl) dX6_end_9 ?_
  refine x_if_ne G 17 (by decide) dX6_end_12 (fun c12 => ?_) (fun c12 => ?_)
  · skip
    have c12 := b2i_ne0.mp c12
    refine x_aload_n G 0 rfl rfl dX6_end_17 ?_
    refine x_get G (xR 146) xf6_2 lk_X6_26 (ly_n hY 0 (by decide)) (ly_k hY 0 (by decide)) (Or.inr ⟨rfl, _, (ly_r hY 0 2 (by decide) (by decide)), rfl⟩) dX6_end_18 ?_
    refine x_iload_n G 1 rfl rfl dX6_end_21 ?_
    refine x_put G  xf4_2 lk_X6_55 (ly_n hY 146 (by decide)) (ly_k hY 146 (by decide)) rfl dX6_end_22 ?_
    refine x_iload_n G 1 rfl rfl dX6_end_25 ?_
    exact x_iret G Rt dX6_end_26 ⟨rfl, rfl, _, rfl, Or.inr ⟨by omega, rfl, ⟨xst_same .., fun k hk => by rw [xst_row (by decide), hM.2 k (by omega)]; unfold cutb; rw [if_pos hk]⟩, fun q hq => xst_row (by omega)⟩⟩
  · skip
    have c12 := b2i_eq0.mp c12
    refine x_iconst G (by decide) dX6_end_15 ?_
    exact x_iret G Rt dX6_end_16 ⟨rfl, rfl, _, rfl, Or.inl ⟨by omega, rfl, rfl⟩⟩
theorem srt_seq' {V W : xM} (h : seq V W) {R : Nat → Int} {m : Nat} (hm : (m : Int) ≤ W 0 10) (hs : Srt V R m) : Srt W R m := by
  refine ⟨hs.1, fun p q hpq hq => ?_⟩
  have a := hs.1 p (by omega)
  have b := hs.1 q hq
  exact (ahd_seq h ⟨a.1, by omega⟩ ⟨b.1, by omega⟩).mp (hs.2 p q hpq hq)
theorem hst_nil {M M2 : xM} {Hs : List xM} (h : Hst M Hs) (h1 : M2 14 1 = M 14 1) (h2 : M2 14 2 = 0) : Hst M2 [] := ⟨by rw [h1]; exact h.1, h2, by decide, fun j hj => absurd hj (Nat.not_lt_zero _)⟩
set_option maxRecDepth 100000 in
set_option maxHeartbeats 4000000 in
theorem kX6_tell (D : xD) (l : Launch) {n : Nat} {T : xT} {M : xM} (bt : Int → Int) (len : Int) (V : xM) (Hs : List xM) (hY : LayOK n T) (hT : TB bt len) (hM : TM M bt len) (hV : shw M 1 V) (hv : VOK V) (hs : Srt V (V 10) (V 0 10).toNat) (hH : Hst M Hs) : xC D l uX6_tell 8 176 0 0 [xR 0] n T M (xPI n T (fun z M2 => ∃ V0, (zer V0 ∧ ((¬ (pAll bt len 401 0 V0).1 = -1 ∧ z = -2 - (pAll bt len 401 0 V0).1 ∧ Fin1 M2 V Hs) ∨ ((pAll bt len 401 0 V0).1 = -1 ∧ z = (pAll bt len 401 0 V0).2 0 10 ∧ VOK (pAll bt len 401 0 V0).2 ∧ Fin1 M2 (pAll bt len 401 0 V0).2 [])) ∧ M2 146 2 = 0 ∧ (∀ q, q = 0 ∨ q = 161 ∨ 168 ≤ q → M2 q = M q)))) := by
  refine x_met uX6_tell (by decide) (Nat.le_of_ble_eq_true rfl) ?_
  intro Γ G Rt _
  have G : xG Γ RX6 cX6_tell 2 8 176 0 0 := G
  have Rt : xRt Γ (xPI n T (fun z M2 => ∃ V0, (zer V0 ∧ ((¬ (pAll bt len 401 0 V0).1 = -1 ∧ z = -2 - (pAll bt len 401 0 V0).1 ∧ Fin1 M2 V Hs) ∨ ((pAll bt len 401 0 V0).1 = -1 ∧ z = (pAll bt len 401 0 V0).2 0 10 ∧ VOK (pAll bt len 401 0 V0).2 ∧ Fin1 M2 (pAll bt len 401 0 V0).2 [])) ∧ M2 146 2 = 0 ∧ (∀ q, q = 0 ∨ q = 161 ∨ 168 ≤ q → M2 q = M q)))) (some .int) 0 0 := Rt
  show xX Γ 0 0 n T 0 [(0, xR 0)] [] M
  have hL := hT.1
  have hMl := hM.1
  refine x_aload_n G 0 rfl rfl dX6_tell_0 ?_
  refine x_get G (xR 146) xf6_2 lk_X6_26 (ly_n hY 0 (by decide)) (ly_k hY 0 (by decide)) (Or.inr ⟨rfl, _, (ly_r hY 0 2 (by decide) (by decide)), rfl⟩) dX6_tell_1 ?_
  refine x_callVI G [] [] rfl (by decide) (ly_n hY 146 (by decide)) (ly_k hY 146 (by decide)) hy_X4_read hi_X4_read hs_X4_read ml_X6_66 rfl rfl (kX4_read _ _ bt len hY hT hM) (by decide) (by decide) (Nat.le_of_ble_eq_true rfl) dX6_tell_4 (fun z4 M4 h4 => ?_)
  obtain ⟨V0, hz0, hzr, hsr, htm, htf⟩ := h4
  refine x_istore_n G [(1, xI z4), (0, xR 0)] rfl (by decide) rfl dX6_tell_7 ?_
  have hzb := pall_b hT 401 0 V0 (by omega) (by omega)
  refine x_aload_n G 1 rfl rfl dX6_tell_8 ?_
  refine x_get G (xR 146) xf6_2 lk_X6_26 (ly_n hY 0 (by decide)) (ly_k hY 0 (by decide)) (Or.inr ⟨rfl, _, (ly_r hY 0 2 (by decide) (by decide)), rfl⟩) dX6_tell_9 ?_
  refine x_iconst G (by decide) dX6_tell_12 ?_
  refine x_put G  xf4_2 lk_X6_55 (ly_n hY 146 (by decide)) (ly_k hY 146 (by decide)) rfl dX6_tell_13 ?_
  refine x_iload_n G 0 rfl rfl dX6_tell_16 ?_
  refine x_iconst G (by decide) dX6_tell_17 ?_
  refine x_icmp_eq G 26 (by decide) dX6_tell_18 (fun c18 => ?_) (fun c18 => ?_)
  · skip
    refine x_aload_n G 1 rfl rfl dX6_tell_26 ?_
    refine x_get G (xR 1) xf6_0 lk_X6_10 (ly_n hY 0 (by decide)) (ly_k hY 0 (by decide)) (Or.inr ⟨rfl, _, (ly_r hY 0 0 (by decide) (by decide)), rfl⟩) dX6_tell_27 ?_
    refine x_aload_n G 1 rfl rfl dX6_tell_30 ?_
    refine x_get G (xR 146) xf6_2 lk_X6_26 (ly_n hY 0 (by decide)) (ly_k hY 0 (by decide)) (Or.inr ⟨rfl, _, (ly_r hY 0 2 (by decide) (by decide)), rfl⟩) dX6_tell_31 ?_
    refine x_get G (xR 148) xf4_1 lk_X6_70 (ly_n hY 146 (by decide)) (ly_k hY 146 (by decide)) (Or.inr ⟨rfl, _, (ly_r hY 146 1 (by decide) (by decide)), rfl⟩) dX6_tell_34 ?_
    refine x_callVV G [] [xR 148] rfl (by decide) (st_n (ly_st1 hY) 0 (by decide)) (st_k (ly_st1 hY) 0 (by decide)) hy_X3_copyFrom hi_X3_copyFrom hs_X3_copyFrom ml_X6_73 rfl rfl (kX3_copyFrom _ _ 1 148 (pAll bt len 401 0 V0).2 (ly_st1 hY) (ly_st148 hY) (by omega) (shw_st (hsr (by omega)).1 (by omega)) (hsr (by omega)).2) (by decide) (by decide) (Nat.le_of_ble_eq_true rfl) dX6_tell_37 (fun M37 h37 => ?_)
    have hvw : VOK (vw M37 1) := seq_ok h37.1.1 (hsr (by omega)).2
    have hw10 : (vw M37 1) 0 10 = (pAll bt len 401 0 V0).2 0 10 := h37.1.1.1.1
    have hcw := ok_c (hsr (by omega)).2
    refine x_aload_n G 1 rfl rfl dX6_tell_40 ?_
    refine x_get G (xR 1) xf6_0 lk_X6_10 (ly_n hY 0 (by decide)) (ly_k hY 0 (by decide)) (Or.inr ⟨rfl, _, (ly_r hY 0 0 (by decide) (by decide)), rfl⟩) dX6_tell_41 ?_
    refine x_callVV G [] [] rfl (by decide) (st_n (ly_st1 hY) 0 (by decide)) (st_k (ly_st1 hY) 0 (by decide)) hy_X3_rankAll hi_X3_rankAll hs_X3_rankAll ml_X6_77 rfl rfl (kX3_rankAll _ _ 1 (vw M37 1) (ly_st1 hY) (shw_self _ _) hvw) (by decide) (by decide) (Nat.le_of_ble_eq_true rfl) dX6_tell_44 (fun M44 h44 => ?_)
    refine x_aload_n G 1 rfl rfl dX6_tell_47 ?_
    refine x_get G (xR 14) xf6_1 lk_X6_19 (ly_n hY 0 (by decide)) (ly_k hY 0 (by decide)) (Or.inr ⟨rfl, _, (ly_r hY 0 1 (by decide) (by decide)), rfl⟩) dX6_tell_48 ?_
    refine x_callVV G [] [] rfl (by decide) (ly_n hY 14 (by decide)) (ly_k hY 14 (by decide)) hy_X0_clear hi_X0_clear hs_X0_clear ml_X6_80 rfl rfl (kX0_clear _ _ hY) (by decide) (by decide) (Nat.le_of_ble_eq_true rfl) dX6_tell_51 (fun M51 h51 => ?_)
    subst h51
    skip
    refine x_aload_n G 1 rfl rfl dX6_tell_54 ?_
    refine x_get G (xR 1) xf6_0 lk_X6_10 (ly_n hY 0 (by decide)) (ly_k hY 0 (by decide)) (Or.inr ⟨rfl, _, (ly_r hY 0 0 (by decide) (by decide)), rfl⟩) dX6_tell_55 ?_
    refine x_get G (xI ((xst M44 14 2 0) 1 10)) xf3_10 lk_X6_83 (st_n (ly_st1 hY) 0 (by decide)) (st_k (ly_st1 hY) 0 (by decide)) (Or.inl ⟨rfl, rfl⟩) dX6_tell_58 ?_
    rw [show (xst M44 14 2 0) 1 10 = ((vw M37 1) 0 10) from ((xst_nq (by omega)).trans ((congrFun (h44.2 1 (by simp <;> omega)) 10).trans (congrFun ((shw_self _ _) 0 (by decide) (by decide) (by decide)) 10)))]
    exact x_iret G Rt dX6_tell_61 ⟨rfl, rfl, _, rfl, (by
        have hb9 := fin_rank (V := vw M37 1) (M := M37) (M2 := M44) (Hs := []) (shw_self _ _) h44.2 h44.1
        have hh : Hst (xst M44 14 2 0) [] := hst_nil hH (by rw [xst_nq (by omega), h44.2 14 (by decide), h37.2 14 (by omega), xst_row (by omega), htf 14 (by omega)]) (xst_same ..)
        have hq : seq (vw (xst M44 14 2 0) 1) (pAll bt len 401 0 V0).2 := by
          have h8 : xof [1 + 2, 1 + 3, 1 + 10] M37 (xst M44 14 2 0) → True := fun _ => trivial
          have e : ∀ k, k < 13 → k ≠ 2 → k ≠ 3 → k ≠ 10 → vw (xst M44 14 2 0) 1 k = vw M37 1 k := fun k g1 g2 g3 g4 => by
            show xst M44 14 2 0 (1 + k) = M37 (1 + k)
            rw [xst_row (by omega), h44.2 _ (by simp; omega)]
          obtain ⟨⟨h1, h2, h3⟩, _⟩ := h37.1
          refine ⟨?_, fun s hs => ?_, fun i hi => ?_⟩
          · rw [e 0 (by decide) (by decide) (by decide) (by decide)]; exact h1
          · rw [e 11 (by decide) (by decide) (by decide) (by decide), e 12 (by decide) (by decide) (by decide) (by decide)]; exact h2 s hs
          · rw [e 4 (by decide) (by decide) (by decide) (by decide), e 5 (by decide) (by decide) (by decide) (by decide), e 6 (by decide) (by decide) (by decide) (by decide), e 7 (by decide) (by decide) (by decide) (by decide), e 8 (by decide) (by decide) (by decide) (by decide), e 9 (by decide) (by decide) (by decide) (by decide)]
            exact h3 i hi
        have h10 : xst M44 14 2 0 1 10 = (pAll bt len 401 0 V0).2 0 10 := hq.1.1
        refine ⟨V0, hz0, Or.inr ⟨by omega, by first | exact hw10 | exact h10, (hsr (by omega)).2, hq, ?_, hh⟩, ?_, fun q hq => ?_⟩
        · have h9 := h44.1
          rw [hw10] at h9
          rw [xst_row (by omega)]
          exact srt_seq' h37.1.1 (by omega) h9
        · rw [xst_row (by omega), h44.2 146 (by decide), h37.2 146 (by omega), xst_same]
        · rw [xst_row (by omega), h44.2 q (by simp; omega), h37.2 q (by omega), xst_row (by omega), htf q (by omega)])⟩
  · skip
    refine x_bipush G (by decide) dX6_tell_21 ?_
    refine x_iload_n G 0 rfl rfl dX6_tell_23 ?_
    refine x_isub G (by omega) dX6_tell_24 ?_
    exact x_iret G Rt dX6_tell_25 ⟨rfl, rfl, _, rfl, ⟨V0, hz0, Or.inl ⟨by omega, by omega, fin_same (fun k g1 g2 g3 => by rw [xst_row (by omega), htf _ (by omega)]; exact hV k g1 g2 g3) hs (hst_fr hH (by rw [xst_row (by omega), htf _ (by omega)]) (fun q g1 g2 => by rw [xst_row (by omega), htf _ (by omega)]))⟩, xst_same .., fun q hq => by rw [xst_row (by omega), htf _ (by omega)]⟩⟩
