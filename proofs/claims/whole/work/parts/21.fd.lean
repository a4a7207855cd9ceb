theorem smp_fr {M M2 : xM} {b : Nat} {V : xM} {L : List Nat} (h : Smp M b V L) (h2 : ∀ k, k < 3 → M2 (b + k) = M (b + k)) : Smp M2 b V L := by
  have e0 : M2 b = M b := h2 0 (by decide)
  refine ⟨by rw [e0]; exact h.1, fun j hj => ?_, fun q hq => ?_⟩
  · rw [h2 1 (by decide)]; exact h.2.1 j hj
  · rw [h2 2 (by decide)]; exact h.2.2 q hq
theorem smp_st {M : xM} {b : Nat} {V : xM} {L : List Nat} {r j : Nat} {z : Int} (h : Smp M b V L) (h2 : r < b ∨ b + 3 ≤ r) : Smp (xst M r j z) b V L := smp_fr h fun k hk => xst_row (by omega)
theorem ask_fr {M M2 : xM} {b : Nat} {s mo t u ou c : Int} (h : Ask M b s mo t u ou c) (h2 : M2 b = M b) : Ask M2 b s mo t u ou c := by
  unfold Ask
  rw [h2]
  exact h
theorem ask_s3 {M : xM} {b : Nat} {s mo t u ou c z : Int} (h : Ask M b s mo t u ou c) : Ask (xst M b 3 z) b z mo t u ou c := by
  simp only [Ask, xst_eq]; simp; exact h.2
theorem ask_s4 {M : xM} {b : Nat} {s mo t u ou c z : Int} (h : Ask M b s mo t u ou c) : Ask (xst M b 4 z) b s z t u ou c := by
  simp only [Ask, xst_eq]; simp; exact ⟨h.1, h.2.2⟩
theorem ask_s5 {M : xM} {b : Nat} {s mo t u ou c z : Int} (h : Ask M b s mo t u ou c) : Ask (xst M b 5 z) b s mo z u ou c := by
  simp only [Ask, xst_eq]; simp; exact ⟨h.1, h.2.1, h.2.2.2⟩
theorem ask_s6 {M : xM} {b : Nat} {s mo t u ou c z : Int} (h : Ask M b s mo t u ou c) : Ask (xst M b 6 z) b s mo t z ou c := by
  simp only [Ask, xst_eq]; simp; exact ⟨h.1, h.2.1, h.2.2.1, h.2.2.2.2⟩
theorem ask_s7 {M : xM} {b : Nat} {s mo t u ou c z : Int} (h : Ask M b s mo t u ou c) : Ask (xst M b 7 z) b s mo t u z c := by
  simp only [Ask, xst_eq]; simp; exact ⟨h.1, h.2.1, h.2.2.1, h.2.2.2.1, h.2.2.2.2.2⟩
theorem ask_s8 {M : xM} {b : Nat} {s mo t u ou c z : Int} (h : Ask M b s mo t u ou c) : Ask (xst M b 8 z) b s mo t u ou z := by
  simp only [Ask, xst_eq]; simp; exact ⟨h.1, h.2.1, h.2.2.1, h.2.2.2.1, h.2.2.2.2.1⟩
theorem two_b {sh : Int} (h : sh ≤ 3) : 1 ≤ (2 : Int) ^ sh.toNat ∧ (2 : Int) ^ sh.toNat ≤ 8 := by
  have h1 := ipow_mono (show (1 : Int) ≤ 2 by decide) (show sh.toNat ≤ 3 by omega)
  have h2 := ipow_pos (show (1 : Int) ≤ 2 by decide) sh.toNat
  omega
theorem alL_mem {V : xM} {sh t w up : Int} {i : Nat} : i ∈ alL V sh t w up ↔ i ∈ rkl V ∧ (i : Int) < up ∧ V 9 i = 0 ∧ V 4 i = sh ∧ (w = 0 ∨ t - w < V 8 i) := by
  unfold alL; rw [List.mem_filter]; simp
theorem getD_in {L : List Nat} {j : Nat} (h : j < L.length) : L.getD j 0 ∈ L := by
  simp [List.getD, h]
theorem lst_in {L : List Nat} (h : 0 < L.length) : (lst L).toNat ∈ L ∧ 0 ≤ lst L := by
  unfold lst
  rw [if_pos h]
  have := getD_in (L := L) (j := L.length - 1) (by omega)
  exact ⟨by simpa using this, by omega⟩
theorem al_it {V : xM} (hs : Srt V (V 10) (V 0 10).toNat) {sh t w up : Int} {i : Nat} (h : i ∈ alL V sh t w up) : (i : Int) < V 0 10 := (rkl_iff hs i).mp (alL_mem.mp h).1
theorem sm_it {V : xM} (hs : Srt V (V 10) (V 0 10).toNat) {sh : Int} {i : Nat} (h : i ∈ smL V sh) : (i : Int) < V 0 10 := al_it hs (List.mem_of_mem_take h)
theorem me_it {V : xM} (hs : Srt V (V 10) (V 0 10).toNat) {set n : Int} {i : Nat} (h : i ∈ meL V set n) : (i : Int) < V 0 10 := (rkl_iff hs i).mp (List.mem_filter.mp (List.mem_of_mem_take h)).1
theorem fil_me {V : xM} (hv : VOK V) (hs : Srt V (V 10) (V 0 10).toNat) {set n : Int} : fil V (fun i => decide (asd V set (V 0 11) 100 (-1) i)) n 100 (rkl V) = meL V set n := by
  rw [fil_eq (by have := rkl_l100 hv; omega)]
  unfold meL
  congr 1
  apply List.filter_congr
  intro i hi
  have h1 := (rkl_iff hs i).mp hi
  have h2 := ok_c hv
  exact decide_eq_decide.mpr ⟨fun h => ⟨h.1, h.2.2.2⟩, fun h => ⟨h.1, by omega, by omega, h.2⟩⟩
theorem fil_all {V : xM} (hv : VOK V) (hs : Srt V (V 10) (V 0 10).toNat) {sh mo : Int} (h : 0 ≤ sh ∧ sh ≤ 3) (hm : 100 ≤ mo) : fil V (fun i => decide (asd V (2 ^ sh.toNat) (V 0 11) 100 (-1) i)) mo 100 (rkl V) = alL V sh (V 0 11) (V 12 sh.toNat) (V 0 10) := by
  rw [fil_al hv hs h, alL_up hs (by have := ok_c hv; omega)]
  exact List.take_of_length_le (by have := alL_len hv sh (V 0 11) (V 12 sh.toNat) (V 0 10); omega)
def qPl (L : List Nat) (i : Nat) : Int := if i ∈ L then ((L.idxOf i : Nat) : Int) else -2
theorem plc_q (L : List Nat) (i : Nat) : qPl L i = if plc L i = -1 then -2 else plc L i := by
  unfold qPl plc
  split
  · rw [if_neg (by omega)]
  · rw [if_pos rfl]
def qLife (V : xM) (i : Int) : Int := if V 9 i.toNat = 0 then (if alv V i.toNat (V 0 11) then 2 else 1) else 0
def qOf (V : xM) (i what : Int) : Int := if isI V i then (if what = 0 then V 4 i.toNat else if what = 1 then V 5 i.toNat else if what = 2 then V 6 i.toNat else if what = 3 then V 7 i.toNat else if what = 4 then V 8 i.toNat else if what = 5 then qLife V i else if what = 6 then qPl (smL V (V 4 i.toNat)) i.toNat else if what = 7 then qPl (alL V (V 4 i.toNat) (V 0 11) (V 12 (V 4 i.toNat).toNat) (V 0 10)) i.toNat else -1) else -1
def qOrd (V : xM) (i j : Int) : Int := if isI V i ∧ isI V j then (if kc (V 7 i.toNat) (V 6 i.toNat) (V 7 j.toNat) (V 6 j.toNat) = 0 then 0 else if 0 < kc (V 7 i.toNat) (V 6 i.toNat) (V 7 j.toNat) (V 6 j.toNat) then 1 else 2) else -1
def qSample (V : xM) (sh k : Int) : Int := if (0 ≤ sh ∧ sh ≤ 3) ∧ -1 ≤ k then kth (smL V sh) k else -1
abbrev okMe (set n : Int) : Prop := (1 ≤ set ∧ set ≤ 15) ∧ 1 ≤ n ∧ n ≤ 24
def qMerged (V : xM) (set n k : Int) : Int := if okMe set n ∧ -1 ≤ k then kth (meL V set n) k else -1
def cntL (L : List Nat) (P : Nat → Prop) [DecidablePred P] : Int := ((L.countP fun i => decide (P i) : Nat) : Int)
def qPartOf (V : xM) (set n sh : Int) : Int := if okMe set n ∧ 0 ≤ sh ∧ sh ≤ 3 then cntL (meL V set n) (fun i => V 4 i = sh) else -1
def cpL (V : xM) (sh m : Int) : List Nat := fil V (fun i => decide (asd V (2 ^ sh.toNat) (V 0 11) 100 (-1) i)) (V 11 sh.toNat) m (rkl V)
def qCapped (V : xM) (sh m k : Int) : Int := if (0 ≤ sh ∧ sh ≤ 3) ∧ (1 ≤ m ∧ m ≤ 12) ∧ -1 ≤ k then kth (cpL V sh m) k else -1
def qFull (V : xM) (sh : Int) : Int := if ((smL V sh).length : Int) < V 11 sh.toNat then -2 else lst (smL V sh)
def qLast (V : xM) (sh : Int) : Int := if 0 ≤ sh ∧ sh ≤ 3 then qFull V sh else -1
theorem cnt_take (L : List Nat) (P : Nat → Prop) [DecidablePred P] {k : Nat} (hk : k < L.length) : cntL (L.take (k + 1)) P = cntL (L.take k) P + b2i (P (L.getD k 0)) := by
  unfold cntL
  rw [List.take_succ, List.countP_append]
  have e : L[k]? = some (L.getD k 0) := by simp [List.getD, hk]
  rw [e]
  generalize L.getD k 0 = x
  by_cases h : P x
  · rw [b2i_t h]; simp [h]
  · rw [b2i_f h]; simp [h]
theorem cnt_b (L : List Nat) (P : Nat → Prop) [DecidablePred P] : 0 ≤ cntL L P ∧ cntL L P ≤ L.length := by
  unfold cntL
  have := List.countP_le_length (p := fun i => decide (P i)) (l := L)
  omega
