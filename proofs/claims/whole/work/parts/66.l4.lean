theorem tm1 {w : Cond} (i : Nat) (h : tables_1_1[i]? = some w) : w ∈ lw_tbl := tb_in (show w ∈ tables_1 from List.mem_append_left _ (List.mem_of_getElem? h))
theorem tm2 {w : Cond} (i : Nat) (h : tables_1_2[i]? = some w) : w ∈ lw_tbl := tb_in (show w ∈ tables_1 from List.mem_append_right _ (List.mem_append_left _ (List.mem_of_getElem? h)))
theorem tm3 {w : Cond} (i : Nat) (h : tables_1_3[i]? = some w) : w ∈ lw_tbl := tb_in (show w ∈ tables_1 from List.mem_append_right _ (List.mem_append_right _ (List.mem_append_left _ (List.mem_of_getElem? h))))
theorem tm4 {w : Cond} (i : Nat) (h : tables_1_4[i]? = some w) : w ∈ lw_tbl := tb_in (show w ∈ tables_1 from List.mem_append_right _ (List.mem_append_right _ (List.mem_append_right _ (List.mem_append_left _ (List.mem_of_getElem? h)))))
theorem tm5 {w : Cond} (i : Nat) (h : tables_1_5[i]? = some w) : w ∈ lw_tbl := tb_in (show w ∈ tables_1 from List.mem_append_right _ (List.mem_append_right _ (List.mem_append_right _ (List.mem_append_right _ (List.mem_append_left _ (List.mem_of_getElem? h))))))
theorem tm6 {w : Cond} (i : Nat) (h : tables_1_6[i]? = some w) : w ∈ lw_tbl := tb_in (show w ∈ tables_1 from List.mem_append_right _ (List.mem_append_right _ (List.mem_append_right _ (List.mem_append_right _ (List.mem_append_right _ (List.mem_append_left _ (List.mem_of_getElem? h)))))))
theorem tm7 {w : Cond} (i : Nat) (h : tables_1_7[i]? = some w) : w ∈ lw_tbl := tb_in (show w ∈ tables_1 from List.mem_append_right _ (List.mem_append_right _ (List.mem_append_right _ (List.mem_append_right _ (List.mem_append_right _ (List.mem_append_right _ (List.mem_of_getElem? h)))))))
def gvL : List Cond := flatC (Jvm.Cond.and given_1 narrow_1)
theorem gv_in {w : Cond} (i : Nat) (h : gvL[i]? = some w) : w ∈ gvL := List.mem_of_getElem? h
theorem str_of {args : Array Value} {s : State} {own tx : String} {k : Nat} {bs : List Int} {A : Nat → Prop} (hl : bs.length < 2 ^ 31) (h1 : (Cond.stringRef own k tx).before args s = true) (hex : (Cond.exactly (.string own k) "java/lang/String").before args s = true) (hco : (Cond.eq (.field (.string own k) "java/lang/String" "coder" "B") (.int 0)).before args s = true) (har : (Cond.arrayOf (.field (.string own k) "java/lang/String" "value" "[B") .byte).before args s = true) (hle : (Cond.eq (.length (.field (.string own k) "java/lang/String" "value" "[B")) (.int (Int32.ofNat bs.length))).before args s = true) (hel : ∀ j : Nat, j < bs.length → (Cond.eq (.elem (.field (.string own k) "java/lang/String" "value" "[B") (.int (Int32.ofNat j))) (.int (Int32.ofInt (bs.getD j 0)))).before args s = true) (hA : ∀ a : Nat, a < s.heap.size → ¬ A a) : ∃ q : Nat × Nat, vk_R own k tx q.1 s ∧ va_O "java/lang/String" q.1 A s s.heap ∧ va_OF "java/lang/String" "coder" "B" (.int 0) q.1 A s s.heap ∧ va_OF "java/lang/String" "value" "[B" (.ref q.2) q.1 A s s.heap ∧ va_T .byte q.2 bs.length (fun j => .int (Int32.ofInt (bs.getD j 0))) A s s.heap := by
  obtain ⟨t, ht, hT⟩ := va_Tof (f := fun j => .int (Int32.ofInt (bs.getD j 0))) (A := A) hl har (va_eqt hle) (fun j hj => va_eqt (hel j hj)) hA
  obtain ⟨a, c, cA, kA, q1, -⟩ := Cond.exactly_spec (args := args) (first := s) (o := none) (s := s) (idx := []) (t := .string own k) (cls := "java/lang/String") hex
  exact ⟨(a, t), vk_R.of h1 q1, va_Oof hex q1 hA, vk_OFof q1 (va_eqt hco) hA, vk_OFof q1 ht hA, hT⟩
theorem str_0 {args : Array Value} {s : State} {A : Nat → Prop} (hts : ∀ w ∈ lw_tbl, w.before args s = true) (hg : ∀ w ∈ gvL, w.before args s = true) (hA : ∀ a : Nat, a < s.heap.size → ¬ A a) : ∃ q : Nat × Nat, vk_R "FairDraws$Tape" 45 "size" q.1 s ∧ va_O "java/lang/String" q.1 A s s.heap ∧ va_OF "java/lang/String" "coder" "B" (.int 0) q.1 A s s.heap ∧ va_OF "java/lang/String" "value" "[B" (.ref q.2) q.1 A s s.heap ∧ va_T .byte q.2 ([115, 105, 122, 101] : List Int).length (fun j => .int (Int32.ofInt (([115, 105, 122, 101] : List Int).getD j 0))) A s s.heap := str_of (bs := [115, 105, 122, 101]) (by decide) (hts _ (tm2 45 rfl)) (hg _ (gv_in 9 (by decide +kernel))) (hg _ (gv_in 10 (by decide +kernel))) (hg _ (gv_in 11 (by decide +kernel))) (hg _ (gv_in 12 (by decide +kernel))) (fun j hj => match j, hj with | 0, _ => hg _ (gv_in 13 (by decide +kernel)) | 1, _ => hg _ (gv_in 14 (by decide +kernel)) | 2, _ => hg _ (gv_in 15 (by decide +kernel)) | 3, _ => hg _ (gv_in 16 (by decide +kernel)) | (j + 4), h => absurd h (by simp)) hA
theorem str_1 {args : Array Value} {s : State} {A : Nat → Prop} (hts : ∀ w ∈ lw_tbl, w.before args s = true) (hg : ∀ w ∈ gvL, w.before args s = true) (hA : ∀ a : Nat, a < s.heap.size → ¬ A a) : ∃ q : Nat × Nat, vk_R "FairDraws$Tape" 54 "window" q.1 s ∧ va_O "java/lang/String" q.1 A s s.heap ∧ va_OF "java/lang/String" "coder" "B" (.int 0) q.1 A s s.heap ∧ va_OF "java/lang/String" "value" "[B" (.ref q.2) q.1 A s s.heap ∧ va_T .byte q.2 ([119, 105, 110, 100, 111, 119] : List Int).length (fun j => .int (Int32.ofInt (([119, 105, 110, 100, 111, 119] : List Int).getD j 0))) A s s.heap := str_of (bs := [119, 105, 110, 100, 111, 119]) (by decide) (hts _ (tm2 119 rfl)) (hg _ (gv_in 17 (by decide +kernel))) (hg _ (gv_in 18 (by decide +kernel))) (hg _ (gv_in 19 (by decide +kernel))) (hg _ (gv_in 20 (by decide +kernel))) (fun j hj => match j, hj with | 0, _ => hg _ (gv_in 21 (by decide +kernel)) | 1, _ => hg _ (gv_in 22 (by decide +kernel)) | 2, _ => hg _ (gv_in 23 (by decide +kernel)) | 3, _ => hg _ (gv_in 24 (by decide +kernel)) | 4, _ => hg _ (gv_in 25 (by decide +kernel)) | 5, _ => hg _ (gv_in 26 (by decide +kernel)) | (j + 6), h => absurd h (by simp)) hA
theorem str_2 {args : Array Value} {s : State} {A : Nat → Prop} (hts : ∀ w ∈ lw_tbl, w.before args s = true) (hg : ∀ w ∈ gvL, w.before args s = true) (hA : ∀ a : Nat, a < s.heap.size → ¬ A a) : ∃ q : Nat × Nat, vk_R "FairDraws$Tape" 59 "seed" q.1 s ∧ va_O "java/lang/String" q.1 A s s.heap ∧ va_OF "java/lang/String" "coder" "B" (.int 0) q.1 A s s.heap ∧ va_OF "java/lang/String" "value" "[B" (.ref q.2) q.1 A s s.heap ∧ va_T .byte q.2 ([115, 101, 101, 100] : List Int).length (fun j => .int (Int32.ofInt (([115, 101, 101, 100] : List Int).getD j 0))) A s s.heap := str_of (bs := [115, 101, 101, 100]) (by decide) (hts _ (tm2 124 rfl)) (hg _ (gv_in 28 (by decide +kernel))) (hg _ (gv_in 29 (by decide +kernel))) (hg _ (gv_in 30 (by decide +kernel))) (hg _ (gv_in 31 (by decide +kernel))) (fun j hj => match j, hj with | 0, _ => hg _ (gv_in 32 (by decide +kernel)) | 1, _ => hg _ (gv_in 33 (by decide +kernel)) | 2, _ => hg _ (gv_in 34 (by decide +kernel)) | 3, _ => hg _ (gv_in 35 (by decide +kernel)) | (j + 4), h => absurd h (by simp)) hA
theorem str_3 {args : Array Value} {s : State} {A : Nat → Prop} (hts : ∀ w ∈ lw_tbl, w.before args s = true) (hg : ∀ w ∈ gvL, w.before args s = true) (hA : ∀ a : Nat, a < s.heap.size → ¬ A a) : ∃ q : Nat × Nat, vk_R "FairDraws$Tape" 64 "wait" q.1 s ∧ va_O "java/lang/String" q.1 A s s.heap ∧ va_OF "java/lang/String" "coder" "B" (.int 0) q.1 A s s.heap ∧ va_OF "java/lang/String" "value" "[B" (.ref q.2) q.1 A s s.heap ∧ va_T .byte q.2 ([119, 97, 105, 116] : List Int).length (fun j => .int (Int32.ofInt (([119, 97, 105, 116] : List Int).getD j 0))) A s s.heap := str_of (bs := [119, 97, 105, 116]) (by decide) (hts _ (tm2 130 rfl)) (hg _ (gv_in 38 (by decide +kernel))) (hg _ (gv_in 39 (by decide +kernel))) (hg _ (gv_in 40 (by decide +kernel))) (hg _ (gv_in 41 (by decide +kernel))) (fun j hj => match j, hj with | 0, _ => hg _ (gv_in 42 (by decide +kernel)) | 1, _ => hg _ (gv_in 43 (by decide +kernel)) | 2, _ => hg _ (gv_in 44 (by decide +kernel)) | 3, _ => hg _ (gv_in 45 (by decide +kernel)) | (j + 4), h => absurd h (by simp)) hA
theorem str_4 {args : Array Value} {s : State} {A : Nat → Prop} (hts : ∀ w ∈ lw_tbl, w.before args s = true) (hg : ∀ w ∈ gvL, w.before args s = true) (hA : ∀ a : Nat, a < s.heap.size → ¬ A a) : ∃ q : Nat × Nat, vk_R "FairDraws$Tape" 70 "item" q.1 s ∧ va_O "java/lang/String" q.1 A s s.heap ∧ va_OF "java/lang/String" "coder" "B" (.int 0) q.1 A s s.heap ∧ va_OF "java/lang/String" "value" "[B" (.ref q.2) q.1 A s s.heap ∧ va_T .byte q.2 ([105, 116, 101, 109] : List Int).length (fun j => .int (Int32.ofInt (([105, 116, 101, 109] : List Int).getD j 0))) A s s.heap := str_of (bs := [105, 116, 101, 109]) (by decide) (hts _ (tm2 136 rfl)) (hg _ (gv_in 49 (by decide +kernel))) (hg _ (gv_in 50 (by decide +kernel))) (hg _ (gv_in 51 (by decide +kernel))) (hg _ (gv_in 52 (by decide +kernel))) (fun j hj => match j, hj with | 0, _ => hg _ (gv_in 53 (by decide +kernel)) | 1, _ => hg _ (gv_in 54 (by decide +kernel)) | 2, _ => hg _ (gv_in 55 (by decide +kernel)) | 3, _ => hg _ (gv_in 56 (by decide +kernel)) | (j + 4), h => absurd h (by simp)) hA
theorem str_5 {args : Array Value} {s : State} {A : Nat → Prop} (hts : ∀ w ∈ lw_tbl, w.before args s = true) (hg : ∀ w ∈ gvL, w.before args s = true) (hA : ∀ a : Nat, a < s.heap.size → ¬ A a) : ∃ q : Nat × Nat, vk_R "FairDraws$Tape" 101 "times" q.1 s ∧ va_O "java/lang/String" q.1 A s s.heap ∧ va_OF "java/lang/String" "coder" "B" (.int 0) q.1 A s s.heap ∧ va_OF "java/lang/String" "value" "[B" (.ref q.2) q.1 A s s.heap ∧ va_T .byte q.2 ([116, 105, 109, 101, 115] : List Int).length (fun j => .int (Int32.ofInt (([116, 105, 109, 101, 115] : List Int).getD j 0))) A s s.heap := str_of (bs := [116, 105, 109, 101, 115]) (by decide) (hts _ (tm2 145 rfl)) (hg _ (gv_in 61 (by decide +kernel))) (hg _ (gv_in 62 (by decide +kernel))) (hg _ (gv_in 63 (by decide +kernel))) (hg _ (gv_in 64 (by decide +kernel))) (fun j hj => match j, hj with | 0, _ => hg _ (gv_in 65 (by decide +kernel)) | 1, _ => hg _ (gv_in 66 (by decide +kernel)) | 2, _ => hg _ (gv_in 67 (by decide +kernel)) | 3, _ => hg _ (gv_in 68 (by decide +kernel)) | 4, _ => hg _ (gv_in 69 (by decide +kernel)) | (j + 5), h => absurd h (by simp)) hA
theorem str_6 {args : Array Value} {s : State} {A : Nat → Prop} (hts : ∀ w ∈ lw_tbl, w.before args s = true) (hg : ∀ w ∈ gvL, w.before args s = true) (hA : ∀ a : Nat, a < s.heap.size → ¬ A a) : ∃ q : Nat × Nat, vk_R "FairDraws$Tape" 75 "key" q.1 s ∧ va_O "java/lang/String" q.1 A s s.heap ∧ va_OF "java/lang/String" "coder" "B" (.int 0) q.1 A s s.heap ∧ va_OF "java/lang/String" "value" "[B" (.ref q.2) q.1 A s s.heap ∧ va_T .byte q.2 ([107, 101, 121] : List Int).length (fun j => .int (Int32.ofInt (([107, 101, 121] : List Int).getD j 0))) A s s.heap := str_of (bs := [107, 101, 121]) (by decide) (hts _ (tm2 162 rfl)) (hg _ (gv_in 75 (by decide +kernel))) (hg _ (gv_in 76 (by decide +kernel))) (hg _ (gv_in 77 (by decide +kernel))) (hg _ (gv_in 78 (by decide +kernel))) (fun j hj => match j, hj with | 0, _ => hg _ (gv_in 79 (by decide +kernel)) | 1, _ => hg _ (gv_in 80 (by decide +kernel)) | 2, _ => hg _ (gv_in 81 (by decide +kernel)) | (j + 3), h => absurd h (by simp)) hA
theorem str_7 {args : Array Value} {s : State} {A : Nat → Prop} (hts : ∀ w ∈ lw_tbl, w.before args s = true) (hg : ∀ w ∈ gvL, w.before args s = true) (hA : ∀ a : Nat, a < s.heap.size → ¬ A a) : ∃ q : Nat × Nat, vk_R "FairDraws$Teller" 60 "size" q.1 s ∧ va_O "java/lang/String" q.1 A s s.heap ∧ va_OF "java/lang/String" "coder" "B" (.int 0) q.1 A s s.heap ∧ va_OF "java/lang/String" "value" "[B" (.ref q.2) q.1 A s s.heap ∧ va_T .byte q.2 ([115, 105, 122, 101] : List Int).length (fun j => .int (Int32.ofInt (([115, 105, 122, 101] : List Int).getD j 0))) A s s.heap := str_of (bs := [115, 105, 122, 101]) (by decide) (hts _ (tm4 156 rfl)) (hg _ (gv_in 88 (by decide +kernel))) (hg _ (gv_in 89 (by decide +kernel))) (hg _ (gv_in 90 (by decide +kernel))) (hg _ (gv_in 91 (by decide +kernel))) (fun j hj => match j, hj with | 0, _ => hg _ (gv_in 92 (by decide +kernel)) | 1, _ => hg _ (gv_in 93 (by decide +kernel)) | 2, _ => hg _ (gv_in 94 (by decide +kernel)) | 3, _ => hg _ (gv_in 95 (by decide +kernel)) | (j + 4), h => absurd h (by simp)) hA
theorem str_8 {args : Array Value} {s : State} {A : Nat → Prop} (hts : ∀ w ∈ lw_tbl, w.before args s = true) (hg : ∀ w ∈ gvL, w.before args s = true) (hA : ∀ a : Nat, a < s.heap.size → ¬ A a) : ∃ q : Nat × Nat, vk_R "FairDraws$Teller" 65 "window" q.1 s ∧ va_O "java/lang/String" q.1 A s s.heap ∧ va_OF "java/lang/String" "coder" "B" (.int 0) q.1 A s s.heap ∧ va_OF "java/lang/String" "value" "[B" (.ref q.2) q.1 A s s.heap ∧ va_T .byte q.2 ([119, 105, 110, 100, 111, 119] : List Int).length (fun j => .int (Int32.ofInt (([119, 105, 110, 100, 111, 119] : List Int).getD j 0))) A s s.heap := str_of (bs := [119, 105, 110, 100, 111, 119]) (by decide) (hts _ (tm4 171 rfl)) (hg _ (gv_in 103 (by decide +kernel))) (hg _ (gv_in 104 (by decide +kernel))) (hg _ (gv_in 105 (by decide +kernel))) (hg _ (gv_in 106 (by decide +kernel))) (fun j hj => match j, hj with | 0, _ => hg _ (gv_in 107 (by decide +kernel)) | 1, _ => hg _ (gv_in 108 (by decide +kernel)) | 2, _ => hg _ (gv_in 109 (by decide +kernel)) | 3, _ => hg _ (gv_in 110 (by decide +kernel)) | 4, _ => hg _ (gv_in 111 (by decide +kernel)) | 5, _ => hg _ (gv_in 112 (by decide +kernel)) | (j + 6), h => absurd h (by simp)) hA
theorem str_9 {args : Array Value} {s : State} {A : Nat → Prop} (hts : ∀ w ∈ lw_tbl, w.before args s = true) (hg : ∀ w ∈ gvL, w.before args s = true) (hA : ∀ a : Nat, a < s.heap.size → ¬ A a) : ∃ q : Nat × Nat, vk_R "FairDraws$Teller" 87 "wait" q.1 s ∧ va_O "java/lang/String" q.1 A s s.heap ∧ va_OF "java/lang/String" "coder" "B" (.int 0) q.1 A s s.heap ∧ va_OF "java/lang/String" "value" "[B" (.ref q.2) q.1 A s s.heap ∧ va_T .byte q.2 ([119, 97, 105, 116] : List Int).length (fun j => .int (Int32.ofInt (([119, 97, 105, 116] : List Int).getD j 0))) A s s.heap := str_of (bs := [119, 97, 105, 116]) (by decide) (hts _ (tm4 176 rfl)) (hg _ (gv_in 121 (by decide +kernel))) (hg _ (gv_in 122 (by decide +kernel))) (hg _ (gv_in 123 (by decide +kernel))) (hg _ (gv_in 124 (by decide +kernel))) (fun j hj => match j, hj with | 0, _ => hg _ (gv_in 125 (by decide +kernel)) | 1, _ => hg _ (gv_in 126 (by decide +kernel)) | 2, _ => hg _ (gv_in 127 (by decide +kernel)) | 3, _ => hg _ (gv_in 128 (by decide +kernel)) | (j + 4), h => absurd h (by simp)) hA
theorem str_10 {args : Array Value} {s : State} {A : Nat → Prop} (hts : ∀ w ∈ lw_tbl, w.before args s = true) (hg : ∀ w ∈ gvL, w.before args s = true) (hA : ∀ a : Nat, a < s.heap.size → ¬ A a) : ∃ q : Nat × Nat, vk_R "FairDraws$Teller" 70 "key" q.1 s ∧ va_O "java/lang/String" q.1 A s s.heap ∧ va_OF "java/lang/String" "coder" "B" (.int 0) q.1 A s s.heap ∧ va_OF "java/lang/String" "value" "[B" (.ref q.2) q.1 A s s.heap ∧ va_T .byte q.2 ([107, 101, 121] : List Int).length (fun j => .int (Int32.ofInt (([107, 101, 121] : List Int).getD j 0))) A s s.heap := str_of (bs := [107, 101, 121]) (by decide) (hts _ (tm4 182 rfl)) (hg _ (gv_in 138 (by decide +kernel))) (hg _ (gv_in 139 (by decide +kernel))) (hg _ (gv_in 140 (by decide +kernel))) (hg _ (gv_in 141 (by decide +kernel))) (fun j hj => match j, hj with | 0, _ => hg _ (gv_in 142 (by decide +kernel)) | 1, _ => hg _ (gv_in 143 (by decide +kernel)) | 2, _ => hg _ (gv_in 144 (by decide +kernel)) | (j + 3), h => absurd h (by simp)) hA
theorem str_11 {args : Array Value} {s : State} {A : Nat → Prop} (hts : ∀ w ∈ lw_tbl, w.before args s = true) (hg : ∀ w ∈ gvL, w.before args s = true) (hA : ∀ a : Nat, a < s.heap.size → ¬ A a) : ∃ q : Nat × Nat, vk_R "FairDraws$Teller" 49 "seed" q.1 s ∧ va_O "java/lang/String" q.1 A s s.heap ∧ va_OF "java/lang/String" "coder" "B" (.int 0) q.1 A s s.heap ∧ va_OF "java/lang/String" "value" "[B" (.ref q.2) q.1 A s s.heap ∧ va_T .byte q.2 ([115, 101, 101, 100] : List Int).length (fun j => .int (Int32.ofInt (([115, 101, 101, 100] : List Int).getD j 0))) A s s.heap := str_of (bs := [115, 101, 101, 100]) (by decide) (hts _ (tm4 183 rfl)) (hg _ (gv_in 155 (by decide +kernel))) (hg _ (gv_in 156 (by decide +kernel))) (hg _ (gv_in 157 (by decide +kernel))) (hg _ (gv_in 158 (by decide +kernel))) (fun j hj => match j, hj with | 0, _ => hg _ (gv_in 159 (by decide +kernel)) | 1, _ => hg _ (gv_in 160 (by decide +kernel)) | 2, _ => hg _ (gv_in 161 (by decide +kernel)) | 3, _ => hg _ (gv_in 162 (by decide +kernel)) | (j + 4), h => absurd h (by simp)) hA
theorem str_12 {args : Array Value} {s : State} {A : Nat → Prop} (hts : ∀ w ∈ lw_tbl, w.before args s = true) (hg : ∀ w ∈ gvL, w.before args s = true) (hA : ∀ a : Nat, a < s.heap.size → ¬ A a) : ∃ q : Nat × Nat, vk_R "FairDrawsModel" 264 "size" q.1 s ∧ va_O "java/lang/String" q.1 A s s.heap ∧ va_OF "java/lang/String" "coder" "B" (.int 0) q.1 A s s.heap ∧ va_OF "java/lang/String" "value" "[B" (.ref q.2) q.1 A s s.heap ∧ va_T .byte q.2 ([115, 105, 122, 101] : List Int).length (fun j => .int (Int32.ofInt (([115, 105, 122, 101] : List Int).getD j 0))) A s s.heap := str_of (bs := [115, 105, 122, 101]) (by decide) (hts _ (tm6 138 rfl)) (hg _ (gv_in 174 (by decide +kernel))) (hg _ (gv_in 175 (by decide +kernel))) (hg _ (gv_in 176 (by decide +kernel))) (hg _ (gv_in 177 (by decide +kernel))) (fun j hj => match j, hj with | 0, _ => hg _ (gv_in 178 (by decide +kernel)) | 1, _ => hg _ (gv_in 179 (by decide +kernel)) | 2, _ => hg _ (gv_in 180 (by decide +kernel)) | 3, _ => hg _ (gv_in 181 (by decide +kernel)) | (j + 4), h => absurd h (by simp)) hA
theorem str_13 {args : Array Value} {s : State} {A : Nat → Prop} (hts : ∀ w ∈ lw_tbl, w.before args s = true) (hg : ∀ w ∈ gvL, w.before args s = true) (hA : ∀ a : Nat, a < s.heap.size → ¬ A a) : ∃ q : Nat × Nat, vk_R "FairDrawsModel" 266 "window" q.1 s ∧ va_O "java/lang/String" q.1 A s s.heap ∧ va_OF "java/lang/String" "coder" "B" (.int 0) q.1 A s s.heap ∧ va_OF "java/lang/String" "value" "[B" (.ref q.2) q.1 A s s.heap ∧ va_T .byte q.2 ([119, 105, 110, 100, 111, 119] : List Int).length (fun j => .int (Int32.ofInt (([119, 105, 110, 100, 111, 119] : List Int).getD j 0))) A s s.heap := str_of (bs := [119, 105, 110, 100, 111, 119]) (by decide) (hts _ (tm6 157 rfl)) (hg _ (gv_in 194 (by decide +kernel))) (hg _ (gv_in 195 (by decide +kernel))) (hg _ (gv_in 196 (by decide +kernel))) (hg _ (gv_in 197 (by decide +kernel))) (fun j hj => match j, hj with | 0, _ => hg _ (gv_in 198 (by decide +kernel)) | 1, _ => hg _ (gv_in 199 (by decide +kernel)) | 2, _ => hg _ (gv_in 200 (by decide +kernel)) | 3, _ => hg _ (gv_in 201 (by decide +kernel)) | 4, _ => hg _ (gv_in 202 (by decide +kernel)) | 5, _ => hg _ (gv_in 203 (by decide +kernel)) | (j + 6), h => absurd h (by simp)) hA
theorem str_14 {args : Array Value} {s : State} {A : Nat → Prop} (hts : ∀ w ∈ lw_tbl, w.before args s = true) (hg : ∀ w ∈ gvL, w.before args s = true) (hA : ∀ a : Nat, a < s.heap.size → ¬ A a) : ∃ q : Nat × Nat, vk_R "FairDrawsModel" 255 "wait" q.1 s ∧ va_O "java/lang/String" q.1 A s s.heap ∧ va_OF "java/lang/String" "coder" "B" (.int 0) q.1 A s s.heap ∧ va_OF "java/lang/String" "value" "[B" (.ref q.2) q.1 A s s.heap ∧ va_T .byte q.2 ([119, 97, 105, 116] : List Int).length (fun j => .int (Int32.ofInt (([119, 97, 105, 116] : List Int).getD j 0))) A s s.heap := str_of (bs := [119, 97, 105, 116]) (by decide) (hts _ (tm6 162 rfl)) (hg _ (gv_in 217 (by decide +kernel))) (hg _ (gv_in 218 (by decide +kernel))) (hg _ (gv_in 219 (by decide +kernel))) (hg _ (gv_in 220 (by decide +kernel))) (fun j hj => match j, hj with | 0, _ => hg _ (gv_in 221 (by decide +kernel)) | 1, _ => hg _ (gv_in 222 (by decide +kernel)) | 2, _ => hg _ (gv_in 223 (by decide +kernel)) | 3, _ => hg _ (gv_in 224 (by decide +kernel)) | (j + 4), h => absurd h (by simp)) hA
theorem str_15 {args : Array Value} {s : State} {A : Nat → Prop} (hts : ∀ w ∈ lw_tbl, w.before args s = true) (hg : ∀ w ∈ gvL, w.before args s = true) (hA : ∀ a : Nat, a < s.heap.size → ¬ A a) : ∃ q : Nat × Nat, vk_R "FairDrawsModel" 271 "key" q.1 s ∧ va_O "java/lang/String" q.1 A s s.heap ∧ va_OF "java/lang/String" "coder" "B" (.int 0) q.1 A s s.heap ∧ va_OF "java/lang/String" "value" "[B" (.ref q.2) q.1 A s s.heap ∧ va_T .byte q.2 ([107, 101, 121] : List Int).length (fun j => .int (Int32.ofInt (([107, 101, 121] : List Int).getD j 0))) A s s.heap := str_of (bs := [107, 101, 121]) (by decide) (hts _ (tm6 163 rfl)) (hg _ (gv_in 239 (by decide +kernel))) (hg _ (gv_in 240 (by decide +kernel))) (hg _ (gv_in 241 (by decide +kernel))) (hg _ (gv_in 242 (by decide +kernel))) (fun j hj => match j, hj with | 0, _ => hg _ (gv_in 243 (by decide +kernel)) | 1, _ => hg _ (gv_in 244 (by decide +kernel)) | 2, _ => hg _ (gv_in 245 (by decide +kernel)) | (j + 3), h => absurd h (by simp)) hA
theorem str_16 {args : Array Value} {s : State} {A : Nat → Prop} (hts : ∀ w ∈ lw_tbl, w.before args s = true) (hg : ∀ w ∈ gvL, w.before args s = true) (hA : ∀ a : Nat, a < s.heap.size → ¬ A a) : ∃ q : Nat × Nat, vk_R "FairDrawsModel" 273 "seed" q.1 s ∧ va_O "java/lang/String" q.1 A s s.heap ∧ va_OF "java/lang/String" "coder" "B" (.int 0) q.1 A s s.heap ∧ va_OF "java/lang/String" "value" "[B" (.ref q.2) q.1 A s s.heap ∧ va_T .byte q.2 ([115, 101, 101, 100] : List Int).length (fun j => .int (Int32.ofInt (([115, 101, 101, 100] : List Int).getD j 0))) A s s.heap := str_of (bs := [115, 101, 101, 100]) (by decide) (hts _ (tm6 164 rfl)) (hg _ (gv_in 261 (by decide +kernel))) (hg _ (gv_in 262 (by decide +kernel))) (hg _ (gv_in 263 (by decide +kernel))) (hg _ (gv_in 264 (by decide +kernel))) (fun j hj => match j, hj with | 0, _ => hg _ (gv_in 265 (by decide +kernel)) | 1, _ => hg _ (gv_in 266 (by decide +kernel)) | 2, _ => hg _ (gv_in 267 (by decide +kernel)) | 3, _ => hg _ (gv_in 268 (by decide +kernel)) | (j + 4), h => absurd h (by simp)) hA
theorem str_17 {args : Array Value} {s : State} {A : Nat → Prop} (hts : ∀ w ∈ lw_tbl, w.before args s = true) (hg : ∀ w ∈ gvL, w.before args s = true) (hA : ∀ a : Nat, a < s.heap.size → ¬ A a) : ∃ q : Nat × Nat, vk_R "FairDrawsModel" 339 "item" q.1 s ∧ va_O "java/lang/String" q.1 A s s.heap ∧ va_OF "java/lang/String" "coder" "B" (.int 0) q.1 A s s.heap ∧ va_OF "java/lang/String" "value" "[B" (.ref q.2) q.1 A s s.heap ∧ va_T .byte q.2 ([105, 116, 101, 109] : List Int).length (fun j => .int (Int32.ofInt (([105, 116, 101, 109] : List Int).getD j 0))) A s s.heap := str_of (bs := [105, 116, 101, 109]) (by decide) (hts _ (tm7 0 rfl)) (hg _ (gv_in 285 (by decide +kernel))) (hg _ (gv_in 286 (by decide +kernel))) (hg _ (gv_in 287 (by decide +kernel))) (hg _ (gv_in 288 (by decide +kernel))) (fun j hj => match j, hj with | 0, _ => hg _ (gv_in 289 (by decide +kernel)) | 1, _ => hg _ (gv_in 290 (by decide +kernel)) | 2, _ => hg _ (gv_in 291 (by decide +kernel)) | 3, _ => hg _ (gv_in 292 (by decide +kernel)) | (j + 4), h => absurd h (by simp)) hA
theorem str_18 {args : Array Value} {s : State} {A : Nat → Prop} (hts : ∀ w ∈ lw_tbl, w.before args s = true) (hg : ∀ w ∈ gvL, w.before args s = true) (hA : ∀ a : Nat, a < s.heap.size → ¬ A a) : ∃ q : Nat × Nat, vk_R "FairDrawsModel" 322 "times" q.1 s ∧ va_O "java/lang/String" q.1 A s s.heap ∧ va_OF "java/lang/String" "coder" "B" (.int 0) q.1 A s s.heap ∧ va_OF "java/lang/String" "value" "[B" (.ref q.2) q.1 A s s.heap ∧ va_T .byte q.2 ([116, 105, 109, 101, 115] : List Int).length (fun j => .int (Int32.ofInt (([116, 105, 109, 101, 115] : List Int).getD j 0))) A s s.heap := str_of (bs := [116, 105, 109, 101, 115]) (by decide) (hts _ (tm7 9 rfl)) (hg _ (gv_in 310 (by decide +kernel))) (hg _ (gv_in 311 (by decide +kernel))) (hg _ (gv_in 312 (by decide +kernel))) (hg _ (gv_in 313 (by decide +kernel))) (fun j hj => match j, hj with | 0, _ => hg _ (gv_in 314 (by decide +kernel)) | 1, _ => hg _ (gv_in 315 (by decide +kernel)) | 2, _ => hg _ (gv_in 316 (by decide +kernel)) | 3, _ => hg _ (gv_in 317 (by decide +kernel)) | 4, _ => hg _ (gv_in 318 (by decide +kernel)) | (j + 5), h => absurd h (by simp)) hA
theorem strs {args : Array Value} {s : State} {A : Nat → Prop} (hts : ∀ w ∈ lw_tbl, w.before args s = true) (hg : ∀ w ∈ gvL, w.before args s = true) (hA : ∀ a : Nat, a < s.heap.size → ¬ A a) : ∀ i : Nat, ∃ p : Nat × Nat, ∀ q : String × Nat × String × List Int, xStr[i]? = some q → vk_R q.1 q.2.1 q.2.2.1 p.1 s ∧ va_O "java/lang/String" p.1 A s s.heap ∧ va_OF "java/lang/String" "coder" "B" (.int 0) p.1 A s s.heap ∧ va_OF "java/lang/String" "value" "[B" (.ref p.2) p.1 A s s.heap ∧ va_T .byte p.2 q.2.2.2.length (fun j => .int (Int32.ofInt (q.2.2.2.getD j 0))) A s s.heap := by
  intro i
  match i with
  | 0 =>
    obtain ⟨p, hp⟩ := str_0 hts hg hA
    exact ⟨p, fun q hq => by cases hq; exact hp⟩
  | 1 =>
    obtain ⟨p, hp⟩ := str_1 hts hg hA
    exact ⟨p, fun q hq => by cases hq; exact hp⟩
  | 2 =>
    obtain ⟨p, hp⟩ := str_2 hts hg hA
    exact ⟨p, fun q hq => by cases hq; exact hp⟩
  | 3 =>
    obtain ⟨p, hp⟩ := str_3 hts hg hA
    exact ⟨p, fun q hq => by cases hq; exact hp⟩
  | 4 =>
    obtain ⟨p, hp⟩ := str_4 hts hg hA
    exact ⟨p, fun q hq => by cases hq; exact hp⟩
  | 5 =>
    obtain ⟨p, hp⟩ := str_5 hts hg hA
    exact ⟨p, fun q hq => by cases hq; exact hp⟩
  | 6 =>
    obtain ⟨p, hp⟩ := str_6 hts hg hA
    exact ⟨p, fun q hq => by cases hq; exact hp⟩
  | 7 =>
    obtain ⟨p, hp⟩ := str_7 hts hg hA
    exact ⟨p, fun q hq => by cases hq; exact hp⟩
  | 8 =>
    obtain ⟨p, hp⟩ := str_8 hts hg hA
    exact ⟨p, fun q hq => by cases hq; exact hp⟩
  | 9 =>
    obtain ⟨p, hp⟩ := str_9 hts hg hA
    exact ⟨p, fun q hq => by cases hq; exact hp⟩
  | 10 =>
    obtain ⟨p, hp⟩ := str_10 hts hg hA
    exact ⟨p, fun q hq => by cases hq; exact hp⟩
  | 11 =>
    obtain ⟨p, hp⟩ := str_11 hts hg hA
    exact ⟨p, fun q hq => by cases hq; exact hp⟩
  | 12 =>
    obtain ⟨p, hp⟩ := str_12 hts hg hA
    exact ⟨p, fun q hq => by cases hq; exact hp⟩
  | 13 =>
    obtain ⟨p, hp⟩ := str_13 hts hg hA
    exact ⟨p, fun q hq => by cases hq; exact hp⟩
  | 14 =>
    obtain ⟨p, hp⟩ := str_14 hts hg hA
    exact ⟨p, fun q hq => by cases hq; exact hp⟩
  | 15 =>
    obtain ⟨p, hp⟩ := str_15 hts hg hA
    exact ⟨p, fun q hq => by cases hq; exact hp⟩
  | 16 =>
    obtain ⟨p, hp⟩ := str_16 hts hg hA
    exact ⟨p, fun q hq => by cases hq; exact hp⟩
  | 17 =>
    obtain ⟨p, hp⟩ := str_17 hts hg hA
    exact ⟨p, fun q hq => by cases hq; exact hp⟩
  | 18 =>
    obtain ⟨p, hp⟩ := str_18 hts hg hA
    exact ⟨p, fun q hq => by cases hq; exact hp⟩
  | (i + 19) => exact ⟨(0, 0), fun q hq => by simp [xStr] at hq⟩
set_option maxRecDepth 100000 in
theorem nest_f : ∀ q ∈ xnF, (Cond.fieldLinkNest q.1 q.2.1 q.2.2.1 q.2.2.2.1 q.2.2.2.2 "FairDraws") ∈ lw_tbl := List.forall_mem_cons.mpr ⟨tm1 50 rfl, List.forall_mem_cons.mpr ⟨tm1 51 rfl, List.forall_mem_cons.mpr ⟨tm1 52 rfl, List.forall_mem_cons.mpr ⟨tm1 54 rfl, List.forall_mem_cons.mpr ⟨tm1 55 rfl, List.forall_mem_cons.mpr ⟨tm1 56 rfl, List.forall_mem_cons.mpr ⟨tm1 58 rfl, List.forall_mem_cons.mpr ⟨tm1 59 rfl, List.forall_mem_cons.mpr ⟨tm1 61 rfl, List.forall_mem_cons.mpr ⟨tm1 62 rfl, List.forall_mem_cons.mpr ⟨tm1 64 rfl, List.forall_mem_cons.mpr ⟨tm1 65 rfl, List.forall_mem_cons.mpr ⟨tm1 67 rfl, List.forall_mem_cons.mpr ⟨tm1 68 rfl, List.forall_mem_cons.mpr ⟨tm1 70 rfl, List.forall_mem_cons.mpr ⟨tm1 72 rfl, List.forall_mem_cons.mpr ⟨tm1 73 rfl, List.forall_mem_cons.mpr ⟨tm1 74 rfl, List.forall_mem_cons.mpr ⟨tm1 75 rfl, List.forall_mem_cons.mpr ⟨tm1 77 rfl, List.forall_mem_cons.mpr ⟨tm1 78 rfl, List.forall_mem_cons.mpr ⟨tm1 79 rfl, List.forall_mem_cons.mpr ⟨tm1 81 rfl, List.forall_mem_cons.mpr ⟨tm1 82 rfl, List.forall_mem_cons.mpr ⟨tm1 83 rfl, List.forall_mem_cons.mpr ⟨tm1 84 rfl, List.forall_mem_cons.mpr ⟨tm1 86 rfl, List.forall_mem_cons.mpr ⟨tm1 87 rfl, List.forall_mem_cons.mpr ⟨tm1 88 rfl, List.forall_mem_cons.mpr ⟨tm1 89 rfl, List.forall_mem_cons.mpr ⟨tm1 91 rfl, List.forall_mem_cons.mpr ⟨tm1 92 rfl, List.forall_mem_cons.mpr ⟨tm1 93 rfl, List.forall_mem_cons.mpr ⟨tm1 135 rfl, List.forall_mem_cons.mpr ⟨tm1 153 rfl, List.forall_mem_cons.mpr ⟨tm1 155 rfl, List.forall_mem_cons.mpr ⟨tm1 176 rfl, List.forall_mem_cons.mpr ⟨tm1 178 rfl, List.forall_mem_cons.mpr ⟨tm1 180 rfl, List.forall_mem_cons.mpr ⟨tm1 182 rfl, List.forall_mem_cons.mpr ⟨tm1 184 rfl, List.forall_mem_cons.mpr ⟨tm1 186 rfl, List.forall_mem_cons.mpr ⟨tm1 188 rfl, List.forall_mem_cons.mpr ⟨tm1 190 rfl, List.forall_mem_cons.mpr ⟨tm1 192 rfl, fun _ h => absurd h List.not_mem_nil⟩⟩⟩⟩⟩⟩⟩⟩⟩⟩⟩⟩⟩⟩⟩⟩⟩⟩⟩⟩⟩⟩⟩⟩⟩⟩⟩⟩⟩⟩⟩⟩⟩⟩⟩⟩⟩⟩⟩⟩⟩⟩⟩⟩⟩
theorem nest_m : ∀ q ∈ xnM, (Cond.methodLinkNest q.1 q.2.1 q.2.2 "FairDraws") ∈ lw_tbl := List.forall_mem_cons.mpr ⟨tm1 32 rfl, List.forall_mem_cons.mpr ⟨tm1 145 rfl, List.forall_mem_cons.mpr ⟨tm1 171 rfl, List.forall_mem_cons.mpr ⟨tm1 214 rfl, List.forall_mem_cons.mpr ⟨tm2 64 rfl, List.forall_mem_cons.mpr ⟨tm2 150 rfl, List.forall_mem_cons.mpr ⟨tm2 157 rfl, List.forall_mem_cons.mpr ⟨tm3 31 rfl, fun _ h => absurd h List.not_mem_nil⟩⟩⟩⟩⟩⟩⟩⟩
theorem known_of {args : Array Value} {s : State} (hw : ∀ w ∈ WS, w.before args s = true) {ci N : Nat} {C : String} (h : xCd ci C N) : ∃ p : ClassId × (Nat → Nat), ∀ q : vw_C, vwCl[ci]? = some q → u_Kn s q.1 q.2.1 q.2.2 p.1 p.2 := by
  obtain ⟨Tf, ty0, hc, hin, -, -, -, w2, -⟩ := h
  obtain ⟨cC, iS, hk⟩ := u_known (T := Tf) (N := N) hw hin (hw _ w2)
  exact ⟨(cC, iS), fun q hq => by rw [hc] at hq; cases hq; exact hk⟩
theorem known_all {args : Array Value} {s : State} (hw : ∀ w ∈ WS, w.before args s = true) : ∀ k : Nat, ∃ p : ClassId × (Nat → Nat), ∀ q : vw_C, vwCl[k]? = some q → u_Kn s q.1 q.2.1 q.2.2 p.1 p.2 := by
  intro k
  match k with
  | 0 => exact known_of hw xcd0
  | 1 => exact known_of hw xcd1
  | 2 => exact known_of hw xcd2
  | 3 => exact known_of hw xcd3
  | 4 => exact known_of hw xcd4
  | 5 => exact known_of hw xcd5
  | 6 => exact known_of hw xcd6
  | 7 => exact known_of hw xcd7
  | (k + 8) =>
    obtain ⟨p, -⟩ := known_of hw xcd0
    exact ⟨p, fun q hq => by
      have h8 : vwCl[k + 8]? = none := rfl
      rw [h8] at hq
      cases hq⟩
theorem arr_of {args : Array Value} {s : State} {ty : FieldType} (hr : ∀ C, ty ≠ .object C) (h : (Cond.arrayClass ty).before args s = true) : ∃ c : ClassId, ArrOfT s c ty ∧ va_RA s c ty := by
  obtain ⟨c, k, comp, h1, h2, h3⟩ := Cond.arrayClass_spec h
  refine ⟨c, fun n z => ⟨fun k h => (by cases h), k, h2, comp, h3⟩, ?_⟩
  cases ty with
  | object C => exact absurd rfl (hr C)
  | _ => exact h1
theorem arr_ofR {s : State} {C : String} (h : va_AO C s) : ∃ c : ClassId, ArrOfT s c (.object C) ∧ va_RA s c (.object C) := by
  obtain ⟨comp, c, k, h1, h2, h3, h4, h5⟩ := Cond.arrayOver_spec h
  exact ⟨c, fun n z => ⟨fun k h => (by cases h), k, h3, comp, h4⟩, k, comp, h3, h4, h1, h5⟩
set_option maxHeartbeats 4000000 in
/-- what the machine's tables and the old cells say at the law's entry -/
theorem start_E {b : Nat} {s : State} (hts : ∀ w ∈ lw_tbl, w.before #[Value.ref b] s = true) (hg : ∀ w ∈ gvL, w.before #[Value.ref b] s = true) : ∃ D : xD, D.2.2.1 = s.heap.size ∧ D.1 3000000 = b ∧ xE D s := by
  have hw : ∀ w ∈ WS, w.before #[Value.ref b] s = true := fun w h => hts w (ws_in w h)
  have hA : ∀ a : Nat, a < s.heap.size → ¬ xA s.heap.size a := fun a h => Nat.not_le.mpr h
  obtain ⟨kn, hkn⟩ := Classical.axiomOfChoice (known_all hw)
  obtain ⟨ad, had⟩ := Classical.axiomOfChoice (strs hts hg hA)
  have hao : va_AO "FairDraws$State" s := va_AO.of (hts _ (tm1 130 rfl))
  obtain ⟨c8, h8⟩ := arr_of (ty := .byte) (fun C h => by cases h) (hts _ (tm2 213 rfl))
  obtain ⟨c9, h9⟩ := arr_of (ty := .int) (fun C h => by cases h) (hts _ (tm1 121 rfl))
  obtain ⟨c10, h10⟩ := arr_of (ty := .long) (fun C h => by cases h) (hts _ (tm1 43 rfl))
  obtain ⟨c11, h11⟩ := arr_of (ty := .boolean) (fun C h => by cases h) (hts _ (tm1 122 rfl))
  obtain ⟨c12, h12⟩ := arr_ofR hao
  refine ⟨(fun k => if k < 1000000 then s.heap.size + k else if k < 2000000 then (ad (k - 1000000)).1 else if k < 3000000 then (ad (k - 2000000)).2 else b, fun k => if k = 8 then c8 else if k = 9 then c9 else if k = 10 then c10 else if k = 11 then c11 else c12, s.heap.size, (fun k => (kn k).1, fun k => (kn k).2)), rfl, rfl, fun k hk => if_pos hk, ⟨fun k q hq => hkn k q hq, fun k q hq => ?_⟩, fun q hq => va_Nw.of rfl (hts _ (nest_f q hq)), fun q hq => va_Nw.of rfl (hts _ (nest_m q hq)), hao, fun i q hq => ?_, ?_, ?_⟩
  · match k, hq with
    | 0, hq => cases hq; exact h8
    | 1, hq => cases hq; exact h9
    | 2, hq => cases hq; exact h10
    | 3, hq => cases hq; exact h11
    | 4, hq => cases hq; exact h12
    | (k + 5), hq => exact absurd hq (by simp [xty])
  · have hi : i < 19 := (List.getElem?_eq_some_iff.mp hq).1
    have e1 : (if 1000000 + i < 1000000 then s.heap.size + (1000000 + i) else if 1000000 + i < 2000000 then (ad (1000000 + i - 1000000)).1 else if 1000000 + i < 3000000 then (ad (1000000 + i - 2000000)).2 else b) = (ad i).1 := by
      rw [if_neg (by omega), if_pos (by omega), Nat.add_sub_cancel_left]
    have e2 : (if 2000000 + i < 1000000 then s.heap.size + (2000000 + i) else if 2000000 + i < 2000000 then (ad (2000000 + i - 1000000)).1 else if 2000000 + i < 3000000 then (ad (2000000 + i - 2000000)).2 else b) = (ad i).2 := by
      rw [if_neg (by omega), if_neg (by omega), if_pos (by omega), Nat.add_sub_cancel_left]
    dsimp only
    rw [e1, e2]
    exact had i q hq
  · exact va_Zof (hts _ (tm2 59 rfl)) (hts _ (tm1 9 rfl)) (va_eqi (hg _ (gv_in 4 (by decide +kernel)))) hA
  · exact va_Zqof (hts _ (tm2 80 rfl)) (hts _ (tm1 11 rfl)) (hg _ (gv_in 5 (by decide +kernel))) hA
set_option maxHeartbeats 4000000 in
/-- from the entry the law comes to its end with true -/
theorem whole_start {p : Program} {e : Env} {s : State} {m : MethodId} {below : List Frame} {meth : Method} {c : Code} (l : Launch) (hflags : l.flags = flags0) {b L : Nat} {xs : Nat → Int32} (hL : L ≤ 3072) (C0 : lw_At p s m meth c b L xs) : W p l e room_1 s m #[Value.ref b] below meth c s.heap [] 0 0 (lw_Z below #[Value.ref b] s) (entryFrame m ([Value.ref b] : List Value).toArray 4) := by
  obtain ⟨hx, hb, hr, hml, hown, hts, hX, hbl, hlocks, hgv⟩ := id C0
  obtain ⟨D, hD3, hDb, hE⟩ := start_E hts (flat_of_before _ hgv)
  have G : xGL (D, p, l, e, room_1, s, m, #[Value.ref b], below, meth, c, lw_Z below #[Value.ref b] s) := ⟨hx, hb, hml, hown, fun w hw => hts w (ws_in w hw), hE, by rw [hD3]; exact Nat.le_refl _, rfl⟩
  have hS : xScr (D, p, l, e, room_1, s, m, #[Value.ref b], below, meth, c, lw_Z below #[Value.ref b] s) L (fun j => (xs j).toInt) := by
    have e1 : (fun j => Int32.ofInt ((xs j).toInt)) = xs := by funext j; exact Int32.ofInt_toInt _
    refine ⟨?_, by rw [hDb, hD3]; exact hbl, by rw [hD3]; exact Nat.le_refl _, fun j => ⟨Int32.le_toInt _, Int32.toInt_lt _⟩, hL⟩
    show va_X (D.1 3000000) L (fun j => Int32.ofInt ((xs j).toInt)) s s.heap
    rw [e1, hDb]
    exact hX
  have hEnd : ∀ (n : Nat) (T : xT) (L : List (Nat × xV)) (M : xM), xX (D, p, l, e, room_1, s, m, #[Value.ref b], below, meth, c, lw_Z below #[Value.ref b] s) 600000 7302250 n T 2089 L [xI 1] M := by
    intro n T L M ls H locs hl hLk hsk hH
    refine va_forget (fun q hq => by rw [← hD3]; exact hH.2.2.1.2.2 q hq) ?_
    exact lw_ret hx hb hr hlocks dL_law_2089
  have K := law_body G hS hEnd
  have hl := lv_entry ([.ref b]) (n := 4) (Nat.le_of_ble_eq_true rfl)
  rw [lg_entry_eq]
  have hl2 : ∀ ls, lv_has ls 4 (lv_args 0 [Value.ref b]) → lv_has ls c.maxLocals ([((0 : Nat), xR 3000000)].map fun q => (q.1, xc D.1 q.2)) := by
    intro ls h
    rw [hml]
    show lv_has ls 4 [(0, Value.ref (D.1 3000000))]
    rw [hDb]
    exact h
  exact K _ s.heap [] (hl2 _ hl) (fun q hq => by rcases List.mem_singleton.mp hq with rfl; exact True.intro) (fun v hv => absurd hv List.not_mem_nil) ⟨fun k q h => by simp [xw] at h, ⟨fun i j p q h => by simp [xw] at h, fun k q h => by simp [xw] at h⟩, va_S.rf, fun k j => ⟨fun _ => (by decide : i64 0), fun _ => (by decide : i32 0)⟩, by rw [hD3]; rfl⟩
