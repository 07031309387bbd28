/-! THE LAW: a row for each place (wip/whole/gen/law.py) -/
theorem Wp.iald0 {d y pc k : Nat} {ls : jL} {st : List Value} {I : fI} {L : fL} {Q : Option Value × jW → Prop} {g : List Int32} (hd : decode (j_co y) pc = .ok (.iaload, 1)) (hk : k < g.length) (h31 : k < 2147483648) : Wp d y pc ls (.int (nI k) :: .ref 0 :: st) (f_W (g.map Value.int) I L) Q = Wp d y (pc + 1) ls (.int (g.getD k 0) :: st) (f_W (g.map Value.int) I L) Q := by
  refine Wp.hp (i := .iaload) hd rfl rfl rfl rfl ?_
  have hw : (f_W (g.map Value.int) I L)[0]? = some (107, g.map Value.int) := rfl
  have hc : (nI k).toNatClampNeg = k := nI_clamp h31
  have hv : (g.map Value.int)[k]? = some (.int (g.getD k 0)) := by simp [hk]
  unfold j_hp
  simp only [hw]
  have h8 : (107 = 100 ∨ (True ∧ True)) ∧ ¬ (nI k < 0 ∨ (g.map Value.int).length ≤ (nI k).toNatClampNeg) := by
    refine ⟨Or.inr ⟨trivial, trivial⟩, ?_⟩
    rw [hc, List.length_map]
    intro r
    rcases r with r | r
    · exact nI_pos h31 r
    · omega
  rw [if_pos h8, hc]
  simp only [hv]
theorem Wp.alen0 {d y pc : Nat} {ls : jL} {st : List Value} {I : fI} {L : fL} {Q : Option Value × jW → Prop} {g : List Int32} (hd : decode (j_co y) pc = .ok (.arraylength, 1)) : Wp d y pc ls (.ref 0 :: st) (f_W (g.map Value.int) I L) Q = Wp d y (pc + 1) ls (.int (nI g.length) :: st) (f_W (g.map Value.int) I L) Q := by
  refine Wp.hp (i := .arraylength) hd rfl rfl rfl rfl ?_
  have hw : (f_W (g.map Value.int) I L)[0]? = some (107, g.map Value.int) := rfl
  unfold j_hp
  simp only [hw]
  have h8 : 100 ≤ 107 ∧ (107 ≤ 106 ∨ (True ∧ True)) := by decide
  rw [if_pos h8, List.length_map]
  rfl
theorem e173_0 : decode (j_co 173) 0 = .ok (.new 7, 3) := by decide +kernel
theorem e173_3 : decode (j_co 173) 3 = .ok (.dup, 1) := by decide +kernel
set_option maxRecDepth 20000 in
theorem w173_3 {d : Nat} {st : List Value} {Q : Option Value × jW → Prop} {ls : jL} {w : jW} {a : Int32} : Wp d 173 3 ls (.int a :: st) w Q = Wp d 173 4 ls (.int a :: .int a :: st) w Q := Wp.alu e173_3 rfl rfl
set_option maxRecDepth 20000 in
theorem w173_3r {d : Nat} {st : List Value} {Q : Option Value × jW → Prop} {ls : jL} {w : jW} {a : Nat} : Wp d 173 3 ls (.ref a :: st) w Q = Wp d 173 4 ls (.ref a :: .ref a :: st) w Q := Wp.alu e173_3 rfl rfl
theorem e173_4 : decode (j_co 173) 4 = .ok (.invokespecial 9, 3) := by decide +kernel
theorem e173_7 : decode (j_co 173) 7 = .ok (.astore_n 1, 1) := by decide +kernel
set_option maxRecDepth 20000 in
theorem w173_7 {d : Nat} {st : List Value} {Q : Option Value × jW → Prop} {w : jW} {a0 a1 a2 a3 : Option Value} {x : Nat} (h : j_cp a0) : Wp d 173 7 [a0, a1, a2, a3] (.ref x :: st) w Q = Wp d 173 8 [a0, some (.ref x), a2, a3] (st) w Q := Wp.loc e173_7 rfl rfl (v_stA (ls := [a0, a1, a2, a3]) (k := 1) (show 1 < 4 by decide) h)
theorem e173_8 : decode (j_co 173) 8 = .ok (.new 10, 3) := by decide +kernel
theorem e173_11 : decode (j_co 173) 11 = .ok (.dup, 1) := by decide +kernel
set_option maxRecDepth 20000 in
theorem w173_11 {d : Nat} {st : List Value} {Q : Option Value × jW → Prop} {ls : jL} {w : jW} {a : Int32} : Wp d 173 11 ls (.int a :: st) w Q = Wp d 173 12 ls (.int a :: .int a :: st) w Q := Wp.alu e173_11 rfl rfl
set_option maxRecDepth 20000 in
theorem w173_11r {d : Nat} {st : List Value} {Q : Option Value × jW → Prop} {ls : jL} {w : jW} {a : Nat} : Wp d 173 11 ls (.ref a :: st) w Q = Wp d 173 12 ls (.ref a :: .ref a :: st) w Q := Wp.alu e173_11 rfl rfl
theorem e173_12 : decode (j_co 173) 12 = .ok (.invokespecial 12, 3) := by decide +kernel
theorem e173_15 : decode (j_co 173) 15 = .ok (.astore_n 2, 1) := by decide +kernel
set_option maxRecDepth 20000 in
theorem w173_15 {d : Nat} {st : List Value} {Q : Option Value × jW → Prop} {w : jW} {a0 a1 a2 a3 : Option Value} {x : Nat} (h : j_cp a1) : Wp d 173 15 [a0, a1, a2, a3] (.ref x :: st) w Q = Wp d 173 16 [a0, a1, some (.ref x), a3] (st) w Q := Wp.loc e173_15 rfl rfl (v_stA (ls := [a0, a1, a2, a3]) (k := 2) (show 2 < 4 by decide) h)
theorem e173_16 : decode (j_co 173) 16 = .ok (.iconst 0, 1) := by decide +kernel
set_option maxRecDepth 20000 in
theorem w173_16 {d : Nat} {st : List Value} {Q : Option Value × jW → Prop} {ls : jL} {w : jW} : Wp d 173 16 ls (st) w Q = Wp d 173 17 ls (.int (nI 0) :: st) w Q := Wp.alu e173_16 rfl rfl
theorem e173_17 : decode (j_co 173) 17 = .ok (.istore_n 3, 1) := by decide +kernel
set_option maxRecDepth 20000 in
theorem w173_17 {d : Nat} {st : List Value} {Q : Option Value × jW → Prop} {w : jW} {a0 a1 a2 a3 : Option Value} {x : Int32} (h : j_cp a2) : Wp d 173 17 [a0, a1, a2, a3] (.int x :: st) w Q = Wp d 173 18 [a0, a1, a2, some (.int x)] (st) w Q := Wp.loc e173_17 rfl rfl (v_stI (ls := [a0, a1, a2, a3]) (k := 3) (show 3 < 4 by decide) h)
theorem e173_18 : decode (j_co 173) 18 = .ok (.iload_n 3, 1) := by decide +kernel
set_option maxRecDepth 20000 in
theorem w173_18 {d : Nat} {st : List Value} {Q : Option Value × jW → Prop} {w : jW} {a0 a1 a2 : Option Value} {x : Int32} : Wp d 173 18 [a0, a1, a2, some (.int x)] (st) w Q = Wp d 173 19 [a0, a1, a2, some (.int x)] (.int x :: st) w Q := Wp.loc e173_18 rfl rfl rfl
theorem e173_19 : decode (j_co 173) 19 = .ok (.aload_n 0, 1) := by decide +kernel
set_option maxRecDepth 20000 in
theorem w173_19 {d : Nat} {st : List Value} {Q : Option Value × jW → Prop} {w : jW} {a1 a2 a3 : Option Value} {x : Nat} : Wp d 173 19 [some (.ref x), a1, a2, a3] (st) w Q = Wp d 173 20 [some (.ref x), a1, a2, a3] (.ref x :: st) w Q := Wp.loc e173_19 rfl rfl rfl
theorem e173_20 : decode (j_co 173) 20 = .ok (.arraylength, 1) := by decide +kernel
theorem w173_20 {d : Nat} {ls : jL} {st : List Value} {I : fI} {L : fL} {Q : Option Value × jW → Prop} {g : List Int32} : Wp d 173 20 ls (.ref 0 :: st) (f_W (g.map Value.int) I L) Q = Wp d 173 21 ls (.int (nI g.length) :: st) (f_W (g.map Value.int) I L) Q := Wp.alen0 e173_20
theorem e173_21 : decode (j_co 173) 21 = .ok (.bipush 6, 2) := by decide +kernel
set_option maxRecDepth 20000 in
theorem w173_21 {d : Nat} {st : List Value} {Q : Option Value × jW → Prop} {ls : jL} {w : jW} : Wp d 173 21 ls (st) w Q = Wp d 173 23 ls (.int (nI 6) :: st) w Q := Wp.alu e173_21 rfl rfl
theorem e173_23 : decode (j_co 173) 23 = .ok (.isub, 1) := by decide +kernel
set_option maxRecDepth 20000 in
theorem w173_23 {d : Nat} {st : List Value} {Q : Option Value × jW → Prop} {ls : jL} {w : jW} {a b : Int32} : Wp d 173 23 ls (.int b :: .int a :: st) w Q = Wp d 173 24 ls (.int (a - b) :: st) w Q := Wp.alu e173_23 rfl rfl
theorem e173_24 : decode (j_co 173) 24 = .ok (.if_icmp .gt 1188, 3) := by decide +kernel
set_option maxRecDepth 20000 in
theorem w173_24 {d : Nat} {st : List Value} {Q : Option Value × jW → Prop} {ls : jL} {w : jW} {a b : Int32} : Wp d 173 24 ls (.int b :: .int a :: st) w Q = ((b < a → Wp d 173 1212 ls st w Q) ∧ (¬ b < a → Wp d 173 27 ls st w Q)) := Wp.if2 (c := b < a) (off := 1188) e173_24 rfl rfl rfl rfl rfl
theorem e173_27 : decode (j_co 173) 27 = .ok (.aload_n 0, 1) := by decide +kernel
set_option maxRecDepth 20000 in
theorem w173_27 {d : Nat} {st : List Value} {Q : Option Value × jW → Prop} {w : jW} {a1 a2 a3 : Option Value} {x : Nat} : Wp d 173 27 [some (.ref x), a1, a2, a3] (st) w Q = Wp d 173 28 [some (.ref x), a1, a2, a3] (.ref x :: st) w Q := Wp.loc e173_27 rfl rfl rfl
theorem e173_28 : decode (j_co 173) 28 = .ok (.iload_n 3, 1) := by decide +kernel
set_option maxRecDepth 20000 in
theorem w173_28 {d : Nat} {st : List Value} {Q : Option Value × jW → Prop} {w : jW} {a0 a1 a2 : Option Value} {x : Int32} : Wp d 173 28 [a0, a1, a2, some (.int x)] (st) w Q = Wp d 173 29 [a0, a1, a2, some (.int x)] (.int x :: st) w Q := Wp.loc e173_28 rfl rfl rfl
theorem e173_29 : decode (j_co 173) 29 = .ok (.iaload, 1) := by decide +kernel
theorem w173_29 {d k : Nat} {ls : jL} {st : List Value} {I : fI} {L : fL} {Q : Option Value × jW → Prop} {g : List Int32} (hk : k < g.length) (h31 : k < 2147483648) : Wp d 173 29 ls (.int (nI k) :: .ref 0 :: st) (f_W (g.map Value.int) I L) Q = Wp d 173 30 ls (.int (g.getD k 0) :: st) (f_W (g.map Value.int) I L) Q := Wp.iald0 e173_29 hk h31
theorem e173_30 : decode (j_co 173) 30 = .ok (.bipush 31, 2) := by decide +kernel
set_option maxRecDepth 20000 in
theorem w173_30 {d : Nat} {st : List Value} {Q : Option Value × jW → Prop} {ls : jL} {w : jW} : Wp d 173 30 ls (st) w Q = Wp d 173 32 ls (.int (nI 31) :: st) w Q := Wp.alu e173_30 rfl rfl
theorem e173_32 : decode (j_co 173) 32 = .ok (.iand, 1) := by decide +kernel
set_option maxRecDepth 20000 in
theorem w173_32 {d : Nat} {st : List Value} {Q : Option Value × jW → Prop} {ls : jL} {w : jW} {a b : Int32} : Wp d 173 32 ls (.int b :: .int a :: st) w Q = Wp d 173 33 ls (.int (a &&& b) :: st) w Q := Wp.alu e173_32 rfl rfl
theorem e173_33 : decode (j_co 173) 33 = .ok (.tableswitch 1173 0 27 #[127, 140, 193, 246, 279, 332, 411, 434, 487, 510, 533, 546, 579, 638, 691, 714, 727, 760, 813, 826, 839, 882, 925, 978, 1001, 1044, 1087, 1150], 127) := by decide +kernel
theorem w173_33_0 {d : Nat} {ls : jL} {st : List Value} {w : jW} {Q : Option Value × jW → Prop} : Wp d 173 33 ls (.int (nI 0) :: st) w Q = Wp d 173 160 ls st w Q := Wp.tsI e173_33 (by decide +kernel) (off := 127) (by decide +kernel) (by decide +kernel)
theorem w173_33_1 {d : Nat} {ls : jL} {st : List Value} {w : jW} {Q : Option Value × jW → Prop} : Wp d 173 33 ls (.int (nI 1) :: st) w Q = Wp d 173 173 ls st w Q := Wp.tsI e173_33 (by decide +kernel) (off := 140) (by decide +kernel) (by decide +kernel)
theorem w173_33_2 {d : Nat} {ls : jL} {st : List Value} {w : jW} {Q : Option Value × jW → Prop} : Wp d 173 33 ls (.int (nI 2) :: st) w Q = Wp d 173 226 ls st w Q := Wp.tsI e173_33 (by decide +kernel) (off := 193) (by decide +kernel) (by decide +kernel)
theorem w173_33_3 {d : Nat} {ls : jL} {st : List Value} {w : jW} {Q : Option Value × jW → Prop} : Wp d 173 33 ls (.int (nI 3) :: st) w Q = Wp d 173 279 ls st w Q := Wp.tsI e173_33 (by decide +kernel) (off := 246) (by decide +kernel) (by decide +kernel)
theorem w173_33_4 {d : Nat} {ls : jL} {st : List Value} {w : jW} {Q : Option Value × jW → Prop} : Wp d 173 33 ls (.int (nI 4) :: st) w Q = Wp d 173 312 ls st w Q := Wp.tsI e173_33 (by decide +kernel) (off := 279) (by decide +kernel) (by decide +kernel)
theorem w173_33_5 {d : Nat} {ls : jL} {st : List Value} {w : jW} {Q : Option Value × jW → Prop} : Wp d 173 33 ls (.int (nI 5) :: st) w Q = Wp d 173 365 ls st w Q := Wp.tsI e173_33 (by decide +kernel) (off := 332) (by decide +kernel) (by decide +kernel)
theorem w173_33_6 {d : Nat} {ls : jL} {st : List Value} {w : jW} {Q : Option Value × jW → Prop} : Wp d 173 33 ls (.int (nI 6) :: st) w Q = Wp d 173 444 ls st w Q := Wp.tsI e173_33 (by decide +kernel) (off := 411) (by decide +kernel) (by decide +kernel)
theorem w173_33_7 {d : Nat} {ls : jL} {st : List Value} {w : jW} {Q : Option Value × jW → Prop} : Wp d 173 33 ls (.int (nI 7) :: st) w Q = Wp d 173 467 ls st w Q := Wp.tsI e173_33 (by decide +kernel) (off := 434) (by decide +kernel) (by decide +kernel)
theorem w173_33_8 {d : Nat} {ls : jL} {st : List Value} {w : jW} {Q : Option Value × jW → Prop} : Wp d 173 33 ls (.int (nI 8) :: st) w Q = Wp d 173 520 ls st w Q := Wp.tsI e173_33 (by decide +kernel) (off := 487) (by decide +kernel) (by decide +kernel)
theorem w173_33_9 {d : Nat} {ls : jL} {st : List Value} {w : jW} {Q : Option Value × jW → Prop} : Wp d 173 33 ls (.int (nI 9) :: st) w Q = Wp d 173 543 ls st w Q := Wp.tsI e173_33 (by decide +kernel) (off := 510) (by decide +kernel) (by decide +kernel)
theorem w173_33_10 {d : Nat} {ls : jL} {st : List Value} {w : jW} {Q : Option Value × jW → Prop} : Wp d 173 33 ls (.int (nI 10) :: st) w Q = Wp d 173 566 ls st w Q := Wp.tsI e173_33 (by decide +kernel) (off := 533) (by decide +kernel) (by decide +kernel)
theorem w173_33_11 {d : Nat} {ls : jL} {st : List Value} {w : jW} {Q : Option Value × jW → Prop} : Wp d 173 33 ls (.int (nI 11) :: st) w Q = Wp d 173 579 ls st w Q := Wp.tsI e173_33 (by decide +kernel) (off := 546) (by decide +kernel) (by decide +kernel)
theorem w173_33_12 {d : Nat} {ls : jL} {st : List Value} {w : jW} {Q : Option Value × jW → Prop} : Wp d 173 33 ls (.int (nI 12) :: st) w Q = Wp d 173 612 ls st w Q := Wp.tsI e173_33 (by decide +kernel) (off := 579) (by decide +kernel) (by decide +kernel)
theorem w173_33_13 {d : Nat} {ls : jL} {st : List Value} {w : jW} {Q : Option Value × jW → Prop} : Wp d 173 33 ls (.int (nI 13) :: st) w Q = Wp d 173 671 ls st w Q := Wp.tsI e173_33 (by decide +kernel) (off := 638) (by decide +kernel) (by decide +kernel)
theorem w173_33_14 {d : Nat} {ls : jL} {st : List Value} {w : jW} {Q : Option Value × jW → Prop} : Wp d 173 33 ls (.int (nI 14) :: st) w Q = Wp d 173 724 ls st w Q := Wp.tsI e173_33 (by decide +kernel) (off := 691) (by decide +kernel) (by decide +kernel)
theorem w173_33_15 {d : Nat} {ls : jL} {st : List Value} {w : jW} {Q : Option Value × jW → Prop} : Wp d 173 33 ls (.int (nI 15) :: st) w Q = Wp d 173 747 ls st w Q := Wp.tsI e173_33 (by decide +kernel) (off := 714) (by decide +kernel) (by decide +kernel)
theorem w173_33_16 {d : Nat} {ls : jL} {st : List Value} {w : jW} {Q : Option Value × jW → Prop} : Wp d 173 33 ls (.int (nI 16) :: st) w Q = Wp d 173 760 ls st w Q := Wp.tsI e173_33 (by decide +kernel) (off := 727) (by decide +kernel) (by decide +kernel)
theorem w173_33_17 {d : Nat} {ls : jL} {st : List Value} {w : jW} {Q : Option Value × jW → Prop} : Wp d 173 33 ls (.int (nI 17) :: st) w Q = Wp d 173 793 ls st w Q := Wp.tsI e173_33 (by decide +kernel) (off := 760) (by decide +kernel) (by decide +kernel)
theorem w173_33_18 {d : Nat} {ls : jL} {st : List Value} {w : jW} {Q : Option Value × jW → Prop} : Wp d 173 33 ls (.int (nI 18) :: st) w Q = Wp d 173 846 ls st w Q := Wp.tsI e173_33 (by decide +kernel) (off := 813) (by decide +kernel) (by decide +kernel)
theorem w173_33_19 {d : Nat} {ls : jL} {st : List Value} {w : jW} {Q : Option Value × jW → Prop} : Wp d 173 33 ls (.int (nI 19) :: st) w Q = Wp d 173 859 ls st w Q := Wp.tsI e173_33 (by decide +kernel) (off := 826) (by decide +kernel) (by decide +kernel)
theorem w173_33_20 {d : Nat} {ls : jL} {st : List Value} {w : jW} {Q : Option Value × jW → Prop} : Wp d 173 33 ls (.int (nI 20) :: st) w Q = Wp d 173 872 ls st w Q := Wp.tsI e173_33 (by decide +kernel) (off := 839) (by decide +kernel) (by decide +kernel)
theorem w173_33_21 {d : Nat} {ls : jL} {st : List Value} {w : jW} {Q : Option Value × jW → Prop} : Wp d 173 33 ls (.int (nI 21) :: st) w Q = Wp d 173 915 ls st w Q := Wp.tsI e173_33 (by decide +kernel) (off := 882) (by decide +kernel) (by decide +kernel)
theorem w173_33_22 {d : Nat} {ls : jL} {st : List Value} {w : jW} {Q : Option Value × jW → Prop} : Wp d 173 33 ls (.int (nI 22) :: st) w Q = Wp d 173 958 ls st w Q := Wp.tsI e173_33 (by decide +kernel) (off := 925) (by decide +kernel) (by decide +kernel)
theorem w173_33_23 {d : Nat} {ls : jL} {st : List Value} {w : jW} {Q : Option Value × jW → Prop} : Wp d 173 33 ls (.int (nI 23) :: st) w Q = Wp d 173 1011 ls st w Q := Wp.tsI e173_33 (by decide +kernel) (off := 978) (by decide +kernel) (by decide +kernel)
theorem w173_33_24 {d : Nat} {ls : jL} {st : List Value} {w : jW} {Q : Option Value × jW → Prop} : Wp d 173 33 ls (.int (nI 24) :: st) w Q = Wp d 173 1034 ls st w Q := Wp.tsI e173_33 (by decide +kernel) (off := 1001) (by decide +kernel) (by decide +kernel)
theorem w173_33_25 {d : Nat} {ls : jL} {st : List Value} {w : jW} {Q : Option Value × jW → Prop} : Wp d 173 33 ls (.int (nI 25) :: st) w Q = Wp d 173 1077 ls st w Q := Wp.tsI e173_33 (by decide +kernel) (off := 1044) (by decide +kernel) (by decide +kernel)
theorem w173_33_26 {d : Nat} {ls : jL} {st : List Value} {w : jW} {Q : Option Value × jW → Prop} : Wp d 173 33 ls (.int (nI 26) :: st) w Q = Wp d 173 1120 ls st w Q := Wp.tsI e173_33 (by decide +kernel) (off := 1087) (by decide +kernel) (by decide +kernel)
theorem w173_33_27 {d : Nat} {ls : jL} {st : List Value} {w : jW} {Q : Option Value × jW → Prop} : Wp d 173 33 ls (.int (nI 27) :: st) w Q = Wp d 173 1183 ls st w Q := Wp.tsI e173_33 (by decide +kernel) (off := 1150) (by decide +kernel) (by decide +kernel)
theorem w173_33_d {d : Nat} {ls : jL} {st : List Value} {w : jW} {Q : Option Value × jW → Prop} {x : Int32} (h : x.toInt < 0 ∨ 27 < x.toInt) : Wp d 173 33 ls (.int x :: st) w Q = Wp d 173 1206 ls st w Q := Wp.tsD e173_33 h (by decide +kernel)
theorem e173_160 : decode (j_co 173) 160 = .ok (.aload_n 1, 1) := by decide +kernel
set_option maxRecDepth 20000 in
theorem w173_160 {d : Nat} {st : List Value} {Q : Option Value × jW → Prop} {w : jW} {a0 a2 a3 : Option Value} {x : Nat} : Wp d 173 160 [a0, some (.ref x), a2, a3] (st) w Q = Wp d 173 161 [a0, some (.ref x), a2, a3] (.ref x :: st) w Q := Wp.loc e173_160 rfl rfl rfl
theorem e173_161 : decode (j_co 173) 161 = .ok (.invokevirtual 13, 3) := by decide +kernel
set_option maxRecDepth 20000 in
theorem w173_161 {d : Nat} {st : List Value} {Q : Option Value × jW → Prop} {ls : jL} {xs : List Value} {I : fI} {L : fL} {r : Nat} (hs : j_sumc st ≤ 8) (ht : f_tg r = 10) : Wp (d + 1) 173 161 ls (.ref r :: st) (f_W xs I L) Q = Wp d 13 0 [some (.ref r)] [] (f_W xs I L) (fun r1 => Wp (d + 1) 173 164 ls (r1.1.toList ++ st) r1.2 Q) := Wp.cv (y' := 13) (as := []) e173_161 rfl (by decide) rfl (show 1 ≤ 1 by decide) (by decide) hs ht
theorem e173_164 : decode (j_co 173) 164 = .ok (.aload_n 2, 1) := by decide +kernel
set_option maxRecDepth 20000 in
theorem w173_164 {d : Nat} {st : List Value} {Q : Option Value × jW → Prop} {w : jW} {a0 a1 a3 : Option Value} {x : Nat} : Wp d 173 164 [a0, a1, some (.ref x), a3] (st) w Q = Wp d 173 165 [a0, a1, some (.ref x), a3] (.ref x :: st) w Q := Wp.loc e173_164 rfl rfl rfl
theorem e173_165 : decode (j_co 173) 165 = .ok (.invokevirtual 17, 3) := by decide +kernel
set_option maxRecDepth 20000 in
theorem w173_165 {d : Nat} {st : List Value} {Q : Option Value × jW → Prop} {ls : jL} {xs : List Value} {I : fI} {L : fL} {r : Nat} (hs : j_sumc st ≤ 8) (ht : f_tg r = 11) : Wp (d + 1) 173 165 ls (.ref r :: st) (f_W xs I L) Q = Wp d 111 0 [some (.ref r), none] [] (f_W xs I L) (fun r1 => Wp (d + 1) 173 168 ls (r1.1.toList ++ st) r1.2 Q) := Wp.cv (y' := 111) (as := []) e173_165 rfl (by decide) rfl (show 1 ≤ 2 by decide) (by decide) hs ht
theorem e173_168 : decode (j_co 173) 168 = .ok (.if_icmp .eq 1038, 3) := by decide +kernel
set_option maxRecDepth 20000 in
theorem w173_168 {d : Nat} {st : List Value} {Q : Option Value × jW → Prop} {ls : jL} {w : jW} {a b : Int32} : Wp d 173 168 ls (.int b :: .int a :: st) w Q = ((a = b → Wp d 173 1206 ls st w Q) ∧ (¬ a = b → Wp d 173 171 ls st w Q)) := Wp.if2 (c := a = b) (off := 1038) e173_168 rfl rfl rfl rfl rfl
theorem e173_171 : decode (j_co 173) 171 = .ok (.iconst 0, 1) := by decide +kernel
set_option maxRecDepth 20000 in
theorem w173_171 {d : Nat} {st : List Value} {Q : Option Value × jW → Prop} {ls : jL} {w : jW} : Wp d 173 171 ls (st) w Q = Wp d 173 172 ls (.int (nI 0) :: st) w Q := Wp.alu e173_171 rfl rfl
theorem e173_172 : decode (j_co 173) 172 = .ok (.ireturn, 1) := by decide +kernel
set_option maxRecDepth 20000 in
theorem w173_172 {d : Nat} {Q : Option Value × jW → Prop} {ls : jL} {w : jW} {x : Int32} (hx : x = 0 ∨ x = 1) : Wp d 173 172 ls [.int x] w Q = Q (some (.int x), w) := Wp.ret e173_172 (by rcases hx with rfl | rfl <;> rfl)
theorem e173_173 : decode (j_co 173) 173 = .ok (.aload_n 1, 1) := by decide +kernel
set_option maxRecDepth 20000 in
theorem w173_173 {d : Nat} {st : List Value} {Q : Option Value × jW → Prop} {w : jW} {a0 a2 a3 : Option Value} {x : Nat} : Wp d 173 173 [a0, some (.ref x), a2, a3] (st) w Q = Wp d 173 174 [a0, some (.ref x), a2, a3] (.ref x :: st) w Q := Wp.loc e173_173 rfl rfl rfl
theorem e173_174 : decode (j_co 173) 174 = .ok (.aload_n 0, 1) := by decide +kernel
set_option maxRecDepth 20000 in
theorem w173_174 {d : Nat} {st : List Value} {Q : Option Value × jW → Prop} {w : jW} {a1 a2 a3 : Option Value} {x : Nat} : Wp d 173 174 [some (.ref x), a1, a2, a3] (st) w Q = Wp d 173 175 [some (.ref x), a1, a2, a3] (.ref x :: st) w Q := Wp.loc e173_174 rfl rfl rfl
theorem e173_175 : decode (j_co 173) 175 = .ok (.iload_n 3, 1) := by decide +kernel
set_option maxRecDepth 20000 in
theorem w173_175 {d : Nat} {st : List Value} {Q : Option Value × jW → Prop} {w : jW} {a0 a1 a2 : Option Value} {x : Int32} : Wp d 173 175 [a0, a1, a2, some (.int x)] (st) w Q = Wp d 173 176 [a0, a1, a2, some (.int x)] (.int x :: st) w Q := Wp.loc e173_175 rfl rfl rfl
theorem e173_176 : decode (j_co 173) 176 = .ok (.iconst 1, 1) := by decide +kernel
set_option maxRecDepth 20000 in
theorem w173_176 {d : Nat} {st : List Value} {Q : Option Value × jW → Prop} {ls : jL} {w : jW} : Wp d 173 176 ls (st) w Q = Wp d 173 177 ls (.int (nI 1) :: st) w Q := Wp.alu e173_176 rfl rfl
theorem e173_177 : decode (j_co 173) 177 = .ok (.iadd, 1) := by decide +kernel
set_option maxRecDepth 20000 in
theorem w173_177 {d : Nat} {st : List Value} {Q : Option Value × jW → Prop} {ls : jL} {w : jW} {a b : Int32} : Wp d 173 177 ls (.int b :: .int a :: st) w Q = Wp d 173 178 ls (.int (a + b) :: st) w Q := Wp.alu e173_177 rfl rfl
theorem e173_178 : decode (j_co 173) 178 = .ok (.iaload, 1) := by decide +kernel
theorem w173_178 {d k : Nat} {ls : jL} {st : List Value} {I : fI} {L : fL} {Q : Option Value × jW → Prop} {g : List Int32} (hk : k < g.length) (h31 : k < 2147483648) : Wp d 173 178 ls (.int (nI k) :: .ref 0 :: st) (f_W (g.map Value.int) I L) Q = Wp d 173 179 ls (.int (g.getD k 0) :: st) (f_W (g.map Value.int) I L) Q := Wp.iald0 e173_178 hk h31
theorem e173_179 : decode (j_co 173) 179 = .ok (.aload_n 0, 1) := by decide +kernel
set_option maxRecDepth 20000 in
theorem w173_179 {d : Nat} {st : List Value} {Q : Option Value × jW → Prop} {w : jW} {a1 a2 a3 : Option Value} {x : Nat} : Wp d 173 179 [some (.ref x), a1, a2, a3] (st) w Q = Wp d 173 180 [some (.ref x), a1, a2, a3] (.ref x :: st) w Q := Wp.loc e173_179 rfl rfl rfl
theorem e173_180 : decode (j_co 173) 180 = .ok (.iload_n 3, 1) := by decide +kernel
set_option maxRecDepth 20000 in
theorem w173_180 {d : Nat} {st : List Value} {Q : Option Value × jW → Prop} {w : jW} {a0 a1 a2 : Option Value} {x : Int32} : Wp d 173 180 [a0, a1, a2, some (.int x)] (st) w Q = Wp d 173 181 [a0, a1, a2, some (.int x)] (.int x :: st) w Q := Wp.loc e173_180 rfl rfl rfl
theorem e173_181 : decode (j_co 173) 181 = .ok (.iconst 2, 1) := by decide +kernel
set_option maxRecDepth 20000 in
theorem w173_181 {d : Nat} {st : List Value} {Q : Option Value × jW → Prop} {ls : jL} {w : jW} : Wp d 173 181 ls (st) w Q = Wp d 173 182 ls (.int (nI 2) :: st) w Q := Wp.alu e173_181 rfl rfl
theorem e173_182 : decode (j_co 173) 182 = .ok (.iadd, 1) := by decide +kernel
set_option maxRecDepth 20000 in
theorem w173_182 {d : Nat} {st : List Value} {Q : Option Value × jW → Prop} {ls : jL} {w : jW} {a b : Int32} : Wp d 173 182 ls (.int b :: .int a :: st) w Q = Wp d 173 183 ls (.int (a + b) :: st) w Q := Wp.alu e173_182 rfl rfl
theorem e173_183 : decode (j_co 173) 183 = .ok (.iaload, 1) := by decide +kernel
theorem w173_183 {d k : Nat} {ls : jL} {st : List Value} {I : fI} {L : fL} {Q : Option Value × jW → Prop} {g : List Int32} (hk : k < g.length) (h31 : k < 2147483648) : Wp d 173 183 ls (.int (nI k) :: .ref 0 :: st) (f_W (g.map Value.int) I L) Q = Wp d 173 184 ls (.int (g.getD k 0) :: st) (f_W (g.map Value.int) I L) Q := Wp.iald0 e173_183 hk h31
theorem e173_184 : decode (j_co 173) 184 = .ok (.aload_n 0, 1) := by decide +kernel
set_option maxRecDepth 20000 in
theorem w173_184 {d : Nat} {st : List Value} {Q : Option Value × jW → Prop} {w : jW} {a1 a2 a3 : Option Value} {x : Nat} : Wp d 173 184 [some (.ref x), a1, a2, a3] (st) w Q = Wp d 173 185 [some (.ref x), a1, a2, a3] (.ref x :: st) w Q := Wp.loc e173_184 rfl rfl rfl
theorem e173_185 : decode (j_co 173) 185 = .ok (.iload_n 3, 1) := by decide +kernel
set_option maxRecDepth 20000 in
theorem w173_185 {d : Nat} {st : List Value} {Q : Option Value × jW → Prop} {w : jW} {a0 a1 a2 : Option Value} {x : Int32} : Wp d 173 185 [a0, a1, a2, some (.int x)] (st) w Q = Wp d 173 186 [a0, a1, a2, some (.int x)] (.int x :: st) w Q := Wp.loc e173_185 rfl rfl rfl
theorem e173_186 : decode (j_co 173) 186 = .ok (.iconst 3, 1) := by decide +kernel
set_option maxRecDepth 20000 in
theorem w173_186 {d : Nat} {st : List Value} {Q : Option Value × jW → Prop} {ls : jL} {w : jW} : Wp d 173 186 ls (st) w Q = Wp d 173 187 ls (.int (nI 3) :: st) w Q := Wp.alu e173_186 rfl rfl
theorem e173_187 : decode (j_co 173) 187 = .ok (.iadd, 1) := by decide +kernel
set_option maxRecDepth 20000 in
theorem w173_187 {d : Nat} {st : List Value} {Q : Option Value × jW → Prop} {ls : jL} {w : jW} {a b : Int32} : Wp d 173 187 ls (.int b :: .int a :: st) w Q = Wp d 173 188 ls (.int (a + b) :: st) w Q := Wp.alu e173_187 rfl rfl
theorem e173_188 : decode (j_co 173) 188 = .ok (.iaload, 1) := by decide +kernel
theorem w173_188 {d k : Nat} {ls : jL} {st : List Value} {I : fI} {L : fL} {Q : Option Value × jW → Prop} {g : List Int32} (hk : k < g.length) (h31 : k < 2147483648) : Wp d 173 188 ls (.int (nI k) :: .ref 0 :: st) (f_W (g.map Value.int) I L) Q = Wp d 173 189 ls (.int (g.getD k 0) :: st) (f_W (g.map Value.int) I L) Q := Wp.iald0 e173_188 hk h31
theorem e173_189 : decode (j_co 173) 189 = .ok (.aload_n 0, 1) := by decide +kernel
set_option maxRecDepth 20000 in
theorem w173_189 {d : Nat} {st : List Value} {Q : Option Value × jW → Prop} {w : jW} {a1 a2 a3 : Option Value} {x : Nat} : Wp d 173 189 [some (.ref x), a1, a2, a3] (st) w Q = Wp d 173 190 [some (.ref x), a1, a2, a3] (.ref x :: st) w Q := Wp.loc e173_189 rfl rfl rfl
theorem e173_190 : decode (j_co 173) 190 = .ok (.iload_n 3, 1) := by decide +kernel
set_option maxRecDepth 20000 in
theorem w173_190 {d : Nat} {st : List Value} {Q : Option Value × jW → Prop} {w : jW} {a0 a1 a2 : Option Value} {x : Int32} : Wp d 173 190 [a0, a1, a2, some (.int x)] (st) w Q = Wp d 173 191 [a0, a1, a2, some (.int x)] (.int x :: st) w Q := Wp.loc e173_190 rfl rfl rfl
theorem e173_191 : decode (j_co 173) 191 = .ok (.iconst 4, 1) := by decide +kernel
set_option maxRecDepth 20000 in
theorem w173_191 {d : Nat} {st : List Value} {Q : Option Value × jW → Prop} {ls : jL} {w : jW} : Wp d 173 191 ls (st) w Q = Wp d 173 192 ls (.int (nI 4) :: st) w Q := Wp.alu e173_191 rfl rfl
theorem e173_192 : decode (j_co 173) 192 = .ok (.iadd, 1) := by decide +kernel
set_option maxRecDepth 20000 in
theorem w173_192 {d : Nat} {st : List Value} {Q : Option Value × jW → Prop} {ls : jL} {w : jW} {a b : Int32} : Wp d 173 192 ls (.int b :: .int a :: st) w Q = Wp d 173 193 ls (.int (a + b) :: st) w Q := Wp.alu e173_192 rfl rfl
theorem e173_193 : decode (j_co 173) 193 = .ok (.iaload, 1) := by decide +kernel
theorem w173_193 {d k : Nat} {ls : jL} {st : List Value} {I : fI} {L : fL} {Q : Option Value × jW → Prop} {g : List Int32} (hk : k < g.length) (h31 : k < 2147483648) : Wp d 173 193 ls (.int (nI k) :: .ref 0 :: st) (f_W (g.map Value.int) I L) Q = Wp d 173 194 ls (.int (g.getD k 0) :: st) (f_W (g.map Value.int) I L) Q := Wp.iald0 e173_193 hk h31
theorem e173_194 : decode (j_co 173) 194 = .ok (.invokevirtual 18, 3) := by decide +kernel
set_option maxRecDepth 20000 in
theorem w173_194 {d : Nat} {st : List Value} {Q : Option Value × jW → Prop} {ls : jL} {xs : List Value} {I : fI} {L : fL} {r : Nat} {x0 : Int32} {x1 : Int32} {x2 : Int32} {x3 : Int32} (hs : j_sumc st ≤ 8) (ht : f_tg r = 10) : Wp (d + 1) 173 194 ls (.int x3 :: .int x2 :: .int x1 :: .int x0 :: .ref r :: st) (f_W xs I L) Q = Wp d 15 0 [some (.ref r), some (.int x0), some (.int x1), some (.int x2), some (.int x3)] [] (f_W xs I L) (fun r1 => Wp (d + 1) 173 197 ls (r1.1.toList ++ st) r1.2 Q) := Wp.cv (y' := 15) (as := [.int x0, .int x1, .int x2, .int x3]) e173_194 rfl (by decide) rfl (show 5 ≤ 5 by decide) (by decide) hs ht
theorem e173_197 : decode (j_co 173) 197 = .ok (.aload_n 2, 1) := by decide +kernel
set_option maxRecDepth 20000 in
theorem w173_197 {d : Nat} {st : List Value} {Q : Option Value × jW → Prop} {w : jW} {a0 a1 a3 : Option Value} {x : Nat} : Wp d 173 197 [a0, a1, some (.ref x), a3] (st) w Q = Wp d 173 198 [a0, a1, some (.ref x), a3] (.ref x :: st) w Q := Wp.loc e173_197 rfl rfl rfl
theorem e173_198 : decode (j_co 173) 198 = .ok (.aload_n 0, 1) := by decide +kernel
set_option maxRecDepth 20000 in
theorem w173_198 {d : Nat} {st : List Value} {Q : Option Value × jW → Prop} {w : jW} {a1 a2 a3 : Option Value} {x : Nat} : Wp d 173 198 [some (.ref x), a1, a2, a3] (st) w Q = Wp d 173 199 [some (.ref x), a1, a2, a3] (.ref x :: st) w Q := Wp.loc e173_198 rfl rfl rfl
theorem e173_199 : decode (j_co 173) 199 = .ok (.iload_n 3, 1) := by decide +kernel
set_option maxRecDepth 20000 in
theorem w173_199 {d : Nat} {st : List Value} {Q : Option Value × jW → Prop} {w : jW} {a0 a1 a2 : Option Value} {x : Int32} : Wp d 173 199 [a0, a1, a2, some (.int x)] (st) w Q = Wp d 173 200 [a0, a1, a2, some (.int x)] (.int x :: st) w Q := Wp.loc e173_199 rfl rfl rfl
theorem e173_200 : decode (j_co 173) 200 = .ok (.iconst 1, 1) := by decide +kernel
set_option maxRecDepth 20000 in
theorem w173_200 {d : Nat} {st : List Value} {Q : Option Value × jW → Prop} {ls : jL} {w : jW} : Wp d 173 200 ls (st) w Q = Wp d 173 201 ls (.int (nI 1) :: st) w Q := Wp.alu e173_200 rfl rfl
theorem e173_201 : decode (j_co 173) 201 = .ok (.iadd, 1) := by decide +kernel
set_option maxRecDepth 20000 in
theorem w173_201 {d : Nat} {st : List Value} {Q : Option Value × jW → Prop} {ls : jL} {w : jW} {a b : Int32} : Wp d 173 201 ls (.int b :: .int a :: st) w Q = Wp d 173 202 ls (.int (a + b) :: st) w Q := Wp.alu e173_201 rfl rfl
theorem e173_202 : decode (j_co 173) 202 = .ok (.iaload, 1) := by decide +kernel
theorem w173_202 {d k : Nat} {ls : jL} {st : List Value} {I : fI} {L : fL} {Q : Option Value × jW → Prop} {g : List Int32} (hk : k < g.length) (h31 : k < 2147483648) : Wp d 173 202 ls (.int (nI k) :: .ref 0 :: st) (f_W (g.map Value.int) I L) Q = Wp d 173 203 ls (.int (g.getD k 0) :: st) (f_W (g.map Value.int) I L) Q := Wp.iald0 e173_202 hk h31
theorem e173_203 : decode (j_co 173) 203 = .ok (.aload_n 0, 1) := by decide +kernel
set_option maxRecDepth 20000 in
theorem w173_203 {d : Nat} {st : List Value} {Q : Option Value × jW → Prop} {w : jW} {a1 a2 a3 : Option Value} {x : Nat} : Wp d 173 203 [some (.ref x), a1, a2, a3] (st) w Q = Wp d 173 204 [some (.ref x), a1, a2, a3] (.ref x :: st) w Q := Wp.loc e173_203 rfl rfl rfl
theorem e173_204 : decode (j_co 173) 204 = .ok (.iload_n 3, 1) := by decide +kernel
set_option maxRecDepth 20000 in
theorem w173_204 {d : Nat} {st : List Value} {Q : Option Value × jW → Prop} {w : jW} {a0 a1 a2 : Option Value} {x : Int32} : Wp d 173 204 [a0, a1, a2, some (.int x)] (st) w Q = Wp d 173 205 [a0, a1, a2, some (.int x)] (.int x :: st) w Q := Wp.loc e173_204 rfl rfl rfl
theorem e173_205 : decode (j_co 173) 205 = .ok (.iconst 2, 1) := by decide +kernel
set_option maxRecDepth 20000 in
theorem w173_205 {d : Nat} {st : List Value} {Q : Option Value × jW → Prop} {ls : jL} {w : jW} : Wp d 173 205 ls (st) w Q = Wp d 173 206 ls (.int (nI 2) :: st) w Q := Wp.alu e173_205 rfl rfl
theorem e173_206 : decode (j_co 173) 206 = .ok (.iadd, 1) := by decide +kernel
set_option maxRecDepth 20000 in
theorem w173_206 {d : Nat} {st : List Value} {Q : Option Value × jW → Prop} {ls : jL} {w : jW} {a b : Int32} : Wp d 173 206 ls (.int b :: .int a :: st) w Q = Wp d 173 207 ls (.int (a + b) :: st) w Q := Wp.alu e173_206 rfl rfl
theorem e173_207 : decode (j_co 173) 207 = .ok (.iaload, 1) := by decide +kernel
theorem w173_207 {d k : Nat} {ls : jL} {st : List Value} {I : fI} {L : fL} {Q : Option Value × jW → Prop} {g : List Int32} (hk : k < g.length) (h31 : k < 2147483648) : Wp d 173 207 ls (.int (nI k) :: .ref 0 :: st) (f_W (g.map Value.int) I L) Q = Wp d 173 208 ls (.int (g.getD k 0) :: st) (f_W (g.map Value.int) I L) Q := Wp.iald0 e173_207 hk h31
theorem e173_208 : decode (j_co 173) 208 = .ok (.aload_n 0, 1) := by decide +kernel
set_option maxRecDepth 20000 in
theorem w173_208 {d : Nat} {st : List Value} {Q : Option Value × jW → Prop} {w : jW} {a1 a2 a3 : Option Value} {x : Nat} : Wp d 173 208 [some (.ref x), a1, a2, a3] (st) w Q = Wp d 173 209 [some (.ref x), a1, a2, a3] (.ref x :: st) w Q := Wp.loc e173_208 rfl rfl rfl
theorem e173_209 : decode (j_co 173) 209 = .ok (.iload_n 3, 1) := by decide +kernel
set_option maxRecDepth 20000 in
theorem w173_209 {d : Nat} {st : List Value} {Q : Option Value × jW → Prop} {w : jW} {a0 a1 a2 : Option Value} {x : Int32} : Wp d 173 209 [a0, a1, a2, some (.int x)] (st) w Q = Wp d 173 210 [a0, a1, a2, some (.int x)] (.int x :: st) w Q := Wp.loc e173_209 rfl rfl rfl
theorem e173_210 : decode (j_co 173) 210 = .ok (.iconst 3, 1) := by decide +kernel
set_option maxRecDepth 20000 in
theorem w173_210 {d : Nat} {st : List Value} {Q : Option Value × jW → Prop} {ls : jL} {w : jW} : Wp d 173 210 ls (st) w Q = Wp d 173 211 ls (.int (nI 3) :: st) w Q := Wp.alu e173_210 rfl rfl
theorem e173_211 : decode (j_co 173) 211 = .ok (.iadd, 1) := by decide +kernel
set_option maxRecDepth 20000 in
theorem w173_211 {d : Nat} {st : List Value} {Q : Option Value × jW → Prop} {ls : jL} {w : jW} {a b : Int32} : Wp d 173 211 ls (.int b :: .int a :: st) w Q = Wp d 173 212 ls (.int (a + b) :: st) w Q := Wp.alu e173_211 rfl rfl
theorem e173_212 : decode (j_co 173) 212 = .ok (.iaload, 1) := by decide +kernel
theorem w173_212 {d k : Nat} {ls : jL} {st : List Value} {I : fI} {L : fL} {Q : Option Value × jW → Prop} {g : List Int32} (hk : k < g.length) (h31 : k < 2147483648) : Wp d 173 212 ls (.int (nI k) :: .ref 0 :: st) (f_W (g.map Value.int) I L) Q = Wp d 173 213 ls (.int (g.getD k 0) :: st) (f_W (g.map Value.int) I L) Q := Wp.iald0 e173_212 hk h31
theorem e173_213 : decode (j_co 173) 213 = .ok (.aload_n 0, 1) := by decide +kernel
set_option maxRecDepth 20000 in
theorem w173_213 {d : Nat} {st : List Value} {Q : Option Value × jW → Prop} {w : jW} {a1 a2 a3 : Option Value} {x : Nat} : Wp d 173 213 [some (.ref x), a1, a2, a3] (st) w Q = Wp d 173 214 [some (.ref x), a1, a2, a3] (.ref x :: st) w Q := Wp.loc e173_213 rfl rfl rfl
theorem e173_214 : decode (j_co 173) 214 = .ok (.iload_n 3, 1) := by decide +kernel
set_option maxRecDepth 20000 in
theorem w173_214 {d : Nat} {st : List Value} {Q : Option Value × jW → Prop} {w : jW} {a0 a1 a2 : Option Value} {x : Int32} : Wp d 173 214 [a0, a1, a2, some (.int x)] (st) w Q = Wp d 173 215 [a0, a1, a2, some (.int x)] (.int x :: st) w Q := Wp.loc e173_214 rfl rfl rfl
theorem e173_215 : decode (j_co 173) 215 = .ok (.iconst 4, 1) := by decide +kernel
set_option maxRecDepth 20000 in
theorem w173_215 {d : Nat} {st : List Value} {Q : Option Value × jW → Prop} {ls : jL} {w : jW} : Wp d 173 215 ls (st) w Q = Wp d 173 216 ls (.int (nI 4) :: st) w Q := Wp.alu e173_215 rfl rfl
theorem e173_216 : decode (j_co 173) 216 = .ok (.iadd, 1) := by decide +kernel
set_option maxRecDepth 20000 in
theorem w173_216 {d : Nat} {st : List Value} {Q : Option Value × jW → Prop} {ls : jL} {w : jW} {a b : Int32} : Wp d 173 216 ls (.int b :: .int a :: st) w Q = Wp d 173 217 ls (.int (a + b) :: st) w Q := Wp.alu e173_216 rfl rfl
theorem e173_217 : decode (j_co 173) 217 = .ok (.iaload, 1) := by decide +kernel
theorem w173_217 {d k : Nat} {ls : jL} {st : List Value} {I : fI} {L : fL} {Q : Option Value × jW → Prop} {g : List Int32} (hk : k < g.length) (h31 : k < 2147483648) : Wp d 173 217 ls (.int (nI k) :: .ref 0 :: st) (f_W (g.map Value.int) I L) Q = Wp d 173 218 ls (.int (g.getD k 0) :: st) (f_W (g.map Value.int) I L) Q := Wp.iald0 e173_217 hk h31
theorem e173_218 : decode (j_co 173) 218 = .ok (.invokevirtual 22, 3) := by decide +kernel
set_option maxRecDepth 20000 in
theorem w173_218 {d : Nat} {st : List Value} {Q : Option Value × jW → Prop} {ls : jL} {xs : List Value} {I : fI} {L : fL} {r : Nat} {x0 : Int32} {x1 : Int32} {x2 : Int32} {x3 : Int32} (hs : j_sumc st ≤ 8) (ht : f_tg r = 11) : Wp (d + 1) 173 218 ls (.int x3 :: .int x2 :: .int x1 :: .int x0 :: .ref r :: st) (f_W xs I L) Q = Wp d 113 0 [some (.ref r), some (.int x0), some (.int x1), some (.int x2), some (.int x3)] [] (f_W xs I L) (fun r1 => Wp (d + 1) 173 221 ls (r1.1.toList ++ st) r1.2 Q) := Wp.cv (y' := 113) (as := [.int x0, .int x1, .int x2, .int x3]) e173_218 rfl (by decide) rfl (show 5 ≤ 5 by decide) (by decide) hs ht
theorem e173_221 : decode (j_co 173) 221 = .ok (.if_icmp .eq 985, 3) := by decide +kernel
set_option maxRecDepth 20000 in
theorem w173_221 {d : Nat} {st : List Value} {Q : Option Value × jW → Prop} {ls : jL} {w : jW} {a b : Int32} : Wp d 173 221 ls (.int b :: .int a :: st) w Q = ((a = b → Wp d 173 1206 ls st w Q) ∧ (¬ a = b → Wp d 173 224 ls st w Q)) := Wp.if2 (c := a = b) (off := 985) e173_221 rfl rfl rfl rfl rfl
theorem e173_224 : decode (j_co 173) 224 = .ok (.iconst 0, 1) := by decide +kernel
set_option maxRecDepth 20000 in
theorem w173_224 {d : Nat} {st : List Value} {Q : Option Value × jW → Prop} {ls : jL} {w : jW} : Wp d 173 224 ls (st) w Q = Wp d 173 225 ls (.int (nI 0) :: st) w Q := Wp.alu e173_224 rfl rfl
theorem e173_225 : decode (j_co 173) 225 = .ok (.ireturn, 1) := by decide +kernel
set_option maxRecDepth 20000 in
theorem w173_225 {d : Nat} {Q : Option Value × jW → Prop} {ls : jL} {w : jW} {x : Int32} (hx : x = 0 ∨ x = 1) : Wp d 173 225 ls [.int x] w Q = Q (some (.int x), w) := Wp.ret e173_225 (by rcases hx with rfl | rfl <;> rfl)
theorem e173_226 : decode (j_co 173) 226 = .ok (.aload_n 1, 1) := by decide +kernel
set_option maxRecDepth 20000 in
theorem w173_226 {d : Nat} {st : List Value} {Q : Option Value × jW → Prop} {w : jW} {a0 a2 a3 : Option Value} {x : Nat} : Wp d 173 226 [a0, some (.ref x), a2, a3] (st) w Q = Wp d 173 227 [a0, some (.ref x), a2, a3] (.ref x :: st) w Q := Wp.loc e173_226 rfl rfl rfl
theorem e173_227 : decode (j_co 173) 227 = .ok (.aload_n 0, 1) := by decide +kernel
set_option maxRecDepth 20000 in
theorem w173_227 {d : Nat} {st : List Value} {Q : Option Value × jW → Prop} {w : jW} {a1 a2 a3 : Option Value} {x : Nat} : Wp d 173 227 [some (.ref x), a1, a2, a3] (st) w Q = Wp d 173 228 [some (.ref x), a1, a2, a3] (.ref x :: st) w Q := Wp.loc e173_227 rfl rfl rfl
theorem e173_228 : decode (j_co 173) 228 = .ok (.iload_n 3, 1) := by decide +kernel
set_option maxRecDepth 20000 in
theorem w173_228 {d : Nat} {st : List Value} {Q : Option Value × jW → Prop} {w : jW} {a0 a1 a2 : Option Value} {x : Int32} : Wp d 173 228 [a0, a1, a2, some (.int x)] (st) w Q = Wp d 173 229 [a0, a1, a2, some (.int x)] (.int x :: st) w Q := Wp.loc e173_228 rfl rfl rfl
theorem e173_229 : decode (j_co 173) 229 = .ok (.iconst 1, 1) := by decide +kernel
set_option maxRecDepth 20000 in
theorem w173_229 {d : Nat} {st : List Value} {Q : Option Value × jW → Prop} {ls : jL} {w : jW} : Wp d 173 229 ls (st) w Q = Wp d 173 230 ls (.int (nI 1) :: st) w Q := Wp.alu e173_229 rfl rfl
theorem e173_230 : decode (j_co 173) 230 = .ok (.iadd, 1) := by decide +kernel
set_option maxRecDepth 20000 in
theorem w173_230 {d : Nat} {st : List Value} {Q : Option Value × jW → Prop} {ls : jL} {w : jW} {a b : Int32} : Wp d 173 230 ls (.int b :: .int a :: st) w Q = Wp d 173 231 ls (.int (a + b) :: st) w Q := Wp.alu e173_230 rfl rfl
theorem e173_231 : decode (j_co 173) 231 = .ok (.iaload, 1) := by decide +kernel
theorem w173_231 {d k : Nat} {ls : jL} {st : List Value} {I : fI} {L : fL} {Q : Option Value × jW → Prop} {g : List Int32} (hk : k < g.length) (h31 : k < 2147483648) : Wp d 173 231 ls (.int (nI k) :: .ref 0 :: st) (f_W (g.map Value.int) I L) Q = Wp d 173 232 ls (.int (g.getD k 0) :: st) (f_W (g.map Value.int) I L) Q := Wp.iald0 e173_231 hk h31
theorem e173_232 : decode (j_co 173) 232 = .ok (.aload_n 0, 1) := by decide +kernel
set_option maxRecDepth 20000 in
theorem w173_232 {d : Nat} {st : List Value} {Q : Option Value × jW → Prop} {w : jW} {a1 a2 a3 : Option Value} {x : Nat} : Wp d 173 232 [some (.ref x), a1, a2, a3] (st) w Q = Wp d 173 233 [some (.ref x), a1, a2, a3] (.ref x :: st) w Q := Wp.loc e173_232 rfl rfl rfl
theorem e173_233 : decode (j_co 173) 233 = .ok (.iload_n 3, 1) := by decide +kernel
set_option maxRecDepth 20000 in
theorem w173_233 {d : Nat} {st : List Value} {Q : Option Value × jW → Prop} {w : jW} {a0 a1 a2 : Option Value} {x : Int32} : Wp d 173 233 [a0, a1, a2, some (.int x)] (st) w Q = Wp d 173 234 [a0, a1, a2, some (.int x)] (.int x :: st) w Q := Wp.loc e173_233 rfl rfl rfl
theorem e173_234 : decode (j_co 173) 234 = .ok (.iconst 2, 1) := by decide +kernel
set_option maxRecDepth 20000 in
theorem w173_234 {d : Nat} {st : List Value} {Q : Option Value × jW → Prop} {ls : jL} {w : jW} : Wp d 173 234 ls (st) w Q = Wp d 173 235 ls (.int (nI 2) :: st) w Q := Wp.alu e173_234 rfl rfl
theorem e173_235 : decode (j_co 173) 235 = .ok (.iadd, 1) := by decide +kernel
set_option maxRecDepth 20000 in
theorem w173_235 {d : Nat} {st : List Value} {Q : Option Value × jW → Prop} {ls : jL} {w : jW} {a b : Int32} : Wp d 173 235 ls (.int b :: .int a :: st) w Q = Wp d 173 236 ls (.int (a + b) :: st) w Q := Wp.alu e173_235 rfl rfl
theorem e173_236 : decode (j_co 173) 236 = .ok (.iaload, 1) := by decide +kernel
theorem w173_236 {d k : Nat} {ls : jL} {st : List Value} {I : fI} {L : fL} {Q : Option Value × jW → Prop} {g : List Int32} (hk : k < g.length) (h31 : k < 2147483648) : Wp d 173 236 ls (.int (nI k) :: .ref 0 :: st) (f_W (g.map Value.int) I L) Q = Wp d 173 237 ls (.int (g.getD k 0) :: st) (f_W (g.map Value.int) I L) Q := Wp.iald0 e173_236 hk h31
theorem e173_237 : decode (j_co 173) 237 = .ok (.aload_n 0, 1) := by decide +kernel
set_option maxRecDepth 20000 in
theorem w173_237 {d : Nat} {st : List Value} {Q : Option Value × jW → Prop} {w : jW} {a1 a2 a3 : Option Value} {x : Nat} : Wp d 173 237 [some (.ref x), a1, a2, a3] (st) w Q = Wp d 173 238 [some (.ref x), a1, a2, a3] (.ref x :: st) w Q := Wp.loc e173_237 rfl rfl rfl
theorem e173_238 : decode (j_co 173) 238 = .ok (.iload_n 3, 1) := by decide +kernel
set_option maxRecDepth 20000 in
theorem w173_238 {d : Nat} {st : List Value} {Q : Option Value × jW → Prop} {w : jW} {a0 a1 a2 : Option Value} {x : Int32} : Wp d 173 238 [a0, a1, a2, some (.int x)] (st) w Q = Wp d 173 239 [a0, a1, a2, some (.int x)] (.int x :: st) w Q := Wp.loc e173_238 rfl rfl rfl
theorem e173_239 : decode (j_co 173) 239 = .ok (.iconst 3, 1) := by decide +kernel
set_option maxRecDepth 20000 in
theorem w173_239 {d : Nat} {st : List Value} {Q : Option Value × jW → Prop} {ls : jL} {w : jW} : Wp d 173 239 ls (st) w Q = Wp d 173 240 ls (.int (nI 3) :: st) w Q := Wp.alu e173_239 rfl rfl
theorem e173_240 : decode (j_co 173) 240 = .ok (.iadd, 1) := by decide +kernel
set_option maxRecDepth 20000 in
theorem w173_240 {d : Nat} {st : List Value} {Q : Option Value × jW → Prop} {ls : jL} {w : jW} {a b : Int32} : Wp d 173 240 ls (.int b :: .int a :: st) w Q = Wp d 173 241 ls (.int (a + b) :: st) w Q := Wp.alu e173_240 rfl rfl
theorem e173_241 : decode (j_co 173) 241 = .ok (.iaload, 1) := by decide +kernel
theorem w173_241 {d k : Nat} {ls : jL} {st : List Value} {I : fI} {L : fL} {Q : Option Value × jW → Prop} {g : List Int32} (hk : k < g.length) (h31 : k < 2147483648) : Wp d 173 241 ls (.int (nI k) :: .ref 0 :: st) (f_W (g.map Value.int) I L) Q = Wp d 173 242 ls (.int (g.getD k 0) :: st) (f_W (g.map Value.int) I L) Q := Wp.iald0 e173_241 hk h31
theorem e173_242 : decode (j_co 173) 242 = .ok (.aload_n 0, 1) := by decide +kernel
set_option maxRecDepth 20000 in
theorem w173_242 {d : Nat} {st : List Value} {Q : Option Value × jW → Prop} {w : jW} {a1 a2 a3 : Option Value} {x : Nat} : Wp d 173 242 [some (.ref x), a1, a2, a3] (st) w Q = Wp d 173 243 [some (.ref x), a1, a2, a3] (.ref x :: st) w Q := Wp.loc e173_242 rfl rfl rfl
theorem e173_243 : decode (j_co 173) 243 = .ok (.iload_n 3, 1) := by decide +kernel
set_option maxRecDepth 20000 in
theorem w173_243 {d : Nat} {st : List Value} {Q : Option Value × jW → Prop} {w : jW} {a0 a1 a2 : Option Value} {x : Int32} : Wp d 173 243 [a0, a1, a2, some (.int x)] (st) w Q = Wp d 173 244 [a0, a1, a2, some (.int x)] (.int x :: st) w Q := Wp.loc e173_243 rfl rfl rfl
theorem e173_244 : decode (j_co 173) 244 = .ok (.iconst 4, 1) := by decide +kernel
set_option maxRecDepth 20000 in
theorem w173_244 {d : Nat} {st : List Value} {Q : Option Value × jW → Prop} {ls : jL} {w : jW} : Wp d 173 244 ls (st) w Q = Wp d 173 245 ls (.int (nI 4) :: st) w Q := Wp.alu e173_244 rfl rfl
theorem e173_245 : decode (j_co 173) 245 = .ok (.iadd, 1) := by decide +kernel
set_option maxRecDepth 20000 in
theorem w173_245 {d : Nat} {st : List Value} {Q : Option Value × jW → Prop} {ls : jL} {w : jW} {a b : Int32} : Wp d 173 245 ls (.int b :: .int a :: st) w Q = Wp d 173 246 ls (.int (a + b) :: st) w Q := Wp.alu e173_245 rfl rfl
theorem e173_246 : decode (j_co 173) 246 = .ok (.iaload, 1) := by decide +kernel
theorem w173_246 {d k : Nat} {ls : jL} {st : List Value} {I : fI} {L : fL} {Q : Option Value × jW → Prop} {g : List Int32} (hk : k < g.length) (h31 : k < 2147483648) : Wp d 173 246 ls (.int (nI k) :: .ref 0 :: st) (f_W (g.map Value.int) I L) Q = Wp d 173 247 ls (.int (g.getD k 0) :: st) (f_W (g.map Value.int) I L) Q := Wp.iald0 e173_246 hk h31
theorem e173_247 : decode (j_co 173) 247 = .ok (.invokevirtual 23, 3) := by decide +kernel
set_option maxRecDepth 20000 in
theorem w173_247 {d : Nat} {st : List Value} {Q : Option Value × jW → Prop} {ls : jL} {xs : List Value} {I : fI} {L : fL} {r : Nat} {x0 : Int32} {x1 : Int32} {x2 : Int32} {x3 : Int32} (hs : j_sumc st ≤ 8) (ht : f_tg r = 10) : Wp (d + 1) 173 247 ls (.int x3 :: .int x2 :: .int x1 :: .int x0 :: .ref r :: st) (f_W xs I L) Q = Wp d 19 0 [some (.ref r), some (.int x0), some (.int x1), some (.int x2), some (.int x3)] [] (f_W xs I L) (fun r1 => Wp (d + 1) 173 250 ls (r1.1.toList ++ st) r1.2 Q) := Wp.cv (y' := 19) (as := [.int x0, .int x1, .int x2, .int x3]) e173_247 rfl (by decide) rfl (show 5 ≤ 5 by decide) (by decide) hs ht
theorem e173_250 : decode (j_co 173) 250 = .ok (.aload_n 2, 1) := by decide +kernel
set_option maxRecDepth 20000 in
theorem w173_250 {d : Nat} {st : List Value} {Q : Option Value × jW → Prop} {w : jW} {a0 a1 a3 : Option Value} {x : Nat} : Wp d 173 250 [a0, a1, some (.ref x), a3] (st) w Q = Wp d 173 251 [a0, a1, some (.ref x), a3] (.ref x :: st) w Q := Wp.loc e173_250 rfl rfl rfl
theorem e173_251 : decode (j_co 173) 251 = .ok (.aload_n 0, 1) := by decide +kernel
set_option maxRecDepth 20000 in
theorem w173_251 {d : Nat} {st : List Value} {Q : Option Value × jW → Prop} {w : jW} {a1 a2 a3 : Option Value} {x : Nat} : Wp d 173 251 [some (.ref x), a1, a2, a3] (st) w Q = Wp d 173 252 [some (.ref x), a1, a2, a3] (.ref x :: st) w Q := Wp.loc e173_251 rfl rfl rfl
theorem e173_252 : decode (j_co 173) 252 = .ok (.iload_n 3, 1) := by decide +kernel
set_option maxRecDepth 20000 in
theorem w173_252 {d : Nat} {st : List Value} {Q : Option Value × jW → Prop} {w : jW} {a0 a1 a2 : Option Value} {x : Int32} : Wp d 173 252 [a0, a1, a2, some (.int x)] (st) w Q = Wp d 173 253 [a0, a1, a2, some (.int x)] (.int x :: st) w Q := Wp.loc e173_252 rfl rfl rfl
theorem e173_253 : decode (j_co 173) 253 = .ok (.iconst 1, 1) := by decide +kernel
set_option maxRecDepth 20000 in
theorem w173_253 {d : Nat} {st : List Value} {Q : Option Value × jW → Prop} {ls : jL} {w : jW} : Wp d 173 253 ls (st) w Q = Wp d 173 254 ls (.int (nI 1) :: st) w Q := Wp.alu e173_253 rfl rfl
theorem e173_254 : decode (j_co 173) 254 = .ok (.iadd, 1) := by decide +kernel
set_option maxRecDepth 20000 in
theorem w173_254 {d : Nat} {st : List Value} {Q : Option Value × jW → Prop} {ls : jL} {w : jW} {a b : Int32} : Wp d 173 254 ls (.int b :: .int a :: st) w Q = Wp d 173 255 ls (.int (a + b) :: st) w Q := Wp.alu e173_254 rfl rfl
theorem e173_255 : decode (j_co 173) 255 = .ok (.iaload, 1) := by decide +kernel
theorem w173_255 {d k : Nat} {ls : jL} {st : List Value} {I : fI} {L : fL} {Q : Option Value × jW → Prop} {g : List Int32} (hk : k < g.length) (h31 : k < 2147483648) : Wp d 173 255 ls (.int (nI k) :: .ref 0 :: st) (f_W (g.map Value.int) I L) Q = Wp d 173 256 ls (.int (g.getD k 0) :: st) (f_W (g.map Value.int) I L) Q := Wp.iald0 e173_255 hk h31
theorem e173_256 : decode (j_co 173) 256 = .ok (.aload_n 0, 1) := by decide +kernel
set_option maxRecDepth 20000 in
theorem w173_256 {d : Nat} {st : List Value} {Q : Option Value × jW → Prop} {w : jW} {a1 a2 a3 : Option Value} {x : Nat} : Wp d 173 256 [some (.ref x), a1, a2, a3] (st) w Q = Wp d 173 257 [some (.ref x), a1, a2, a3] (.ref x :: st) w Q := Wp.loc e173_256 rfl rfl rfl
theorem e173_257 : decode (j_co 173) 257 = .ok (.iload_n 3, 1) := by decide +kernel
set_option maxRecDepth 20000 in
theorem w173_257 {d : Nat} {st : List Value} {Q : Option Value × jW → Prop} {w : jW} {a0 a1 a2 : Option Value} {x : Int32} : Wp d 173 257 [a0, a1, a2, some (.int x)] (st) w Q = Wp d 173 258 [a0, a1, a2, some (.int x)] (.int x :: st) w Q := Wp.loc e173_257 rfl rfl rfl
theorem e173_258 : decode (j_co 173) 258 = .ok (.iconst 2, 1) := by decide +kernel
set_option maxRecDepth 20000 in
theorem w173_258 {d : Nat} {st : List Value} {Q : Option Value × jW → Prop} {ls : jL} {w : jW} : Wp d 173 258 ls (st) w Q = Wp d 173 259 ls (.int (nI 2) :: st) w Q := Wp.alu e173_258 rfl rfl
theorem e173_259 : decode (j_co 173) 259 = .ok (.iadd, 1) := by decide +kernel
set_option maxRecDepth 20000 in
theorem w173_259 {d : Nat} {st : List Value} {Q : Option Value × jW → Prop} {ls : jL} {w : jW} {a b : Int32} : Wp d 173 259 ls (.int b :: .int a :: st) w Q = Wp d 173 260 ls (.int (a + b) :: st) w Q := Wp.alu e173_259 rfl rfl
theorem e173_260 : decode (j_co 173) 260 = .ok (.iaload, 1) := by decide +kernel
theorem w173_260 {d k : Nat} {ls : jL} {st : List Value} {I : fI} {L : fL} {Q : Option Value × jW → Prop} {g : List Int32} (hk : k < g.length) (h31 : k < 2147483648) : Wp d 173 260 ls (.int (nI k) :: .ref 0 :: st) (f_W (g.map Value.int) I L) Q = Wp d 173 261 ls (.int (g.getD k 0) :: st) (f_W (g.map Value.int) I L) Q := Wp.iald0 e173_260 hk h31
theorem e173_261 : decode (j_co 173) 261 = .ok (.aload_n 0, 1) := by decide +kernel
set_option maxRecDepth 20000 in
theorem w173_261 {d : Nat} {st : List Value} {Q : Option Value × jW → Prop} {w : jW} {a1 a2 a3 : Option Value} {x : Nat} : Wp d 173 261 [some (.ref x), a1, a2, a3] (st) w Q = Wp d 173 262 [some (.ref x), a1, a2, a3] (.ref x :: st) w Q := Wp.loc e173_261 rfl rfl rfl
theorem e173_262 : decode (j_co 173) 262 = .ok (.iload_n 3, 1) := by decide +kernel
set_option maxRecDepth 20000 in
theorem w173_262 {d : Nat} {st : List Value} {Q : Option Value × jW → Prop} {w : jW} {a0 a1 a2 : Option Value} {x : Int32} : Wp d 173 262 [a0, a1, a2, some (.int x)] (st) w Q = Wp d 173 263 [a0, a1, a2, some (.int x)] (.int x :: st) w Q := Wp.loc e173_262 rfl rfl rfl
theorem e173_263 : decode (j_co 173) 263 = .ok (.iconst 3, 1) := by decide +kernel
set_option maxRecDepth 20000 in
theorem w173_263 {d : Nat} {st : List Value} {Q : Option Value × jW → Prop} {ls : jL} {w : jW} : Wp d 173 263 ls (st) w Q = Wp d 173 264 ls (.int (nI 3) :: st) w Q := Wp.alu e173_263 rfl rfl
theorem e173_264 : decode (j_co 173) 264 = .ok (.iadd, 1) := by decide +kernel
set_option maxRecDepth 20000 in
theorem w173_264 {d : Nat} {st : List Value} {Q : Option Value × jW → Prop} {ls : jL} {w : jW} {a b : Int32} : Wp d 173 264 ls (.int b :: .int a :: st) w Q = Wp d 173 265 ls (.int (a + b) :: st) w Q := Wp.alu e173_264 rfl rfl
theorem e173_265 : decode (j_co 173) 265 = .ok (.iaload, 1) := by decide +kernel
theorem w173_265 {d k : Nat} {ls : jL} {st : List Value} {I : fI} {L : fL} {Q : Option Value × jW → Prop} {g : List Int32} (hk : k < g.length) (h31 : k < 2147483648) : Wp d 173 265 ls (.int (nI k) :: .ref 0 :: st) (f_W (g.map Value.int) I L) Q = Wp d 173 266 ls (.int (g.getD k 0) :: st) (f_W (g.map Value.int) I L) Q := Wp.iald0 e173_265 hk h31
theorem e173_266 : decode (j_co 173) 266 = .ok (.aload_n 0, 1) := by decide +kernel
set_option maxRecDepth 20000 in
theorem w173_266 {d : Nat} {st : List Value} {Q : Option Value × jW → Prop} {w : jW} {a1 a2 a3 : Option Value} {x : Nat} : Wp d 173 266 [some (.ref x), a1, a2, a3] (st) w Q = Wp d 173 267 [some (.ref x), a1, a2, a3] (.ref x :: st) w Q := Wp.loc e173_266 rfl rfl rfl
theorem e173_267 : decode (j_co 173) 267 = .ok (.iload_n 3, 1) := by decide +kernel
set_option maxRecDepth 20000 in
theorem w173_267 {d : Nat} {st : List Value} {Q : Option Value × jW → Prop} {w : jW} {a0 a1 a2 : Option Value} {x : Int32} : Wp d 173 267 [a0, a1, a2, some (.int x)] (st) w Q = Wp d 173 268 [a0, a1, a2, some (.int x)] (.int x :: st) w Q := Wp.loc e173_267 rfl rfl rfl
theorem e173_268 : decode (j_co 173) 268 = .ok (.iconst 4, 1) := by decide +kernel
set_option maxRecDepth 20000 in
theorem w173_268 {d : Nat} {st : List Value} {Q : Option Value × jW → Prop} {ls : jL} {w : jW} : Wp d 173 268 ls (st) w Q = Wp d 173 269 ls (.int (nI 4) :: st) w Q := Wp.alu e173_268 rfl rfl
theorem e173_269 : decode (j_co 173) 269 = .ok (.iadd, 1) := by decide +kernel
set_option maxRecDepth 20000 in
theorem w173_269 {d : Nat} {st : List Value} {Q : Option Value × jW → Prop} {ls : jL} {w : jW} {a b : Int32} : Wp d 173 269 ls (.int b :: .int a :: st) w Q = Wp d 173 270 ls (.int (a + b) :: st) w Q := Wp.alu e173_269 rfl rfl
theorem e173_270 : decode (j_co 173) 270 = .ok (.iaload, 1) := by decide +kernel
theorem w173_270 {d k : Nat} {ls : jL} {st : List Value} {I : fI} {L : fL} {Q : Option Value × jW → Prop} {g : List Int32} (hk : k < g.length) (h31 : k < 2147483648) : Wp d 173 270 ls (.int (nI k) :: .ref 0 :: st) (f_W (g.map Value.int) I L) Q = Wp d 173 271 ls (.int (g.getD k 0) :: st) (f_W (g.map Value.int) I L) Q := Wp.iald0 e173_270 hk h31
theorem e173_271 : decode (j_co 173) 271 = .ok (.invokevirtual 26, 3) := by decide +kernel
set_option maxRecDepth 20000 in
theorem w173_271 {d : Nat} {st : List Value} {Q : Option Value × jW → Prop} {ls : jL} {xs : List Value} {I : fI} {L : fL} {r : Nat} {x0 : Int32} {x1 : Int32} {x2 : Int32} {x3 : Int32} (hs : j_sumc st ≤ 8) (ht : f_tg r = 11) : Wp (d + 1) 173 271 ls (.int x3 :: .int x2 :: .int x1 :: .int x0 :: .ref r :: st) (f_W xs I L) Q = Wp d 118 0 [some (.ref r), some (.int x0), some (.int x1), some (.int x2), some (.int x3)] [] (f_W xs I L) (fun r1 => Wp (d + 1) 173 274 ls (r1.1.toList ++ st) r1.2 Q) := Wp.cv (y' := 118) (as := [.int x0, .int x1, .int x2, .int x3]) e173_271 rfl (by decide) rfl (show 5 ≤ 5 by decide) (by decide) hs ht
theorem e173_274 : decode (j_co 173) 274 = .ok (.if_icmp .eq 932, 3) := by decide +kernel
set_option maxRecDepth 20000 in
theorem w173_274 {d : Nat} {st : List Value} {Q : Option Value × jW → Prop} {ls : jL} {w : jW} {a b : Int32} : Wp d 173 274 ls (.int b :: .int a :: st) w Q = ((a = b → Wp d 173 1206 ls st w Q) ∧ (¬ a = b → Wp d 173 277 ls st w Q)) := Wp.if2 (c := a = b) (off := 932) e173_274 rfl rfl rfl rfl rfl
theorem e173_277 : decode (j_co 173) 277 = .ok (.iconst 0, 1) := by decide +kernel
set_option maxRecDepth 20000 in
theorem w173_277 {d : Nat} {st : List Value} {Q : Option Value × jW → Prop} {ls : jL} {w : jW} : Wp d 173 277 ls (st) w Q = Wp d 173 278 ls (.int (nI 0) :: st) w Q := Wp.alu e173_277 rfl rfl
theorem e173_278 : decode (j_co 173) 278 = .ok (.ireturn, 1) := by decide +kernel
set_option maxRecDepth 20000 in
theorem w173_278 {d : Nat} {Q : Option Value × jW → Prop} {ls : jL} {w : jW} {x : Int32} (hx : x = 0 ∨ x = 1) : Wp d 173 278 ls [.int x] w Q = Q (some (.int x), w) := Wp.ret e173_278 (by rcases hx with rfl | rfl <;> rfl)
theorem e173_279 : decode (j_co 173) 279 = .ok (.aload_n 1, 1) := by decide +kernel
set_option maxRecDepth 20000 in
theorem w173_279 {d : Nat} {st : List Value} {Q : Option Value × jW → Prop} {w : jW} {a0 a2 a3 : Option Value} {x : Nat} : Wp d 173 279 [a0, some (.ref x), a2, a3] (st) w Q = Wp d 173 280 [a0, some (.ref x), a2, a3] (.ref x :: st) w Q := Wp.loc e173_279 rfl rfl rfl
theorem e173_280 : decode (j_co 173) 280 = .ok (.aload_n 0, 1) := by decide +kernel
set_option maxRecDepth 20000 in
theorem w173_280 {d : Nat} {st : List Value} {Q : Option Value × jW → Prop} {w : jW} {a1 a2 a3 : Option Value} {x : Nat} : Wp d 173 280 [some (.ref x), a1, a2, a3] (st) w Q = Wp d 173 281 [some (.ref x), a1, a2, a3] (.ref x :: st) w Q := Wp.loc e173_280 rfl rfl rfl
theorem e173_281 : decode (j_co 173) 281 = .ok (.iload_n 3, 1) := by decide +kernel
set_option maxRecDepth 20000 in
theorem w173_281 {d : Nat} {st : List Value} {Q : Option Value × jW → Prop} {w : jW} {a0 a1 a2 : Option Value} {x : Int32} : Wp d 173 281 [a0, a1, a2, some (.int x)] (st) w Q = Wp d 173 282 [a0, a1, a2, some (.int x)] (.int x :: st) w Q := Wp.loc e173_281 rfl rfl rfl
theorem e173_282 : decode (j_co 173) 282 = .ok (.iconst 1, 1) := by decide +kernel
set_option maxRecDepth 20000 in
theorem w173_282 {d : Nat} {st : List Value} {Q : Option Value × jW → Prop} {ls : jL} {w : jW} : Wp d 173 282 ls (st) w Q = Wp d 173 283 ls (.int (nI 1) :: st) w Q := Wp.alu e173_282 rfl rfl
theorem e173_283 : decode (j_co 173) 283 = .ok (.iadd, 1) := by decide +kernel
set_option maxRecDepth 20000 in
theorem w173_283 {d : Nat} {st : List Value} {Q : Option Value × jW → Prop} {ls : jL} {w : jW} {a b : Int32} : Wp d 173 283 ls (.int b :: .int a :: st) w Q = Wp d 173 284 ls (.int (a + b) :: st) w Q := Wp.alu e173_283 rfl rfl
theorem e173_284 : decode (j_co 173) 284 = .ok (.iaload, 1) := by decide +kernel
theorem w173_284 {d k : Nat} {ls : jL} {st : List Value} {I : fI} {L : fL} {Q : Option Value × jW → Prop} {g : List Int32} (hk : k < g.length) (h31 : k < 2147483648) : Wp d 173 284 ls (.int (nI k) :: .ref 0 :: st) (f_W (g.map Value.int) I L) Q = Wp d 173 285 ls (.int (g.getD k 0) :: st) (f_W (g.map Value.int) I L) Q := Wp.iald0 e173_284 hk h31
theorem e173_285 : decode (j_co 173) 285 = .ok (.aload_n 0, 1) := by decide +kernel
set_option maxRecDepth 20000 in
theorem w173_285 {d : Nat} {st : List Value} {Q : Option Value × jW → Prop} {w : jW} {a1 a2 a3 : Option Value} {x : Nat} : Wp d 173 285 [some (.ref x), a1, a2, a3] (st) w Q = Wp d 173 286 [some (.ref x), a1, a2, a3] (.ref x :: st) w Q := Wp.loc e173_285 rfl rfl rfl
theorem e173_286 : decode (j_co 173) 286 = .ok (.iload_n 3, 1) := by decide +kernel
set_option maxRecDepth 20000 in
theorem w173_286 {d : Nat} {st : List Value} {Q : Option Value × jW → Prop} {w : jW} {a0 a1 a2 : Option Value} {x : Int32} : Wp d 173 286 [a0, a1, a2, some (.int x)] (st) w Q = Wp d 173 287 [a0, a1, a2, some (.int x)] (.int x :: st) w Q := Wp.loc e173_286 rfl rfl rfl
theorem e173_287 : decode (j_co 173) 287 = .ok (.iconst 2, 1) := by decide +kernel
set_option maxRecDepth 20000 in
theorem w173_287 {d : Nat} {st : List Value} {Q : Option Value × jW → Prop} {ls : jL} {w : jW} : Wp d 173 287 ls (st) w Q = Wp d 173 288 ls (.int (nI 2) :: st) w Q := Wp.alu e173_287 rfl rfl
theorem e173_288 : decode (j_co 173) 288 = .ok (.iadd, 1) := by decide +kernel
set_option maxRecDepth 20000 in
theorem w173_288 {d : Nat} {st : List Value} {Q : Option Value × jW → Prop} {ls : jL} {w : jW} {a b : Int32} : Wp d 173 288 ls (.int b :: .int a :: st) w Q = Wp d 173 289 ls (.int (a + b) :: st) w Q := Wp.alu e173_288 rfl rfl
theorem e173_289 : decode (j_co 173) 289 = .ok (.iaload, 1) := by decide +kernel
theorem w173_289 {d k : Nat} {ls : jL} {st : List Value} {I : fI} {L : fL} {Q : Option Value × jW → Prop} {g : List Int32} (hk : k < g.length) (h31 : k < 2147483648) : Wp d 173 289 ls (.int (nI k) :: .ref 0 :: st) (f_W (g.map Value.int) I L) Q = Wp d 173 290 ls (.int (g.getD k 0) :: st) (f_W (g.map Value.int) I L) Q := Wp.iald0 e173_289 hk h31
theorem e173_290 : decode (j_co 173) 290 = .ok (.invokevirtual 27, 3) := by decide +kernel
set_option maxRecDepth 20000 in
theorem w173_290 {d : Nat} {st : List Value} {Q : Option Value × jW → Prop} {ls : jL} {xs : List Value} {I : fI} {L : fL} {r : Nat} {x0 : Int32} {x1 : Int32} (hs : j_sumc st ≤ 8) (ht : f_tg r = 10) : Wp (d + 1) 173 290 ls (.int x1 :: .int x0 :: .ref r :: st) (f_W xs I L) Q = Wp d 20 0 [some (.ref r), some (.int x0), some (.int x1), none] [] (f_W xs I L) (fun r1 => Wp (d + 1) 173 293 ls (r1.1.toList ++ st) r1.2 Q) := Wp.cv (y' := 20) (as := [.int x0, .int x1]) e173_290 rfl (by decide) rfl (show 3 ≤ 4 by decide) (by decide) hs ht
theorem e173_293 : decode (j_co 173) 293 = .ok (.aload_n 2, 1) := by decide +kernel
set_option maxRecDepth 20000 in
theorem w173_293 {d : Nat} {st : List Value} {Q : Option Value × jW → Prop} {w : jW} {a0 a1 a3 : Option Value} {x : Nat} : Wp d 173 293 [a0, a1, some (.ref x), a3] (st) w Q = Wp d 173 294 [a0, a1, some (.ref x), a3] (.ref x :: st) w Q := Wp.loc e173_293 rfl rfl rfl
theorem e173_294 : decode (j_co 173) 294 = .ok (.aload_n 0, 1) := by decide +kernel
set_option maxRecDepth 20000 in
theorem w173_294 {d : Nat} {st : List Value} {Q : Option Value × jW → Prop} {w : jW} {a1 a2 a3 : Option Value} {x : Nat} : Wp d 173 294 [some (.ref x), a1, a2, a3] (st) w Q = Wp d 173 295 [some (.ref x), a1, a2, a3] (.ref x :: st) w Q := Wp.loc e173_294 rfl rfl rfl
theorem e173_295 : decode (j_co 173) 295 = .ok (.iload_n 3, 1) := by decide +kernel
set_option maxRecDepth 20000 in
theorem w173_295 {d : Nat} {st : List Value} {Q : Option Value × jW → Prop} {w : jW} {a0 a1 a2 : Option Value} {x : Int32} : Wp d 173 295 [a0, a1, a2, some (.int x)] (st) w Q = Wp d 173 296 [a0, a1, a2, some (.int x)] (.int x :: st) w Q := Wp.loc e173_295 rfl rfl rfl
theorem e173_296 : decode (j_co 173) 296 = .ok (.iconst 1, 1) := by decide +kernel
set_option maxRecDepth 20000 in
theorem w173_296 {d : Nat} {st : List Value} {Q : Option Value × jW → Prop} {ls : jL} {w : jW} : Wp d 173 296 ls (st) w Q = Wp d 173 297 ls (.int (nI 1) :: st) w Q := Wp.alu e173_296 rfl rfl
theorem e173_297 : decode (j_co 173) 297 = .ok (.iadd, 1) := by decide +kernel
set_option maxRecDepth 20000 in
theorem w173_297 {d : Nat} {st : List Value} {Q : Option Value × jW → Prop} {ls : jL} {w : jW} {a b : Int32} : Wp d 173 297 ls (.int b :: .int a :: st) w Q = Wp d 173 298 ls (.int (a + b) :: st) w Q := Wp.alu e173_297 rfl rfl
theorem e173_298 : decode (j_co 173) 298 = .ok (.iaload, 1) := by decide +kernel
theorem w173_298 {d k : Nat} {ls : jL} {st : List Value} {I : fI} {L : fL} {Q : Option Value × jW → Prop} {g : List Int32} (hk : k < g.length) (h31 : k < 2147483648) : Wp d 173 298 ls (.int (nI k) :: .ref 0 :: st) (f_W (g.map Value.int) I L) Q = Wp d 173 299 ls (.int (g.getD k 0) :: st) (f_W (g.map Value.int) I L) Q := Wp.iald0 e173_298 hk h31
theorem e173_299 : decode (j_co 173) 299 = .ok (.aload_n 0, 1) := by decide +kernel
set_option maxRecDepth 20000 in
theorem w173_299 {d : Nat} {st : List Value} {Q : Option Value × jW → Prop} {w : jW} {a1 a2 a3 : Option Value} {x : Nat} : Wp d 173 299 [some (.ref x), a1, a2, a3] (st) w Q = Wp d 173 300 [some (.ref x), a1, a2, a3] (.ref x :: st) w Q := Wp.loc e173_299 rfl rfl rfl
theorem e173_300 : decode (j_co 173) 300 = .ok (.iload_n 3, 1) := by decide +kernel
set_option maxRecDepth 20000 in
theorem w173_300 {d : Nat} {st : List Value} {Q : Option Value × jW → Prop} {w : jW} {a0 a1 a2 : Option Value} {x : Int32} : Wp d 173 300 [a0, a1, a2, some (.int x)] (st) w Q = Wp d 173 301 [a0, a1, a2, some (.int x)] (.int x :: st) w Q := Wp.loc e173_300 rfl rfl rfl
theorem e173_301 : decode (j_co 173) 301 = .ok (.iconst 2, 1) := by decide +kernel
set_option maxRecDepth 20000 in
theorem w173_301 {d : Nat} {st : List Value} {Q : Option Value × jW → Prop} {ls : jL} {w : jW} : Wp d 173 301 ls (st) w Q = Wp d 173 302 ls (.int (nI 2) :: st) w Q := Wp.alu e173_301 rfl rfl
theorem e173_302 : decode (j_co 173) 302 = .ok (.iadd, 1) := by decide +kernel
set_option maxRecDepth 20000 in
theorem w173_302 {d : Nat} {st : List Value} {Q : Option Value × jW → Prop} {ls : jL} {w : jW} {a b : Int32} : Wp d 173 302 ls (.int b :: .int a :: st) w Q = Wp d 173 303 ls (.int (a + b) :: st) w Q := Wp.alu e173_302 rfl rfl
theorem e173_303 : decode (j_co 173) 303 = .ok (.iaload, 1) := by decide +kernel
theorem w173_303 {d k : Nat} {ls : jL} {st : List Value} {I : fI} {L : fL} {Q : Option Value × jW → Prop} {g : List Int32} (hk : k < g.length) (h31 : k < 2147483648) : Wp d 173 303 ls (.int (nI k) :: .ref 0 :: st) (f_W (g.map Value.int) I L) Q = Wp d 173 304 ls (.int (g.getD k 0) :: st) (f_W (g.map Value.int) I L) Q := Wp.iald0 e173_303 hk h31
theorem e173_304 : decode (j_co 173) 304 = .ok (.invokevirtual 31, 3) := by decide +kernel
set_option maxRecDepth 20000 in
theorem w173_304 {d : Nat} {st : List Value} {Q : Option Value × jW → Prop} {ls : jL} {xs : List Value} {I : fI} {L : fL} {r : Nat} {x0 : Int32} {x1 : Int32} (hs : j_sumc st ≤ 8) (ht : f_tg r = 11) : Wp (d + 1) 173 304 ls (.int x1 :: .int x0 :: .ref r :: st) (f_W xs I L) Q = Wp d 119 0 [some (.ref r), some (.int x0), some (.int x1), none] [] (f_W xs I L) (fun r1 => Wp (d + 1) 173 307 ls (r1.1.toList ++ st) r1.2 Q) := Wp.cv (y' := 119) (as := [.int x0, .int x1]) e173_304 rfl (by decide) rfl (show 3 ≤ 4 by decide) (by decide) hs ht
theorem e173_307 : decode (j_co 173) 307 = .ok (.if_icmp .eq 899, 3) := by decide +kernel
set_option maxRecDepth 20000 in
theorem w173_307 {d : Nat} {st : List Value} {Q : Option Value × jW → Prop} {ls : jL} {w : jW} {a b : Int32} : Wp d 173 307 ls (.int b :: .int a :: st) w Q = ((a = b → Wp d 173 1206 ls st w Q) ∧ (¬ a = b → Wp d 173 310 ls st w Q)) := Wp.if2 (c := a = b) (off := 899) e173_307 rfl rfl rfl rfl rfl
theorem e173_310 : decode (j_co 173) 310 = .ok (.iconst 0, 1) := by decide +kernel
set_option maxRecDepth 20000 in
theorem w173_310 {d : Nat} {st : List Value} {Q : Option Value × jW → Prop} {ls : jL} {w : jW} : Wp d 173 310 ls (st) w Q = Wp d 173 311 ls (.int (nI 0) :: st) w Q := Wp.alu e173_310 rfl rfl
theorem e173_311 : decode (j_co 173) 311 = .ok (.ireturn, 1) := by decide +kernel
set_option maxRecDepth 20000 in
theorem w173_311 {d : Nat} {Q : Option Value × jW → Prop} {ls : jL} {w : jW} {x : Int32} (hx : x = 0 ∨ x = 1) : Wp d 173 311 ls [.int x] w Q = Q (some (.int x), w) := Wp.ret e173_311 (by rcases hx with rfl | rfl <;> rfl)
theorem e173_312 : decode (j_co 173) 312 = .ok (.aload_n 1, 1) := by decide +kernel
set_option maxRecDepth 20000 in
theorem w173_312 {d : Nat} {st : List Value} {Q : Option Value × jW → Prop} {w : jW} {a0 a2 a3 : Option Value} {x : Nat} : Wp d 173 312 [a0, some (.ref x), a2, a3] (st) w Q = Wp d 173 313 [a0, some (.ref x), a2, a3] (.ref x :: st) w Q := Wp.loc e173_312 rfl rfl rfl
theorem e173_313 : decode (j_co 173) 313 = .ok (.aload_n 0, 1) := by decide +kernel
set_option maxRecDepth 20000 in
theorem w173_313 {d : Nat} {st : List Value} {Q : Option Value × jW → Prop} {w : jW} {a1 a2 a3 : Option Value} {x : Nat} : Wp d 173 313 [some (.ref x), a1, a2, a3] (st) w Q = Wp d 173 314 [some (.ref x), a1, a2, a3] (.ref x :: st) w Q := Wp.loc e173_313 rfl rfl rfl
theorem e173_314 : decode (j_co 173) 314 = .ok (.iload_n 3, 1) := by decide +kernel
set_option maxRecDepth 20000 in
theorem w173_314 {d : Nat} {st : List Value} {Q : Option Value × jW → Prop} {w : jW} {a0 a1 a2 : Option Value} {x : Int32} : Wp d 173 314 [a0, a1, a2, some (.int x)] (st) w Q = Wp d 173 315 [a0, a1, a2, some (.int x)] (.int x :: st) w Q := Wp.loc e173_314 rfl rfl rfl
theorem e173_315 : decode (j_co 173) 315 = .ok (.iconst 1, 1) := by decide +kernel
set_option maxRecDepth 20000 in
theorem w173_315 {d : Nat} {st : List Value} {Q : Option Value × jW → Prop} {ls : jL} {w : jW} : Wp d 173 315 ls (st) w Q = Wp d 173 316 ls (.int (nI 1) :: st) w Q := Wp.alu e173_315 rfl rfl
theorem e173_316 : decode (j_co 173) 316 = .ok (.iadd, 1) := by decide +kernel
set_option maxRecDepth 20000 in
theorem w173_316 {d : Nat} {st : List Value} {Q : Option Value × jW → Prop} {ls : jL} {w : jW} {a b : Int32} : Wp d 173 316 ls (.int b :: .int a :: st) w Q = Wp d 173 317 ls (.int (a + b) :: st) w Q := Wp.alu e173_316 rfl rfl
theorem e173_317 : decode (j_co 173) 317 = .ok (.iaload, 1) := by decide +kernel
theorem w173_317 {d k : Nat} {ls : jL} {st : List Value} {I : fI} {L : fL} {Q : Option Value × jW → Prop} {g : List Int32} (hk : k < g.length) (h31 : k < 2147483648) : Wp d 173 317 ls (.int (nI k) :: .ref 0 :: st) (f_W (g.map Value.int) I L) Q = Wp d 173 318 ls (.int (g.getD k 0) :: st) (f_W (g.map Value.int) I L) Q := Wp.iald0 e173_317 hk h31
theorem e173_318 : decode (j_co 173) 318 = .ok (.aload_n 0, 1) := by decide +kernel
set_option maxRecDepth 20000 in
theorem w173_318 {d : Nat} {st : List Value} {Q : Option Value × jW → Prop} {w : jW} {a1 a2 a3 : Option Value} {x : Nat} : Wp d 173 318 [some (.ref x), a1, a2, a3] (st) w Q = Wp d 173 319 [some (.ref x), a1, a2, a3] (.ref x :: st) w Q := Wp.loc e173_318 rfl rfl rfl
theorem e173_319 : decode (j_co 173) 319 = .ok (.iload_n 3, 1) := by decide +kernel
set_option maxRecDepth 20000 in
theorem w173_319 {d : Nat} {st : List Value} {Q : Option Value × jW → Prop} {w : jW} {a0 a1 a2 : Option Value} {x : Int32} : Wp d 173 319 [a0, a1, a2, some (.int x)] (st) w Q = Wp d 173 320 [a0, a1, a2, some (.int x)] (.int x :: st) w Q := Wp.loc e173_319 rfl rfl rfl
theorem e173_320 : decode (j_co 173) 320 = .ok (.iconst 2, 1) := by decide +kernel
set_option maxRecDepth 20000 in
theorem w173_320 {d : Nat} {st : List Value} {Q : Option Value × jW → Prop} {ls : jL} {w : jW} : Wp d 173 320 ls (st) w Q = Wp d 173 321 ls (.int (nI 2) :: st) w Q := Wp.alu e173_320 rfl rfl
theorem e173_321 : decode (j_co 173) 321 = .ok (.iadd, 1) := by decide +kernel
set_option maxRecDepth 20000 in
theorem w173_321 {d : Nat} {st : List Value} {Q : Option Value × jW → Prop} {ls : jL} {w : jW} {a b : Int32} : Wp d 173 321 ls (.int b :: .int a :: st) w Q = Wp d 173 322 ls (.int (a + b) :: st) w Q := Wp.alu e173_321 rfl rfl
theorem e173_322 : decode (j_co 173) 322 = .ok (.iaload, 1) := by decide +kernel
theorem w173_322 {d k : Nat} {ls : jL} {st : List Value} {I : fI} {L : fL} {Q : Option Value × jW → Prop} {g : List Int32} (hk : k < g.length) (h31 : k < 2147483648) : Wp d 173 322 ls (.int (nI k) :: .ref 0 :: st) (f_W (g.map Value.int) I L) Q = Wp d 173 323 ls (.int (g.getD k 0) :: st) (f_W (g.map Value.int) I L) Q := Wp.iald0 e173_322 hk h31
theorem e173_323 : decode (j_co 173) 323 = .ok (.aload_n 0, 1) := by decide +kernel
set_option maxRecDepth 20000 in
theorem w173_323 {d : Nat} {st : List Value} {Q : Option Value × jW → Prop} {w : jW} {a1 a2 a3 : Option Value} {x : Nat} : Wp d 173 323 [some (.ref x), a1, a2, a3] (st) w Q = Wp d 173 324 [some (.ref x), a1, a2, a3] (.ref x :: st) w Q := Wp.loc e173_323 rfl rfl rfl
theorem e173_324 : decode (j_co 173) 324 = .ok (.iload_n 3, 1) := by decide +kernel
set_option maxRecDepth 20000 in
theorem w173_324 {d : Nat} {st : List Value} {Q : Option Value × jW → Prop} {w : jW} {a0 a1 a2 : Option Value} {x : Int32} : Wp d 173 324 [a0, a1, a2, some (.int x)] (st) w Q = Wp d 173 325 [a0, a1, a2, some (.int x)] (.int x :: st) w Q := Wp.loc e173_324 rfl rfl rfl
theorem e173_325 : decode (j_co 173) 325 = .ok (.iconst 3, 1) := by decide +kernel
set_option maxRecDepth 20000 in
theorem w173_325 {d : Nat} {st : List Value} {Q : Option Value × jW → Prop} {ls : jL} {w : jW} : Wp d 173 325 ls (st) w Q = Wp d 173 326 ls (.int (nI 3) :: st) w Q := Wp.alu e173_325 rfl rfl
theorem e173_326 : decode (j_co 173) 326 = .ok (.iadd, 1) := by decide +kernel
set_option maxRecDepth 20000 in
theorem w173_326 {d : Nat} {st : List Value} {Q : Option Value × jW → Prop} {ls : jL} {w : jW} {a b : Int32} : Wp d 173 326 ls (.int b :: .int a :: st) w Q = Wp d 173 327 ls (.int (a + b) :: st) w Q := Wp.alu e173_326 rfl rfl
theorem e173_327 : decode (j_co 173) 327 = .ok (.iaload, 1) := by decide +kernel
theorem w173_327 {d k : Nat} {ls : jL} {st : List Value} {I : fI} {L : fL} {Q : Option Value × jW → Prop} {g : List Int32} (hk : k < g.length) (h31 : k < 2147483648) : Wp d 173 327 ls (.int (nI k) :: .ref 0 :: st) (f_W (g.map Value.int) I L) Q = Wp d 173 328 ls (.int (g.getD k 0) :: st) (f_W (g.map Value.int) I L) Q := Wp.iald0 e173_327 hk h31
theorem e173_328 : decode (j_co 173) 328 = .ok (.aload_n 0, 1) := by decide +kernel
set_option maxRecDepth 20000 in
theorem w173_328 {d : Nat} {st : List Value} {Q : Option Value × jW → Prop} {w : jW} {a1 a2 a3 : Option Value} {x : Nat} : Wp d 173 328 [some (.ref x), a1, a2, a3] (st) w Q = Wp d 173 329 [some (.ref x), a1, a2, a3] (.ref x :: st) w Q := Wp.loc e173_328 rfl rfl rfl
theorem e173_329 : decode (j_co 173) 329 = .ok (.iload_n 3, 1) := by decide +kernel
set_option maxRecDepth 20000 in
theorem w173_329 {d : Nat} {st : List Value} {Q : Option Value × jW → Prop} {w : jW} {a0 a1 a2 : Option Value} {x : Int32} : Wp d 173 329 [a0, a1, a2, some (.int x)] (st) w Q = Wp d 173 330 [a0, a1, a2, some (.int x)] (.int x :: st) w Q := Wp.loc e173_329 rfl rfl rfl
theorem e173_330 : decode (j_co 173) 330 = .ok (.iconst 4, 1) := by decide +kernel
set_option maxRecDepth 20000 in
theorem w173_330 {d : Nat} {st : List Value} {Q : Option Value × jW → Prop} {ls : jL} {w : jW} : Wp d 173 330 ls (st) w Q = Wp d 173 331 ls (.int (nI 4) :: st) w Q := Wp.alu e173_330 rfl rfl
theorem e173_331 : decode (j_co 173) 331 = .ok (.iadd, 1) := by decide +kernel
set_option maxRecDepth 20000 in
theorem w173_331 {d : Nat} {st : List Value} {Q : Option Value × jW → Prop} {ls : jL} {w : jW} {a b : Int32} : Wp d 173 331 ls (.int b :: .int a :: st) w Q = Wp d 173 332 ls (.int (a + b) :: st) w Q := Wp.alu e173_331 rfl rfl
theorem e173_332 : decode (j_co 173) 332 = .ok (.iaload, 1) := by decide +kernel
theorem w173_332 {d k : Nat} {ls : jL} {st : List Value} {I : fI} {L : fL} {Q : Option Value × jW → Prop} {g : List Int32} (hk : k < g.length) (h31 : k < 2147483648) : Wp d 173 332 ls (.int (nI k) :: .ref 0 :: st) (f_W (g.map Value.int) I L) Q = Wp d 173 333 ls (.int (g.getD k 0) :: st) (f_W (g.map Value.int) I L) Q := Wp.iald0 e173_332 hk h31
theorem e173_333 : decode (j_co 173) 333 = .ok (.invokevirtual 32, 3) := by decide +kernel
set_option maxRecDepth 20000 in
theorem w173_333 {d : Nat} {st : List Value} {Q : Option Value × jW → Prop} {ls : jL} {xs : List Value} {I : fI} {L : fL} {r : Nat} {x0 : Int32} {x1 : Int32} {x2 : Int32} {x3 : Int32} (hs : j_sumc st ≤ 8) (ht : f_tg r = 10) : Wp (d + 1) 173 333 ls (.int x3 :: .int x2 :: .int x1 :: .int x0 :: .ref r :: st) (f_W xs I L) Q = Wp d 21 0 [some (.ref r), some (.int x0), some (.int x1), some (.int x2), some (.int x3)] [] (f_W xs I L) (fun r1 => Wp (d + 1) 173 336 ls (r1.1.toList ++ st) r1.2 Q) := Wp.cv (y' := 21) (as := [.int x0, .int x1, .int x2, .int x3]) e173_333 rfl (by decide) rfl (show 5 ≤ 5 by decide) (by decide) hs ht
theorem e173_336 : decode (j_co 173) 336 = .ok (.aload_n 2, 1) := by decide +kernel
set_option maxRecDepth 20000 in
theorem w173_336 {d : Nat} {st : List Value} {Q : Option Value × jW → Prop} {w : jW} {a0 a1 a3 : Option Value} {x : Nat} : Wp d 173 336 [a0, a1, some (.ref x), a3] (st) w Q = Wp d 173 337 [a0, a1, some (.ref x), a3] (.ref x :: st) w Q := Wp.loc e173_336 rfl rfl rfl
theorem e173_337 : decode (j_co 173) 337 = .ok (.aload_n 0, 1) := by decide +kernel
set_option maxRecDepth 20000 in
theorem w173_337 {d : Nat} {st : List Value} {Q : Option Value × jW → Prop} {w : jW} {a1 a2 a3 : Option Value} {x : Nat} : Wp d 173 337 [some (.ref x), a1, a2, a3] (st) w Q = Wp d 173 338 [some (.ref x), a1, a2, a3] (.ref x :: st) w Q := Wp.loc e173_337 rfl rfl rfl
theorem e173_338 : decode (j_co 173) 338 = .ok (.iload_n 3, 1) := by decide +kernel
set_option maxRecDepth 20000 in
theorem w173_338 {d : Nat} {st : List Value} {Q : Option Value × jW → Prop} {w : jW} {a0 a1 a2 : Option Value} {x : Int32} : Wp d 173 338 [a0, a1, a2, some (.int x)] (st) w Q = Wp d 173 339 [a0, a1, a2, some (.int x)] (.int x :: st) w Q := Wp.loc e173_338 rfl rfl rfl
theorem e173_339 : decode (j_co 173) 339 = .ok (.iconst 1, 1) := by decide +kernel
set_option maxRecDepth 20000 in
theorem w173_339 {d : Nat} {st : List Value} {Q : Option Value × jW → Prop} {ls : jL} {w : jW} : Wp d 173 339 ls (st) w Q = Wp d 173 340 ls (.int (nI 1) :: st) w Q := Wp.alu e173_339 rfl rfl
theorem e173_340 : decode (j_co 173) 340 = .ok (.iadd, 1) := by decide +kernel
set_option maxRecDepth 20000 in
theorem w173_340 {d : Nat} {st : List Value} {Q : Option Value × jW → Prop} {ls : jL} {w : jW} {a b : Int32} : Wp d 173 340 ls (.int b :: .int a :: st) w Q = Wp d 173 341 ls (.int (a + b) :: st) w Q := Wp.alu e173_340 rfl rfl
theorem e173_341 : decode (j_co 173) 341 = .ok (.iaload, 1) := by decide +kernel
theorem w173_341 {d k : Nat} {ls : jL} {st : List Value} {I : fI} {L : fL} {Q : Option Value × jW → Prop} {g : List Int32} (hk : k < g.length) (h31 : k < 2147483648) : Wp d 173 341 ls (.int (nI k) :: .ref 0 :: st) (f_W (g.map Value.int) I L) Q = Wp d 173 342 ls (.int (g.getD k 0) :: st) (f_W (g.map Value.int) I L) Q := Wp.iald0 e173_341 hk h31
theorem e173_342 : decode (j_co 173) 342 = .ok (.aload_n 0, 1) := by decide +kernel
set_option maxRecDepth 20000 in
theorem w173_342 {d : Nat} {st : List Value} {Q : Option Value × jW → Prop} {w : jW} {a1 a2 a3 : Option Value} {x : Nat} : Wp d 173 342 [some (.ref x), a1, a2, a3] (st) w Q = Wp d 173 343 [some (.ref x), a1, a2, a3] (.ref x :: st) w Q := Wp.loc e173_342 rfl rfl rfl
theorem e173_343 : decode (j_co 173) 343 = .ok (.iload_n 3, 1) := by decide +kernel
set_option maxRecDepth 20000 in
theorem w173_343 {d : Nat} {st : List Value} {Q : Option Value × jW → Prop} {w : jW} {a0 a1 a2 : Option Value} {x : Int32} : Wp d 173 343 [a0, a1, a2, some (.int x)] (st) w Q = Wp d 173 344 [a0, a1, a2, some (.int x)] (.int x :: st) w Q := Wp.loc e173_343 rfl rfl rfl
theorem e173_344 : decode (j_co 173) 344 = .ok (.iconst 2, 1) := by decide +kernel
set_option maxRecDepth 20000 in
theorem w173_344 {d : Nat} {st : List Value} {Q : Option Value × jW → Prop} {ls : jL} {w : jW} : Wp d 173 344 ls (st) w Q = Wp d 173 345 ls (.int (nI 2) :: st) w Q := Wp.alu e173_344 rfl rfl
theorem e173_345 : decode (j_co 173) 345 = .ok (.iadd, 1) := by decide +kernel
set_option maxRecDepth 20000 in
theorem w173_345 {d : Nat} {st : List Value} {Q : Option Value × jW → Prop} {ls : jL} {w : jW} {a b : Int32} : Wp d 173 345 ls (.int b :: .int a :: st) w Q = Wp d 173 346 ls (.int (a + b) :: st) w Q := Wp.alu e173_345 rfl rfl
theorem e173_346 : decode (j_co 173) 346 = .ok (.iaload, 1) := by decide +kernel
theorem w173_346 {d k : Nat} {ls : jL} {st : List Value} {I : fI} {L : fL} {Q : Option Value × jW → Prop} {g : List Int32} (hk : k < g.length) (h31 : k < 2147483648) : Wp d 173 346 ls (.int (nI k) :: .ref 0 :: st) (f_W (g.map Value.int) I L) Q = Wp d 173 347 ls (.int (g.getD k 0) :: st) (f_W (g.map Value.int) I L) Q := Wp.iald0 e173_346 hk h31
theorem e173_347 : decode (j_co 173) 347 = .ok (.aload_n 0, 1) := by decide +kernel
set_option maxRecDepth 20000 in
theorem w173_347 {d : Nat} {st : List Value} {Q : Option Value × jW → Prop} {w : jW} {a1 a2 a3 : Option Value} {x : Nat} : Wp d 173 347 [some (.ref x), a1, a2, a3] (st) w Q = Wp d 173 348 [some (.ref x), a1, a2, a3] (.ref x :: st) w Q := Wp.loc e173_347 rfl rfl rfl
theorem e173_348 : decode (j_co 173) 348 = .ok (.iload_n 3, 1) := by decide +kernel
set_option maxRecDepth 20000 in
theorem w173_348 {d : Nat} {st : List Value} {Q : Option Value × jW → Prop} {w : jW} {a0 a1 a2 : Option Value} {x : Int32} : Wp d 173 348 [a0, a1, a2, some (.int x)] (st) w Q = Wp d 173 349 [a0, a1, a2, some (.int x)] (.int x :: st) w Q := Wp.loc e173_348 rfl rfl rfl
theorem e173_349 : decode (j_co 173) 349 = .ok (.iconst 3, 1) := by decide +kernel
set_option maxRecDepth 20000 in
theorem w173_349 {d : Nat} {st : List Value} {Q : Option Value × jW → Prop} {ls : jL} {w : jW} : Wp d 173 349 ls (st) w Q = Wp d 173 350 ls (.int (nI 3) :: st) w Q := Wp.alu e173_349 rfl rfl
theorem e173_350 : decode (j_co 173) 350 = .ok (.iadd, 1) := by decide +kernel
set_option maxRecDepth 20000 in
theorem w173_350 {d : Nat} {st : List Value} {Q : Option Value × jW → Prop} {ls : jL} {w : jW} {a b : Int32} : Wp d 173 350 ls (.int b :: .int a :: st) w Q = Wp d 173 351 ls (.int (a + b) :: st) w Q := Wp.alu e173_350 rfl rfl
theorem e173_351 : decode (j_co 173) 351 = .ok (.iaload, 1) := by decide +kernel
theorem w173_351 {d k : Nat} {ls : jL} {st : List Value} {I : fI} {L : fL} {Q : Option Value × jW → Prop} {g : List Int32} (hk : k < g.length) (h31 : k < 2147483648) : Wp d 173 351 ls (.int (nI k) :: .ref 0 :: st) (f_W (g.map Value.int) I L) Q = Wp d 173 352 ls (.int (g.getD k 0) :: st) (f_W (g.map Value.int) I L) Q := Wp.iald0 e173_351 hk h31
theorem e173_352 : decode (j_co 173) 352 = .ok (.aload_n 0, 1) := by decide +kernel
set_option maxRecDepth 20000 in
theorem w173_352 {d : Nat} {st : List Value} {Q : Option Value × jW → Prop} {w : jW} {a1 a2 a3 : Option Value} {x : Nat} : Wp d 173 352 [some (.ref x), a1, a2, a3] (st) w Q = Wp d 173 353 [some (.ref x), a1, a2, a3] (.ref x :: st) w Q := Wp.loc e173_352 rfl rfl rfl
theorem e173_353 : decode (j_co 173) 353 = .ok (.iload_n 3, 1) := by decide +kernel
set_option maxRecDepth 20000 in
theorem w173_353 {d : Nat} {st : List Value} {Q : Option Value × jW → Prop} {w : jW} {a0 a1 a2 : Option Value} {x : Int32} : Wp d 173 353 [a0, a1, a2, some (.int x)] (st) w Q = Wp d 173 354 [a0, a1, a2, some (.int x)] (.int x :: st) w Q := Wp.loc e173_353 rfl rfl rfl
theorem e173_354 : decode (j_co 173) 354 = .ok (.iconst 4, 1) := by decide +kernel
set_option maxRecDepth 20000 in
theorem w173_354 {d : Nat} {st : List Value} {Q : Option Value × jW → Prop} {ls : jL} {w : jW} : Wp d 173 354 ls (st) w Q = Wp d 173 355 ls (.int (nI 4) :: st) w Q := Wp.alu e173_354 rfl rfl
theorem e173_355 : decode (j_co 173) 355 = .ok (.iadd, 1) := by decide +kernel
set_option maxRecDepth 20000 in
theorem w173_355 {d : Nat} {st : List Value} {Q : Option Value × jW → Prop} {ls : jL} {w : jW} {a b : Int32} : Wp d 173 355 ls (.int b :: .int a :: st) w Q = Wp d 173 356 ls (.int (a + b) :: st) w Q := Wp.alu e173_355 rfl rfl
theorem e173_356 : decode (j_co 173) 356 = .ok (.iaload, 1) := by decide +kernel
theorem w173_356 {d k : Nat} {ls : jL} {st : List Value} {I : fI} {L : fL} {Q : Option Value × jW → Prop} {g : List Int32} (hk : k < g.length) (h31 : k < 2147483648) : Wp d 173 356 ls (.int (nI k) :: .ref 0 :: st) (f_W (g.map Value.int) I L) Q = Wp d 173 357 ls (.int (g.getD k 0) :: st) (f_W (g.map Value.int) I L) Q := Wp.iald0 e173_356 hk h31
theorem e173_357 : decode (j_co 173) 357 = .ok (.invokevirtual 35, 3) := by decide +kernel
set_option maxRecDepth 20000 in
theorem w173_357 {d : Nat} {st : List Value} {Q : Option Value × jW → Prop} {ls : jL} {xs : List Value} {I : fI} {L : fL} {r : Nat} {x0 : Int32} {x1 : Int32} {x2 : Int32} {x3 : Int32} (hs : j_sumc st ≤ 8) (ht : f_tg r = 11) : Wp (d + 1) 173 357 ls (.int x3 :: .int x2 :: .int x1 :: .int x0 :: .ref r :: st) (f_W xs I L) Q = Wp d 120 0 [some (.ref r), some (.int x0), some (.int x1), some (.int x2), some (.int x3)] [] (f_W xs I L) (fun r1 => Wp (d + 1) 173 360 ls (r1.1.toList ++ st) r1.2 Q) := Wp.cv (y' := 120) (as := [.int x0, .int x1, .int x2, .int x3]) e173_357 rfl (by decide) rfl (show 5 ≤ 5 by decide) (by decide) hs ht
theorem e173_360 : decode (j_co 173) 360 = .ok (.if_icmp .eq 846, 3) := by decide +kernel
set_option maxRecDepth 20000 in
theorem w173_360 {d : Nat} {st : List Value} {Q : Option Value × jW → Prop} {ls : jL} {w : jW} {a b : Int32} : Wp d 173 360 ls (.int b :: .int a :: st) w Q = ((a = b → Wp d 173 1206 ls st w Q) ∧ (¬ a = b → Wp d 173 363 ls st w Q)) := Wp.if2 (c := a = b) (off := 846) e173_360 rfl rfl rfl rfl rfl
theorem e173_363 : decode (j_co 173) 363 = .ok (.iconst 0, 1) := by decide +kernel
set_option maxRecDepth 20000 in
theorem w173_363 {d : Nat} {st : List Value} {Q : Option Value × jW → Prop} {ls : jL} {w : jW} : Wp d 173 363 ls (st) w Q = Wp d 173 364 ls (.int (nI 0) :: st) w Q := Wp.alu e173_363 rfl rfl
theorem e173_364 : decode (j_co 173) 364 = .ok (.ireturn, 1) := by decide +kernel
set_option maxRecDepth 20000 in
theorem w173_364 {d : Nat} {Q : Option Value × jW → Prop} {ls : jL} {w : jW} {x : Int32} (hx : x = 0 ∨ x = 1) : Wp d 173 364 ls [.int x] w Q = Q (some (.int x), w) := Wp.ret e173_364 (by rcases hx with rfl | rfl <;> rfl)
theorem e173_365 : decode (j_co 173) 365 = .ok (.aload_n 1, 1) := by decide +kernel
set_option maxRecDepth 20000 in
theorem w173_365 {d : Nat} {st : List Value} {Q : Option Value × jW → Prop} {w : jW} {a0 a2 a3 : Option Value} {x : Nat} : Wp d 173 365 [a0, some (.ref x), a2, a3] (st) w Q = Wp d 173 366 [a0, some (.ref x), a2, a3] (.ref x :: st) w Q := Wp.loc e173_365 rfl rfl rfl
theorem e173_366 : decode (j_co 173) 366 = .ok (.aload_n 0, 1) := by decide +kernel
set_option maxRecDepth 20000 in
theorem w173_366 {d : Nat} {st : List Value} {Q : Option Value × jW → Prop} {w : jW} {a1 a2 a3 : Option Value} {x : Nat} : Wp d 173 366 [some (.ref x), a1, a2, a3] (st) w Q = Wp d 173 367 [some (.ref x), a1, a2, a3] (.ref x :: st) w Q := Wp.loc e173_366 rfl rfl rfl
theorem e173_367 : decode (j_co 173) 367 = .ok (.iload_n 3, 1) := by decide +kernel
set_option maxRecDepth 20000 in
theorem w173_367 {d : Nat} {st : List Value} {Q : Option Value × jW → Prop} {w : jW} {a0 a1 a2 : Option Value} {x : Int32} : Wp d 173 367 [a0, a1, a2, some (.int x)] (st) w Q = Wp d 173 368 [a0, a1, a2, some (.int x)] (.int x :: st) w Q := Wp.loc e173_367 rfl rfl rfl
theorem e173_368 : decode (j_co 173) 368 = .ok (.iconst 1, 1) := by decide +kernel
set_option maxRecDepth 20000 in
theorem w173_368 {d : Nat} {st : List Value} {Q : Option Value × jW → Prop} {ls : jL} {w : jW} : Wp d 173 368 ls (st) w Q = Wp d 173 369 ls (.int (nI 1) :: st) w Q := Wp.alu e173_368 rfl rfl
theorem e173_369 : decode (j_co 173) 369 = .ok (.iadd, 1) := by decide +kernel
set_option maxRecDepth 20000 in
theorem w173_369 {d : Nat} {st : List Value} {Q : Option Value × jW → Prop} {ls : jL} {w : jW} {a b : Int32} : Wp d 173 369 ls (.int b :: .int a :: st) w Q = Wp d 173 370 ls (.int (a + b) :: st) w Q := Wp.alu e173_369 rfl rfl
theorem e173_370 : decode (j_co 173) 370 = .ok (.iaload, 1) := by decide +kernel
theorem w173_370 {d k : Nat} {ls : jL} {st : List Value} {I : fI} {L : fL} {Q : Option Value × jW → Prop} {g : List Int32} (hk : k < g.length) (h31 : k < 2147483648) : Wp d 173 370 ls (.int (nI k) :: .ref 0 :: st) (f_W (g.map Value.int) I L) Q = Wp d 173 371 ls (.int (g.getD k 0) :: st) (f_W (g.map Value.int) I L) Q := Wp.iald0 e173_370 hk h31
theorem e173_371 : decode (j_co 173) 371 = .ok (.aload_n 0, 1) := by decide +kernel
set_option maxRecDepth 20000 in
theorem w173_371 {d : Nat} {st : List Value} {Q : Option Value × jW → Prop} {w : jW} {a1 a2 a3 : Option Value} {x : Nat} : Wp d 173 371 [some (.ref x), a1, a2, a3] (st) w Q = Wp d 173 372 [some (.ref x), a1, a2, a3] (.ref x :: st) w Q := Wp.loc e173_371 rfl rfl rfl
theorem e173_372 : decode (j_co 173) 372 = .ok (.iload_n 3, 1) := by decide +kernel
set_option maxRecDepth 20000 in
theorem w173_372 {d : Nat} {st : List Value} {Q : Option Value × jW → Prop} {w : jW} {a0 a1 a2 : Option Value} {x : Int32} : Wp d 173 372 [a0, a1, a2, some (.int x)] (st) w Q = Wp d 173 373 [a0, a1, a2, some (.int x)] (.int x :: st) w Q := Wp.loc e173_372 rfl rfl rfl
theorem e173_373 : decode (j_co 173) 373 = .ok (.iconst 2, 1) := by decide +kernel
set_option maxRecDepth 20000 in
theorem w173_373 {d : Nat} {st : List Value} {Q : Option Value × jW → Prop} {ls : jL} {w : jW} : Wp d 173 373 ls (st) w Q = Wp d 173 374 ls (.int (nI 2) :: st) w Q := Wp.alu e173_373 rfl rfl
theorem e173_374 : decode (j_co 173) 374 = .ok (.iadd, 1) := by decide +kernel
set_option maxRecDepth 20000 in
theorem w173_374 {d : Nat} {st : List Value} {Q : Option Value × jW → Prop} {ls : jL} {w : jW} {a b : Int32} : Wp d 173 374 ls (.int b :: .int a :: st) w Q = Wp d 173 375 ls (.int (a + b) :: st) w Q := Wp.alu e173_374 rfl rfl
theorem e173_375 : decode (j_co 173) 375 = .ok (.iaload, 1) := by decide +kernel
theorem w173_375 {d k : Nat} {ls : jL} {st : List Value} {I : fI} {L : fL} {Q : Option Value × jW → Prop} {g : List Int32} (hk : k < g.length) (h31 : k < 2147483648) : Wp d 173 375 ls (.int (nI k) :: .ref 0 :: st) (f_W (g.map Value.int) I L) Q = Wp d 173 376 ls (.int (g.getD k 0) :: st) (f_W (g.map Value.int) I L) Q := Wp.iald0 e173_375 hk h31
theorem e173_376 : decode (j_co 173) 376 = .ok (.aload_n 0, 1) := by decide +kernel
set_option maxRecDepth 20000 in
theorem w173_376 {d : Nat} {st : List Value} {Q : Option Value × jW → Prop} {w : jW} {a1 a2 a3 : Option Value} {x : Nat} : Wp d 173 376 [some (.ref x), a1, a2, a3] (st) w Q = Wp d 173 377 [some (.ref x), a1, a2, a3] (.ref x :: st) w Q := Wp.loc e173_376 rfl rfl rfl
theorem e173_377 : decode (j_co 173) 377 = .ok (.iload_n 3, 1) := by decide +kernel
set_option maxRecDepth 20000 in
theorem w173_377 {d : Nat} {st : List Value} {Q : Option Value × jW → Prop} {w : jW} {a0 a1 a2 : Option Value} {x : Int32} : Wp d 173 377 [a0, a1, a2, some (.int x)] (st) w Q = Wp d 173 378 [a0, a1, a2, some (.int x)] (.int x :: st) w Q := Wp.loc e173_377 rfl rfl rfl
theorem e173_378 : decode (j_co 173) 378 = .ok (.iconst 3, 1) := by decide +kernel
set_option maxRecDepth 20000 in
theorem w173_378 {d : Nat} {st : List Value} {Q : Option Value × jW → Prop} {ls : jL} {w : jW} : Wp d 173 378 ls (st) w Q = Wp d 173 379 ls (.int (nI 3) :: st) w Q := Wp.alu e173_378 rfl rfl
theorem e173_379 : decode (j_co 173) 379 = .ok (.iadd, 1) := by decide +kernel
set_option maxRecDepth 20000 in
theorem w173_379 {d : Nat} {st : List Value} {Q : Option Value × jW → Prop} {ls : jL} {w : jW} {a b : Int32} : Wp d 173 379 ls (.int b :: .int a :: st) w Q = Wp d 173 380 ls (.int (a + b) :: st) w Q := Wp.alu e173_379 rfl rfl
theorem e173_380 : decode (j_co 173) 380 = .ok (.iaload, 1) := by decide +kernel
theorem w173_380 {d k : Nat} {ls : jL} {st : List Value} {I : fI} {L : fL} {Q : Option Value × jW → Prop} {g : List Int32} (hk : k < g.length) (h31 : k < 2147483648) : Wp d 173 380 ls (.int (nI k) :: .ref 0 :: st) (f_W (g.map Value.int) I L) Q = Wp d 173 381 ls (.int (g.getD k 0) :: st) (f_W (g.map Value.int) I L) Q := Wp.iald0 e173_380 hk h31
theorem e173_381 : decode (j_co 173) 381 = .ok (.ifCond .eq 7, 3) := by decide +kernel
set_option maxRecDepth 20000 in
theorem w173_381 {d : Nat} {st : List Value} {Q : Option Value × jW → Prop} {ls : jL} {w : jW} {a : Int32} : Wp d 173 381 ls (.int a :: st) w Q = ((a = nI 0 → Wp d 173 388 ls st w Q) ∧ (¬ a = nI 0 → Wp d 173 384 ls st w Q)) := Wp.if2 (c := a = nI 0) (off := 7) e173_381 rfl rfl rfl rfl rfl
theorem e173_384 : decode (j_co 173) 384 = .ok (.iconst 1, 1) := by decide +kernel
set_option maxRecDepth 20000 in
theorem w173_384 {d : Nat} {st : List Value} {Q : Option Value × jW → Prop} {ls : jL} {w : jW} : Wp d 173 384 ls (st) w Q = Wp d 173 385 ls (.int (nI 1) :: st) w Q := Wp.alu e173_384 rfl rfl
theorem e173_385 : decode (j_co 173) 385 = .ok (.goto 4, 3) := by decide +kernel
set_option maxRecDepth 20000 in
theorem w173_385 {d : Nat} {st : List Value} {Q : Option Value × jW → Prop} {ls : jL} {w : jW} : Wp d 173 385 ls (st) w Q = Wp d 173 389 ls (st) w Q := Wp.br e173_385 (Or.inl rfl) rfl rfl rfl rfl
theorem e173_388 : decode (j_co 173) 388 = .ok (.iconst 0, 1) := by decide +kernel
set_option maxRecDepth 20000 in
theorem w173_388 {d : Nat} {st : List Value} {Q : Option Value × jW → Prop} {ls : jL} {w : jW} : Wp d 173 388 ls (st) w Q = Wp d 173 389 ls (.int (nI 0) :: st) w Q := Wp.alu e173_388 rfl rfl
theorem e173_389 : decode (j_co 173) 389 = .ok (.aload_n 0, 1) := by decide +kernel
set_option maxRecDepth 20000 in
theorem w173_389 {d : Nat} {st : List Value} {Q : Option Value × jW → Prop} {w : jW} {a1 a2 a3 : Option Value} {x : Nat} : Wp d 173 389 [some (.ref x), a1, a2, a3] (st) w Q = Wp d 173 390 [some (.ref x), a1, a2, a3] (.ref x :: st) w Q := Wp.loc e173_389 rfl rfl rfl
theorem e173_390 : decode (j_co 173) 390 = .ok (.iload_n 3, 1) := by decide +kernel
set_option maxRecDepth 20000 in
theorem w173_390 {d : Nat} {st : List Value} {Q : Option Value × jW → Prop} {w : jW} {a0 a1 a2 : Option Value} {x : Int32} : Wp d 173 390 [a0, a1, a2, some (.int x)] (st) w Q = Wp d 173 391 [a0, a1, a2, some (.int x)] (.int x :: st) w Q := Wp.loc e173_390 rfl rfl rfl
theorem e173_391 : decode (j_co 173) 391 = .ok (.iconst 4, 1) := by decide +kernel
set_option maxRecDepth 20000 in
theorem w173_391 {d : Nat} {st : List Value} {Q : Option Value × jW → Prop} {ls : jL} {w : jW} : Wp d 173 391 ls (st) w Q = Wp d 173 392 ls (.int (nI 4) :: st) w Q := Wp.alu e173_391 rfl rfl
theorem e173_392 : decode (j_co 173) 392 = .ok (.iadd, 1) := by decide +kernel
set_option maxRecDepth 20000 in
theorem w173_392 {d : Nat} {st : List Value} {Q : Option Value × jW → Prop} {ls : jL} {w : jW} {a b : Int32} : Wp d 173 392 ls (.int b :: .int a :: st) w Q = Wp d 173 393 ls (.int (a + b) :: st) w Q := Wp.alu e173_392 rfl rfl
theorem e173_393 : decode (j_co 173) 393 = .ok (.iaload, 1) := by decide +kernel
theorem w173_393 {d k : Nat} {ls : jL} {st : List Value} {I : fI} {L : fL} {Q : Option Value × jW → Prop} {g : List Int32} (hk : k < g.length) (h31 : k < 2147483648) : Wp d 173 393 ls (.int (nI k) :: .ref 0 :: st) (f_W (g.map Value.int) I L) Q = Wp d 173 394 ls (.int (g.getD k 0) :: st) (f_W (g.map Value.int) I L) Q := Wp.iald0 e173_393 hk h31
theorem e173_394 : decode (j_co 173) 394 = .ok (.aload_n 0, 1) := by decide +kernel
set_option maxRecDepth 20000 in
theorem w173_394 {d : Nat} {st : List Value} {Q : Option Value × jW → Prop} {w : jW} {a1 a2 a3 : Option Value} {x : Nat} : Wp d 173 394 [some (.ref x), a1, a2, a3] (st) w Q = Wp d 173 395 [some (.ref x), a1, a2, a3] (.ref x :: st) w Q := Wp.loc e173_394 rfl rfl rfl
theorem e173_395 : decode (j_co 173) 395 = .ok (.iload_n 3, 1) := by decide +kernel
set_option maxRecDepth 20000 in
theorem w173_395 {d : Nat} {st : List Value} {Q : Option Value × jW → Prop} {w : jW} {a0 a1 a2 : Option Value} {x : Int32} : Wp d 173 395 [a0, a1, a2, some (.int x)] (st) w Q = Wp d 173 396 [a0, a1, a2, some (.int x)] (.int x :: st) w Q := Wp.loc e173_395 rfl rfl rfl
theorem e173_396 : decode (j_co 173) 396 = .ok (.iconst 5, 1) := by decide +kernel
set_option maxRecDepth 20000 in
theorem w173_396 {d : Nat} {st : List Value} {Q : Option Value × jW → Prop} {ls : jL} {w : jW} : Wp d 173 396 ls (st) w Q = Wp d 173 397 ls (.int (nI 5) :: st) w Q := Wp.alu e173_396 rfl rfl
theorem e173_397 : decode (j_co 173) 397 = .ok (.iadd, 1) := by decide +kernel
set_option maxRecDepth 20000 in
theorem w173_397 {d : Nat} {st : List Value} {Q : Option Value × jW → Prop} {ls : jL} {w : jW} {a b : Int32} : Wp d 173 397 ls (.int b :: .int a :: st) w Q = Wp d 173 398 ls (.int (a + b) :: st) w Q := Wp.alu e173_397 rfl rfl
theorem e173_398 : decode (j_co 173) 398 = .ok (.iaload, 1) := by decide +kernel
theorem w173_398 {d k : Nat} {ls : jL} {st : List Value} {I : fI} {L : fL} {Q : Option Value × jW → Prop} {g : List Int32} (hk : k < g.length) (h31 : k < 2147483648) : Wp d 173 398 ls (.int (nI k) :: .ref 0 :: st) (f_W (g.map Value.int) I L) Q = Wp d 173 399 ls (.int (g.getD k 0) :: st) (f_W (g.map Value.int) I L) Q := Wp.iald0 e173_398 hk h31
theorem e173_399 : decode (j_co 173) 399 = .ok (.invokevirtual 36, 3) := by decide +kernel
set_option maxRecDepth 20000 in
theorem w173_399 {d : Nat} {st : List Value} {Q : Option Value × jW → Prop} {ls : jL} {xs : List Value} {I : fI} {L : fL} {r : Nat} {x0 : Int32} {x1 : Int32} {x2 : Int32} {x3 : Int32} {x4 : Int32} (hs : j_sumc st ≤ 8) (ht : f_tg r = 10) : Wp (d + 1) 173 399 ls (.int x4 :: .int x3 :: .int x2 :: .int x1 :: .int x0 :: .ref r :: st) (f_W xs I L) Q = Wp d 23 0 [some (.ref r), some (.int x0), some (.int x1), some (.int x2), some (.int x3), some (.int x4), none] [] (f_W xs I L) (fun r1 => Wp (d + 1) 173 402 ls (r1.1.toList ++ st) r1.2 Q) := Wp.cv (y' := 23) (as := [.int x0, .int x1, .int x2, .int x3, .int x4]) e173_399 rfl (by decide) rfl (show 6 ≤ 7 by decide) (by decide) hs ht
theorem e173_402 : decode (j_co 173) 402 = .ok (.aload_n 2, 1) := by decide +kernel
set_option maxRecDepth 20000 in
theorem w173_402 {d : Nat} {st : List Value} {Q : Option Value × jW → Prop} {w : jW} {a0 a1 a3 : Option Value} {x : Nat} : Wp d 173 402 [a0, a1, some (.ref x), a3] (st) w Q = Wp d 173 403 [a0, a1, some (.ref x), a3] (.ref x :: st) w Q := Wp.loc e173_402 rfl rfl rfl
theorem e173_403 : decode (j_co 173) 403 = .ok (.aload_n 0, 1) := by decide +kernel
set_option maxRecDepth 20000 in
theorem w173_403 {d : Nat} {st : List Value} {Q : Option Value × jW → Prop} {w : jW} {a1 a2 a3 : Option Value} {x : Nat} : Wp d 173 403 [some (.ref x), a1, a2, a3] (st) w Q = Wp d 173 404 [some (.ref x), a1, a2, a3] (.ref x :: st) w Q := Wp.loc e173_403 rfl rfl rfl
theorem e173_404 : decode (j_co 173) 404 = .ok (.iload_n 3, 1) := by decide +kernel
set_option maxRecDepth 20000 in
theorem w173_404 {d : Nat} {st : List Value} {Q : Option Value × jW → Prop} {w : jW} {a0 a1 a2 : Option Value} {x : Int32} : Wp d 173 404 [a0, a1, a2, some (.int x)] (st) w Q = Wp d 173 405 [a0, a1, a2, some (.int x)] (.int x :: st) w Q := Wp.loc e173_404 rfl rfl rfl
theorem e173_405 : decode (j_co 173) 405 = .ok (.iconst 1, 1) := by decide +kernel
set_option maxRecDepth 20000 in
theorem w173_405 {d : Nat} {st : List Value} {Q : Option Value × jW → Prop} {ls : jL} {w : jW} : Wp d 173 405 ls (st) w Q = Wp d 173 406 ls (.int (nI 1) :: st) w Q := Wp.alu e173_405 rfl rfl
theorem e173_406 : decode (j_co 173) 406 = .ok (.iadd, 1) := by decide +kernel
set_option maxRecDepth 20000 in
theorem w173_406 {d : Nat} {st : List Value} {Q : Option Value × jW → Prop} {ls : jL} {w : jW} {a b : Int32} : Wp d 173 406 ls (.int b :: .int a :: st) w Q = Wp d 173 407 ls (.int (a + b) :: st) w Q := Wp.alu e173_406 rfl rfl
theorem e173_407 : decode (j_co 173) 407 = .ok (.iaload, 1) := by decide +kernel
theorem w173_407 {d k : Nat} {ls : jL} {st : List Value} {I : fI} {L : fL} {Q : Option Value × jW → Prop} {g : List Int32} (hk : k < g.length) (h31 : k < 2147483648) : Wp d 173 407 ls (.int (nI k) :: .ref 0 :: st) (f_W (g.map Value.int) I L) Q = Wp d 173 408 ls (.int (g.getD k 0) :: st) (f_W (g.map Value.int) I L) Q := Wp.iald0 e173_407 hk h31
theorem e173_408 : decode (j_co 173) 408 = .ok (.aload_n 0, 1) := by decide +kernel
set_option maxRecDepth 20000 in
theorem w173_408 {d : Nat} {st : List Value} {Q : Option Value × jW → Prop} {w : jW} {a1 a2 a3 : Option Value} {x : Nat} : Wp d 173 408 [some (.ref x), a1, a2, a3] (st) w Q = Wp d 173 409 [some (.ref x), a1, a2, a3] (.ref x :: st) w Q := Wp.loc e173_408 rfl rfl rfl
theorem e173_409 : decode (j_co 173) 409 = .ok (.iload_n 3, 1) := by decide +kernel
set_option maxRecDepth 20000 in
theorem w173_409 {d : Nat} {st : List Value} {Q : Option Value × jW → Prop} {w : jW} {a0 a1 a2 : Option Value} {x : Int32} : Wp d 173 409 [a0, a1, a2, some (.int x)] (st) w Q = Wp d 173 410 [a0, a1, a2, some (.int x)] (.int x :: st) w Q := Wp.loc e173_409 rfl rfl rfl
theorem e173_410 : decode (j_co 173) 410 = .ok (.iconst 2, 1) := by decide +kernel
set_option maxRecDepth 20000 in
theorem w173_410 {d : Nat} {st : List Value} {Q : Option Value × jW → Prop} {ls : jL} {w : jW} : Wp d 173 410 ls (st) w Q = Wp d 173 411 ls (.int (nI 2) :: st) w Q := Wp.alu e173_410 rfl rfl
theorem e173_411 : decode (j_co 173) 411 = .ok (.iadd, 1) := by decide +kernel
set_option maxRecDepth 20000 in
theorem w173_411 {d : Nat} {st : List Value} {Q : Option Value × jW → Prop} {ls : jL} {w : jW} {a b : Int32} : Wp d 173 411 ls (.int b :: .int a :: st) w Q = Wp d 173 412 ls (.int (a + b) :: st) w Q := Wp.alu e173_411 rfl rfl
theorem e173_412 : decode (j_co 173) 412 = .ok (.iaload, 1) := by decide +kernel
theorem w173_412 {d k : Nat} {ls : jL} {st : List Value} {I : fI} {L : fL} {Q : Option Value × jW → Prop} {g : List Int32} (hk : k < g.length) (h31 : k < 2147483648) : Wp d 173 412 ls (.int (nI k) :: .ref 0 :: st) (f_W (g.map Value.int) I L) Q = Wp d 173 413 ls (.int (g.getD k 0) :: st) (f_W (g.map Value.int) I L) Q := Wp.iald0 e173_412 hk h31
theorem e173_413 : decode (j_co 173) 413 = .ok (.aload_n 0, 1) := by decide +kernel
set_option maxRecDepth 20000 in
theorem w173_413 {d : Nat} {st : List Value} {Q : Option Value × jW → Prop} {w : jW} {a1 a2 a3 : Option Value} {x : Nat} : Wp d 173 413 [some (.ref x), a1, a2, a3] (st) w Q = Wp d 173 414 [some (.ref x), a1, a2, a3] (.ref x :: st) w Q := Wp.loc e173_413 rfl rfl rfl
theorem e173_414 : decode (j_co 173) 414 = .ok (.iload_n 3, 1) := by decide +kernel
set_option maxRecDepth 20000 in
theorem w173_414 {d : Nat} {st : List Value} {Q : Option Value × jW → Prop} {w : jW} {a0 a1 a2 : Option Value} {x : Int32} : Wp d 173 414 [a0, a1, a2, some (.int x)] (st) w Q = Wp d 173 415 [a0, a1, a2, some (.int x)] (.int x :: st) w Q := Wp.loc e173_414 rfl rfl rfl
theorem e173_415 : decode (j_co 173) 415 = .ok (.iconst 3, 1) := by decide +kernel
set_option maxRecDepth 20000 in
theorem w173_415 {d : Nat} {st : List Value} {Q : Option Value × jW → Prop} {ls : jL} {w : jW} : Wp d 173 415 ls (st) w Q = Wp d 173 416 ls (.int (nI 3) :: st) w Q := Wp.alu e173_415 rfl rfl
theorem e173_416 : decode (j_co 173) 416 = .ok (.iadd, 1) := by decide +kernel
set_option maxRecDepth 20000 in
theorem w173_416 {d : Nat} {st : List Value} {Q : Option Value × jW → Prop} {ls : jL} {w : jW} {a b : Int32} : Wp d 173 416 ls (.int b :: .int a :: st) w Q = Wp d 173 417 ls (.int (a + b) :: st) w Q := Wp.alu e173_416 rfl rfl
theorem e173_417 : decode (j_co 173) 417 = .ok (.iaload, 1) := by decide +kernel
theorem w173_417 {d k : Nat} {ls : jL} {st : List Value} {I : fI} {L : fL} {Q : Option Value × jW → Prop} {g : List Int32} (hk : k < g.length) (h31 : k < 2147483648) : Wp d 173 417 ls (.int (nI k) :: .ref 0 :: st) (f_W (g.map Value.int) I L) Q = Wp d 173 418 ls (.int (g.getD k 0) :: st) (f_W (g.map Value.int) I L) Q := Wp.iald0 e173_417 hk h31
theorem e173_418 : decode (j_co 173) 418 = .ok (.ifCond .eq 7, 3) := by decide +kernel
set_option maxRecDepth 20000 in
theorem w173_418 {d : Nat} {st : List Value} {Q : Option Value × jW → Prop} {ls : jL} {w : jW} {a : Int32} : Wp d 173 418 ls (.int a :: st) w Q = ((a = nI 0 → Wp d 173 425 ls st w Q) ∧ (¬ a = nI 0 → Wp d 173 421 ls st w Q)) := Wp.if2 (c := a = nI 0) (off := 7) e173_418 rfl rfl rfl rfl rfl
theorem e173_421 : decode (j_co 173) 421 = .ok (.iconst 1, 1) := by decide +kernel
set_option maxRecDepth 20000 in
theorem w173_421 {d : Nat} {st : List Value} {Q : Option Value × jW → Prop} {ls : jL} {w : jW} : Wp d 173 421 ls (st) w Q = Wp d 173 422 ls (.int (nI 1) :: st) w Q := Wp.alu e173_421 rfl rfl
theorem e173_422 : decode (j_co 173) 422 = .ok (.goto 4, 3) := by decide +kernel
set_option maxRecDepth 20000 in
theorem w173_422 {d : Nat} {st : List Value} {Q : Option Value × jW → Prop} {ls : jL} {w : jW} : Wp d 173 422 ls (st) w Q = Wp d 173 426 ls (st) w Q := Wp.br e173_422 (Or.inl rfl) rfl rfl rfl rfl
theorem e173_425 : decode (j_co 173) 425 = .ok (.iconst 0, 1) := by decide +kernel
set_option maxRecDepth 20000 in
theorem w173_425 {d : Nat} {st : List Value} {Q : Option Value × jW → Prop} {ls : jL} {w : jW} : Wp d 173 425 ls (st) w Q = Wp d 173 426 ls (.int (nI 0) :: st) w Q := Wp.alu e173_425 rfl rfl
theorem e173_426 : decode (j_co 173) 426 = .ok (.aload_n 0, 1) := by decide +kernel
set_option maxRecDepth 20000 in
theorem w173_426 {d : Nat} {st : List Value} {Q : Option Value × jW → Prop} {w : jW} {a1 a2 a3 : Option Value} {x : Nat} : Wp d 173 426 [some (.ref x), a1, a2, a3] (st) w Q = Wp d 173 427 [some (.ref x), a1, a2, a3] (.ref x :: st) w Q := Wp.loc e173_426 rfl rfl rfl
theorem e173_427 : decode (j_co 173) 427 = .ok (.iload_n 3, 1) := by decide +kernel
set_option maxRecDepth 20000 in
theorem w173_427 {d : Nat} {st : List Value} {Q : Option Value × jW → Prop} {w : jW} {a0 a1 a2 : Option Value} {x : Int32} : Wp d 173 427 [a0, a1, a2, some (.int x)] (st) w Q = Wp d 173 428 [a0, a1, a2, some (.int x)] (.int x :: st) w Q := Wp.loc e173_427 rfl rfl rfl
theorem e173_428 : decode (j_co 173) 428 = .ok (.iconst 4, 1) := by decide +kernel
set_option maxRecDepth 20000 in
theorem w173_428 {d : Nat} {st : List Value} {Q : Option Value × jW → Prop} {ls : jL} {w : jW} : Wp d 173 428 ls (st) w Q = Wp d 173 429 ls (.int (nI 4) :: st) w Q := Wp.alu e173_428 rfl rfl
theorem e173_429 : decode (j_co 173) 429 = .ok (.iadd, 1) := by decide +kernel
set_option maxRecDepth 20000 in
theorem w173_429 {d : Nat} {st : List Value} {Q : Option Value × jW → Prop} {ls : jL} {w : jW} {a b : Int32} : Wp d 173 429 ls (.int b :: .int a :: st) w Q = Wp d 173 430 ls (.int (a + b) :: st) w Q := Wp.alu e173_429 rfl rfl
theorem e173_430 : decode (j_co 173) 430 = .ok (.iaload, 1) := by decide +kernel
theorem w173_430 {d k : Nat} {ls : jL} {st : List Value} {I : fI} {L : fL} {Q : Option Value × jW → Prop} {g : List Int32} (hk : k < g.length) (h31 : k < 2147483648) : Wp d 173 430 ls (.int (nI k) :: .ref 0 :: st) (f_W (g.map Value.int) I L) Q = Wp d 173 431 ls (.int (g.getD k 0) :: st) (f_W (g.map Value.int) I L) Q := Wp.iald0 e173_430 hk h31
theorem e173_431 : decode (j_co 173) 431 = .ok (.aload_n 0, 1) := by decide +kernel
set_option maxRecDepth 20000 in
theorem w173_431 {d : Nat} {st : List Value} {Q : Option Value × jW → Prop} {w : jW} {a1 a2 a3 : Option Value} {x : Nat} : Wp d 173 431 [some (.ref x), a1, a2, a3] (st) w Q = Wp d 173 432 [some (.ref x), a1, a2, a3] (.ref x :: st) w Q := Wp.loc e173_431 rfl rfl rfl
theorem e173_432 : decode (j_co 173) 432 = .ok (.iload_n 3, 1) := by decide +kernel
set_option maxRecDepth 20000 in
theorem w173_432 {d : Nat} {st : List Value} {Q : Option Value × jW → Prop} {w : jW} {a0 a1 a2 : Option Value} {x : Int32} : Wp d 173 432 [a0, a1, a2, some (.int x)] (st) w Q = Wp d 173 433 [a0, a1, a2, some (.int x)] (.int x :: st) w Q := Wp.loc e173_432 rfl rfl rfl
theorem e173_433 : decode (j_co 173) 433 = .ok (.iconst 5, 1) := by decide +kernel
set_option maxRecDepth 20000 in
theorem w173_433 {d : Nat} {st : List Value} {Q : Option Value × jW → Prop} {ls : jL} {w : jW} : Wp d 173 433 ls (st) w Q = Wp d 173 434 ls (.int (nI 5) :: st) w Q := Wp.alu e173_433 rfl rfl
theorem e173_434 : decode (j_co 173) 434 = .ok (.iadd, 1) := by decide +kernel
set_option maxRecDepth 20000 in
theorem w173_434 {d : Nat} {st : List Value} {Q : Option Value × jW → Prop} {ls : jL} {w : jW} {a b : Int32} : Wp d 173 434 ls (.int b :: .int a :: st) w Q = Wp d 173 435 ls (.int (a + b) :: st) w Q := Wp.alu e173_434 rfl rfl
theorem e173_435 : decode (j_co 173) 435 = .ok (.iaload, 1) := by decide +kernel
theorem w173_435 {d k : Nat} {ls : jL} {st : List Value} {I : fI} {L : fL} {Q : Option Value × jW → Prop} {g : List Int32} (hk : k < g.length) (h31 : k < 2147483648) : Wp d 173 435 ls (.int (nI k) :: .ref 0 :: st) (f_W (g.map Value.int) I L) Q = Wp d 173 436 ls (.int (g.getD k 0) :: st) (f_W (g.map Value.int) I L) Q := Wp.iald0 e173_435 hk h31
theorem e173_436 : decode (j_co 173) 436 = .ok (.invokevirtual 40, 3) := by decide +kernel
set_option maxRecDepth 20000 in
theorem w173_436 {d : Nat} {st : List Value} {Q : Option Value × jW → Prop} {ls : jL} {xs : List Value} {I : fI} {L : fL} {r : Nat} {x0 : Int32} {x1 : Int32} {x2 : Int32} {x3 : Int32} {x4 : Int32} (hs : j_sumc st ≤ 8) (ht : f_tg r = 11) : Wp (d + 1) 173 436 ls (.int x4 :: .int x3 :: .int x2 :: .int x1 :: .int x0 :: .ref r :: st) (f_W xs I L) Q = Wp d 122 0 [some (.ref r), some (.int x0), some (.int x1), some (.int x2), some (.int x3), some (.int x4)] [] (f_W xs I L) (fun r1 => Wp (d + 1) 173 439 ls (r1.1.toList ++ st) r1.2 Q) := Wp.cv (y' := 122) (as := [.int x0, .int x1, .int x2, .int x3, .int x4]) e173_436 rfl (by decide) rfl (show 6 ≤ 6 by decide) (by decide) hs ht
theorem e173_439 : decode (j_co 173) 439 = .ok (.if_icmp .eq 767, 3) := by decide +kernel
set_option maxRecDepth 20000 in
theorem w173_439 {d : Nat} {st : List Value} {Q : Option Value × jW → Prop} {ls : jL} {w : jW} {a b : Int32} : Wp d 173 439 ls (.int b :: .int a :: st) w Q = ((a = b → Wp d 173 1206 ls st w Q) ∧ (¬ a = b → Wp d 173 442 ls st w Q)) := Wp.if2 (c := a = b) (off := 767) e173_439 rfl rfl rfl rfl rfl
theorem e173_442 : decode (j_co 173) 442 = .ok (.iconst 0, 1) := by decide +kernel
set_option maxRecDepth 20000 in
theorem w173_442 {d : Nat} {st : List Value} {Q : Option Value × jW → Prop} {ls : jL} {w : jW} : Wp d 173 442 ls (st) w Q = Wp d 173 443 ls (.int (nI 0) :: st) w Q := Wp.alu e173_442 rfl rfl
theorem e173_443 : decode (j_co 173) 443 = .ok (.ireturn, 1) := by decide +kernel
set_option maxRecDepth 20000 in
theorem w173_443 {d : Nat} {Q : Option Value × jW → Prop} {ls : jL} {w : jW} {x : Int32} (hx : x = 0 ∨ x = 1) : Wp d 173 443 ls [.int x] w Q = Q (some (.int x), w) := Wp.ret e173_443 (by rcases hx with rfl | rfl <;> rfl)
theorem e173_444 : decode (j_co 173) 444 = .ok (.aload_n 1, 1) := by decide +kernel
set_option maxRecDepth 20000 in
theorem w173_444 {d : Nat} {st : List Value} {Q : Option Value × jW → Prop} {w : jW} {a0 a2 a3 : Option Value} {x : Nat} : Wp d 173 444 [a0, some (.ref x), a2, a3] (st) w Q = Wp d 173 445 [a0, some (.ref x), a2, a3] (.ref x :: st) w Q := Wp.loc e173_444 rfl rfl rfl
theorem e173_445 : decode (j_co 173) 445 = .ok (.aload_n 0, 1) := by decide +kernel
set_option maxRecDepth 20000 in
theorem w173_445 {d : Nat} {st : List Value} {Q : Option Value × jW → Prop} {w : jW} {a1 a2 a3 : Option Value} {x : Nat} : Wp d 173 445 [some (.ref x), a1, a2, a3] (st) w Q = Wp d 173 446 [some (.ref x), a1, a2, a3] (.ref x :: st) w Q := Wp.loc e173_445 rfl rfl rfl
theorem e173_446 : decode (j_co 173) 446 = .ok (.iload_n 3, 1) := by decide +kernel
set_option maxRecDepth 20000 in
theorem w173_446 {d : Nat} {st : List Value} {Q : Option Value × jW → Prop} {w : jW} {a0 a1 a2 : Option Value} {x : Int32} : Wp d 173 446 [a0, a1, a2, some (.int x)] (st) w Q = Wp d 173 447 [a0, a1, a2, some (.int x)] (.int x :: st) w Q := Wp.loc e173_446 rfl rfl rfl
theorem e173_447 : decode (j_co 173) 447 = .ok (.iconst 1, 1) := by decide +kernel
set_option maxRecDepth 20000 in
theorem w173_447 {d : Nat} {st : List Value} {Q : Option Value × jW → Prop} {ls : jL} {w : jW} : Wp d 173 447 ls (st) w Q = Wp d 173 448 ls (.int (nI 1) :: st) w Q := Wp.alu e173_447 rfl rfl
theorem e173_448 : decode (j_co 173) 448 = .ok (.iadd, 1) := by decide +kernel
set_option maxRecDepth 20000 in
theorem w173_448 {d : Nat} {st : List Value} {Q : Option Value × jW → Prop} {ls : jL} {w : jW} {a b : Int32} : Wp d 173 448 ls (.int b :: .int a :: st) w Q = Wp d 173 449 ls (.int (a + b) :: st) w Q := Wp.alu e173_448 rfl rfl
theorem e173_449 : decode (j_co 173) 449 = .ok (.iaload, 1) := by decide +kernel
theorem w173_449 {d k : Nat} {ls : jL} {st : List Value} {I : fI} {L : fL} {Q : Option Value × jW → Prop} {g : List Int32} (hk : k < g.length) (h31 : k < 2147483648) : Wp d 173 449 ls (.int (nI k) :: .ref 0 :: st) (f_W (g.map Value.int) I L) Q = Wp d 173 450 ls (.int (g.getD k 0) :: st) (f_W (g.map Value.int) I L) Q := Wp.iald0 e173_449 hk h31
theorem e173_450 : decode (j_co 173) 450 = .ok (.invokevirtual 41, 3) := by decide +kernel
set_option maxRecDepth 20000 in
theorem w173_450 {d : Nat} {st : List Value} {Q : Option Value × jW → Prop} {ls : jL} {xs : List Value} {I : fI} {L : fL} {r : Nat} {x0 : Int32} (hs : j_sumc st ≤ 8) (ht : f_tg r = 10) : Wp (d + 1) 173 450 ls (.int x0 :: .ref r :: st) (f_W xs I L) Q = Wp d 24 0 [some (.ref r), some (.int x0), none] [] (f_W xs I L) (fun r1 => Wp (d + 1) 173 453 ls (r1.1.toList ++ st) r1.2 Q) := Wp.cv (y' := 24) (as := [.int x0]) e173_450 rfl (by decide) rfl (show 2 ≤ 3 by decide) (by decide) hs ht
theorem e173_453 : decode (j_co 173) 453 = .ok (.aload_n 2, 1) := by decide +kernel
set_option maxRecDepth 20000 in
theorem w173_453 {d : Nat} {st : List Value} {Q : Option Value × jW → Prop} {w : jW} {a0 a1 a3 : Option Value} {x : Nat} : Wp d 173 453 [a0, a1, some (.ref x), a3] (st) w Q = Wp d 173 454 [a0, a1, some (.ref x), a3] (.ref x :: st) w Q := Wp.loc e173_453 rfl rfl rfl
theorem e173_454 : decode (j_co 173) 454 = .ok (.aload_n 0, 1) := by decide +kernel
set_option maxRecDepth 20000 in
theorem w173_454 {d : Nat} {st : List Value} {Q : Option Value × jW → Prop} {w : jW} {a1 a2 a3 : Option Value} {x : Nat} : Wp d 173 454 [some (.ref x), a1, a2, a3] (st) w Q = Wp d 173 455 [some (.ref x), a1, a2, a3] (.ref x :: st) w Q := Wp.loc e173_454 rfl rfl rfl
theorem e173_455 : decode (j_co 173) 455 = .ok (.iload_n 3, 1) := by decide +kernel
set_option maxRecDepth 20000 in
theorem w173_455 {d : Nat} {st : List Value} {Q : Option Value × jW → Prop} {w : jW} {a0 a1 a2 : Option Value} {x : Int32} : Wp d 173 455 [a0, a1, a2, some (.int x)] (st) w Q = Wp d 173 456 [a0, a1, a2, some (.int x)] (.int x :: st) w Q := Wp.loc e173_455 rfl rfl rfl
theorem e173_456 : decode (j_co 173) 456 = .ok (.iconst 1, 1) := by decide +kernel
set_option maxRecDepth 20000 in
theorem w173_456 {d : Nat} {st : List Value} {Q : Option Value × jW → Prop} {ls : jL} {w : jW} : Wp d 173 456 ls (st) w Q = Wp d 173 457 ls (.int (nI 1) :: st) w Q := Wp.alu e173_456 rfl rfl
theorem e173_457 : decode (j_co 173) 457 = .ok (.iadd, 1) := by decide +kernel
set_option maxRecDepth 20000 in
theorem w173_457 {d : Nat} {st : List Value} {Q : Option Value × jW → Prop} {ls : jL} {w : jW} {a b : Int32} : Wp d 173 457 ls (.int b :: .int a :: st) w Q = Wp d 173 458 ls (.int (a + b) :: st) w Q := Wp.alu e173_457 rfl rfl
theorem e173_458 : decode (j_co 173) 458 = .ok (.iaload, 1) := by decide +kernel
theorem w173_458 {d k : Nat} {ls : jL} {st : List Value} {I : fI} {L : fL} {Q : Option Value × jW → Prop} {g : List Int32} (hk : k < g.length) (h31 : k < 2147483648) : Wp d 173 458 ls (.int (nI k) :: .ref 0 :: st) (f_W (g.map Value.int) I L) Q = Wp d 173 459 ls (.int (g.getD k 0) :: st) (f_W (g.map Value.int) I L) Q := Wp.iald0 e173_458 hk h31
theorem e173_459 : decode (j_co 173) 459 = .ok (.invokevirtual 45, 3) := by decide +kernel
set_option maxRecDepth 20000 in
theorem w173_459 {d : Nat} {st : List Value} {Q : Option Value × jW → Prop} {ls : jL} {xs : List Value} {I : fI} {L : fL} {r : Nat} {x0 : Int32} (hs : j_sumc st ≤ 8) (ht : f_tg r = 11) : Wp (d + 1) 173 459 ls (.int x0 :: .ref r :: st) (f_W xs I L) Q = Wp d 123 0 [some (.ref r), some (.int x0), none] [] (f_W xs I L) (fun r1 => Wp (d + 1) 173 462 ls (r1.1.toList ++ st) r1.2 Q) := Wp.cv (y' := 123) (as := [.int x0]) e173_459 rfl (by decide) rfl (show 2 ≤ 3 by decide) (by decide) hs ht
theorem e173_462 : decode (j_co 173) 462 = .ok (.if_icmp .eq 744, 3) := by decide +kernel
set_option maxRecDepth 20000 in
theorem w173_462 {d : Nat} {st : List Value} {Q : Option Value × jW → Prop} {ls : jL} {w : jW} {a b : Int32} : Wp d 173 462 ls (.int b :: .int a :: st) w Q = ((a = b → Wp d 173 1206 ls st w Q) ∧ (¬ a = b → Wp d 173 465 ls st w Q)) := Wp.if2 (c := a = b) (off := 744) e173_462 rfl rfl rfl rfl rfl
theorem e173_465 : decode (j_co 173) 465 = .ok (.iconst 0, 1) := by decide +kernel
set_option maxRecDepth 20000 in
theorem w173_465 {d : Nat} {st : List Value} {Q : Option Value × jW → Prop} {ls : jL} {w : jW} : Wp d 173 465 ls (st) w Q = Wp d 173 466 ls (.int (nI 0) :: st) w Q := Wp.alu e173_465 rfl rfl
theorem e173_466 : decode (j_co 173) 466 = .ok (.ireturn, 1) := by decide +kernel
set_option maxRecDepth 20000 in
theorem w173_466 {d : Nat} {Q : Option Value × jW → Prop} {ls : jL} {w : jW} {x : Int32} (hx : x = 0 ∨ x = 1) : Wp d 173 466 ls [.int x] w Q = Q (some (.int x), w) := Wp.ret e173_466 (by rcases hx with rfl | rfl <;> rfl)
theorem e173_467 : decode (j_co 173) 467 = .ok (.aload_n 1, 1) := by decide +kernel
set_option maxRecDepth 20000 in
theorem w173_467 {d : Nat} {st : List Value} {Q : Option Value × jW → Prop} {w : jW} {a0 a2 a3 : Option Value} {x : Nat} : Wp d 173 467 [a0, some (.ref x), a2, a3] (st) w Q = Wp d 173 468 [a0, some (.ref x), a2, a3] (.ref x :: st) w Q := Wp.loc e173_467 rfl rfl rfl
theorem e173_468 : decode (j_co 173) 468 = .ok (.aload_n 0, 1) := by decide +kernel
set_option maxRecDepth 20000 in
theorem w173_468 {d : Nat} {st : List Value} {Q : Option Value × jW → Prop} {w : jW} {a1 a2 a3 : Option Value} {x : Nat} : Wp d 173 468 [some (.ref x), a1, a2, a3] (st) w Q = Wp d 173 469 [some (.ref x), a1, a2, a3] (.ref x :: st) w Q := Wp.loc e173_468 rfl rfl rfl
theorem e173_469 : decode (j_co 173) 469 = .ok (.iload_n 3, 1) := by decide +kernel
set_option maxRecDepth 20000 in
theorem w173_469 {d : Nat} {st : List Value} {Q : Option Value × jW → Prop} {w : jW} {a0 a1 a2 : Option Value} {x : Int32} : Wp d 173 469 [a0, a1, a2, some (.int x)] (st) w Q = Wp d 173 470 [a0, a1, a2, some (.int x)] (.int x :: st) w Q := Wp.loc e173_469 rfl rfl rfl
theorem e173_470 : decode (j_co 173) 470 = .ok (.iconst 1, 1) := by decide +kernel
set_option maxRecDepth 20000 in
theorem w173_470 {d : Nat} {st : List Value} {Q : Option Value × jW → Prop} {ls : jL} {w : jW} : Wp d 173 470 ls (st) w Q = Wp d 173 471 ls (.int (nI 1) :: st) w Q := Wp.alu e173_470 rfl rfl
theorem e173_471 : decode (j_co 173) 471 = .ok (.iadd, 1) := by decide +kernel
set_option maxRecDepth 20000 in
theorem w173_471 {d : Nat} {st : List Value} {Q : Option Value × jW → Prop} {ls : jL} {w : jW} {a b : Int32} : Wp d 173 471 ls (.int b :: .int a :: st) w Q = Wp d 173 472 ls (.int (a + b) :: st) w Q := Wp.alu e173_471 rfl rfl
theorem e173_472 : decode (j_co 173) 472 = .ok (.iaload, 1) := by decide +kernel
theorem w173_472 {d k : Nat} {ls : jL} {st : List Value} {I : fI} {L : fL} {Q : Option Value × jW → Prop} {g : List Int32} (hk : k < g.length) (h31 : k < 2147483648) : Wp d 173 472 ls (.int (nI k) :: .ref 0 :: st) (f_W (g.map Value.int) I L) Q = Wp d 173 473 ls (.int (g.getD k 0) :: st) (f_W (g.map Value.int) I L) Q := Wp.iald0 e173_472 hk h31
theorem e173_473 : decode (j_co 173) 473 = .ok (.aload_n 0, 1) := by decide +kernel
set_option maxRecDepth 20000 in
theorem w173_473 {d : Nat} {st : List Value} {Q : Option Value × jW → Prop} {w : jW} {a1 a2 a3 : Option Value} {x : Nat} : Wp d 173 473 [some (.ref x), a1, a2, a3] (st) w Q = Wp d 173 474 [some (.ref x), a1, a2, a3] (.ref x :: st) w Q := Wp.loc e173_473 rfl rfl rfl
theorem e173_474 : decode (j_co 173) 474 = .ok (.iload_n 3, 1) := by decide +kernel
set_option maxRecDepth 20000 in
theorem w173_474 {d : Nat} {st : List Value} {Q : Option Value × jW → Prop} {w : jW} {a0 a1 a2 : Option Value} {x : Int32} : Wp d 173 474 [a0, a1, a2, some (.int x)] (st) w Q = Wp d 173 475 [a0, a1, a2, some (.int x)] (.int x :: st) w Q := Wp.loc e173_474 rfl rfl rfl
theorem e173_475 : decode (j_co 173) 475 = .ok (.iconst 2, 1) := by decide +kernel
set_option maxRecDepth 20000 in
theorem w173_475 {d : Nat} {st : List Value} {Q : Option Value × jW → Prop} {ls : jL} {w : jW} : Wp d 173 475 ls (st) w Q = Wp d 173 476 ls (.int (nI 2) :: st) w Q := Wp.alu e173_475 rfl rfl
theorem e173_476 : decode (j_co 173) 476 = .ok (.iadd, 1) := by decide +kernel
set_option maxRecDepth 20000 in
theorem w173_476 {d : Nat} {st : List Value} {Q : Option Value × jW → Prop} {ls : jL} {w : jW} {a b : Int32} : Wp d 173 476 ls (.int b :: .int a :: st) w Q = Wp d 173 477 ls (.int (a + b) :: st) w Q := Wp.alu e173_476 rfl rfl
theorem e173_477 : decode (j_co 173) 477 = .ok (.iaload, 1) := by decide +kernel
theorem w173_477 {d k : Nat} {ls : jL} {st : List Value} {I : fI} {L : fL} {Q : Option Value × jW → Prop} {g : List Int32} (hk : k < g.length) (h31 : k < 2147483648) : Wp d 173 477 ls (.int (nI k) :: .ref 0 :: st) (f_W (g.map Value.int) I L) Q = Wp d 173 478 ls (.int (g.getD k 0) :: st) (f_W (g.map Value.int) I L) Q := Wp.iald0 e173_477 hk h31
theorem e173_478 : decode (j_co 173) 478 = .ok (.aload_n 0, 1) := by decide +kernel
set_option maxRecDepth 20000 in
theorem w173_478 {d : Nat} {st : List Value} {Q : Option Value × jW → Prop} {w : jW} {a1 a2 a3 : Option Value} {x : Nat} : Wp d 173 478 [some (.ref x), a1, a2, a3] (st) w Q = Wp d 173 479 [some (.ref x), a1, a2, a3] (.ref x :: st) w Q := Wp.loc e173_478 rfl rfl rfl
theorem e173_479 : decode (j_co 173) 479 = .ok (.iload_n 3, 1) := by decide +kernel
set_option maxRecDepth 20000 in
theorem w173_479 {d : Nat} {st : List Value} {Q : Option Value × jW → Prop} {w : jW} {a0 a1 a2 : Option Value} {x : Int32} : Wp d 173 479 [a0, a1, a2, some (.int x)] (st) w Q = Wp d 173 480 [a0, a1, a2, some (.int x)] (.int x :: st) w Q := Wp.loc e173_479 rfl rfl rfl
theorem e173_480 : decode (j_co 173) 480 = .ok (.iconst 3, 1) := by decide +kernel
set_option maxRecDepth 20000 in
theorem w173_480 {d : Nat} {st : List Value} {Q : Option Value × jW → Prop} {ls : jL} {w : jW} : Wp d 173 480 ls (st) w Q = Wp d 173 481 ls (.int (nI 3) :: st) w Q := Wp.alu e173_480 rfl rfl
theorem e173_481 : decode (j_co 173) 481 = .ok (.iadd, 1) := by decide +kernel
set_option maxRecDepth 20000 in
theorem w173_481 {d : Nat} {st : List Value} {Q : Option Value × jW → Prop} {ls : jL} {w : jW} {a b : Int32} : Wp d 173 481 ls (.int b :: .int a :: st) w Q = Wp d 173 482 ls (.int (a + b) :: st) w Q := Wp.alu e173_481 rfl rfl
theorem e173_482 : decode (j_co 173) 482 = .ok (.iaload, 1) := by decide +kernel
theorem w173_482 {d k : Nat} {ls : jL} {st : List Value} {I : fI} {L : fL} {Q : Option Value × jW → Prop} {g : List Int32} (hk : k < g.length) (h31 : k < 2147483648) : Wp d 173 482 ls (.int (nI k) :: .ref 0 :: st) (f_W (g.map Value.int) I L) Q = Wp d 173 483 ls (.int (g.getD k 0) :: st) (f_W (g.map Value.int) I L) Q := Wp.iald0 e173_482 hk h31
theorem e173_483 : decode (j_co 173) 483 = .ok (.aload_n 0, 1) := by decide +kernel
set_option maxRecDepth 20000 in
theorem w173_483 {d : Nat} {st : List Value} {Q : Option Value × jW → Prop} {w : jW} {a1 a2 a3 : Option Value} {x : Nat} : Wp d 173 483 [some (.ref x), a1, a2, a3] (st) w Q = Wp d 173 484 [some (.ref x), a1, a2, a3] (.ref x :: st) w Q := Wp.loc e173_483 rfl rfl rfl
theorem e173_484 : decode (j_co 173) 484 = .ok (.iload_n 3, 1) := by decide +kernel
set_option maxRecDepth 20000 in
theorem w173_484 {d : Nat} {st : List Value} {Q : Option Value × jW → Prop} {w : jW} {a0 a1 a2 : Option Value} {x : Int32} : Wp d 173 484 [a0, a1, a2, some (.int x)] (st) w Q = Wp d 173 485 [a0, a1, a2, some (.int x)] (.int x :: st) w Q := Wp.loc e173_484 rfl rfl rfl
theorem e173_485 : decode (j_co 173) 485 = .ok (.iconst 4, 1) := by decide +kernel
set_option maxRecDepth 20000 in
theorem w173_485 {d : Nat} {st : List Value} {Q : Option Value × jW → Prop} {ls : jL} {w : jW} : Wp d 173 485 ls (st) w Q = Wp d 173 486 ls (.int (nI 4) :: st) w Q := Wp.alu e173_485 rfl rfl
theorem e173_486 : decode (j_co 173) 486 = .ok (.iadd, 1) := by decide +kernel
set_option maxRecDepth 20000 in
theorem w173_486 {d : Nat} {st : List Value} {Q : Option Value × jW → Prop} {ls : jL} {w : jW} {a b : Int32} : Wp d 173 486 ls (.int b :: .int a :: st) w Q = Wp d 173 487 ls (.int (a + b) :: st) w Q := Wp.alu e173_486 rfl rfl
theorem e173_487 : decode (j_co 173) 487 = .ok (.iaload, 1) := by decide +kernel
theorem w173_487 {d k : Nat} {ls : jL} {st : List Value} {I : fI} {L : fL} {Q : Option Value × jW → Prop} {g : List Int32} (hk : k < g.length) (h31 : k < 2147483648) : Wp d 173 487 ls (.int (nI k) :: .ref 0 :: st) (f_W (g.map Value.int) I L) Q = Wp d 173 488 ls (.int (g.getD k 0) :: st) (f_W (g.map Value.int) I L) Q := Wp.iald0 e173_487 hk h31
theorem e173_488 : decode (j_co 173) 488 = .ok (.invokevirtual 46, 3) := by decide +kernel
set_option maxRecDepth 20000 in
theorem w173_488 {d : Nat} {st : List Value} {Q : Option Value × jW → Prop} {ls : jL} {xs : List Value} {I : fI} {L : fL} {r : Nat} {x0 : Int32} {x1 : Int32} {x2 : Int32} {x3 : Int32} (hs : j_sumc st ≤ 8) (ht : f_tg r = 10) : Wp (d + 1) 173 488 ls (.int x3 :: .int x2 :: .int x1 :: .int x0 :: .ref r :: st) (f_W xs I L) Q = Wp d 25 0 [some (.ref r), some (.int x0), some (.int x1), some (.int x2), some (.int x3)] [] (f_W xs I L) (fun r1 => Wp (d + 1) 173 491 ls (r1.1.toList ++ st) r1.2 Q) := Wp.cv (y' := 25) (as := [.int x0, .int x1, .int x2, .int x3]) e173_488 rfl (by decide) rfl (show 5 ≤ 5 by decide) (by decide) hs ht
theorem e173_491 : decode (j_co 173) 491 = .ok (.aload_n 2, 1) := by decide +kernel
set_option maxRecDepth 20000 in
theorem w173_491 {d : Nat} {st : List Value} {Q : Option Value × jW → Prop} {w : jW} {a0 a1 a3 : Option Value} {x : Nat} : Wp d 173 491 [a0, a1, some (.ref x), a3] (st) w Q = Wp d 173 492 [a0, a1, some (.ref x), a3] (.ref x :: st) w Q := Wp.loc e173_491 rfl rfl rfl
theorem e173_492 : decode (j_co 173) 492 = .ok (.aload_n 0, 1) := by decide +kernel
set_option maxRecDepth 20000 in
theorem w173_492 {d : Nat} {st : List Value} {Q : Option Value × jW → Prop} {w : jW} {a1 a2 a3 : Option Value} {x : Nat} : Wp d 173 492 [some (.ref x), a1, a2, a3] (st) w Q = Wp d 173 493 [some (.ref x), a1, a2, a3] (.ref x :: st) w Q := Wp.loc e173_492 rfl rfl rfl
theorem e173_493 : decode (j_co 173) 493 = .ok (.iload_n 3, 1) := by decide +kernel
set_option maxRecDepth 20000 in
theorem w173_493 {d : Nat} {st : List Value} {Q : Option Value × jW → Prop} {w : jW} {a0 a1 a2 : Option Value} {x : Int32} : Wp d 173 493 [a0, a1, a2, some (.int x)] (st) w Q = Wp d 173 494 [a0, a1, a2, some (.int x)] (.int x :: st) w Q := Wp.loc e173_493 rfl rfl rfl
theorem e173_494 : decode (j_co 173) 494 = .ok (.iconst 1, 1) := by decide +kernel
set_option maxRecDepth 20000 in
theorem w173_494 {d : Nat} {st : List Value} {Q : Option Value × jW → Prop} {ls : jL} {w : jW} : Wp d 173 494 ls (st) w Q = Wp d 173 495 ls (.int (nI 1) :: st) w Q := Wp.alu e173_494 rfl rfl
theorem e173_495 : decode (j_co 173) 495 = .ok (.iadd, 1) := by decide +kernel
set_option maxRecDepth 20000 in
theorem w173_495 {d : Nat} {st : List Value} {Q : Option Value × jW → Prop} {ls : jL} {w : jW} {a b : Int32} : Wp d 173 495 ls (.int b :: .int a :: st) w Q = Wp d 173 496 ls (.int (a + b) :: st) w Q := Wp.alu e173_495 rfl rfl
theorem e173_496 : decode (j_co 173) 496 = .ok (.iaload, 1) := by decide +kernel
theorem w173_496 {d k : Nat} {ls : jL} {st : List Value} {I : fI} {L : fL} {Q : Option Value × jW → Prop} {g : List Int32} (hk : k < g.length) (h31 : k < 2147483648) : Wp d 173 496 ls (.int (nI k) :: .ref 0 :: st) (f_W (g.map Value.int) I L) Q = Wp d 173 497 ls (.int (g.getD k 0) :: st) (f_W (g.map Value.int) I L) Q := Wp.iald0 e173_496 hk h31
theorem e173_497 : decode (j_co 173) 497 = .ok (.aload_n 0, 1) := by decide +kernel
set_option maxRecDepth 20000 in
theorem w173_497 {d : Nat} {st : List Value} {Q : Option Value × jW → Prop} {w : jW} {a1 a2 a3 : Option Value} {x : Nat} : Wp d 173 497 [some (.ref x), a1, a2, a3] (st) w Q = Wp d 173 498 [some (.ref x), a1, a2, a3] (.ref x :: st) w Q := Wp.loc e173_497 rfl rfl rfl
theorem e173_498 : decode (j_co 173) 498 = .ok (.iload_n 3, 1) := by decide +kernel
set_option maxRecDepth 20000 in
theorem w173_498 {d : Nat} {st : List Value} {Q : Option Value × jW → Prop} {w : jW} {a0 a1 a2 : Option Value} {x : Int32} : Wp d 173 498 [a0, a1, a2, some (.int x)] (st) w Q = Wp d 173 499 [a0, a1, a2, some (.int x)] (.int x :: st) w Q := Wp.loc e173_498 rfl rfl rfl
theorem e173_499 : decode (j_co 173) 499 = .ok (.iconst 2, 1) := by decide +kernel
set_option maxRecDepth 20000 in
theorem w173_499 {d : Nat} {st : List Value} {Q : Option Value × jW → Prop} {ls : jL} {w : jW} : Wp d 173 499 ls (st) w Q = Wp d 173 500 ls (.int (nI 2) :: st) w Q := Wp.alu e173_499 rfl rfl
theorem e173_500 : decode (j_co 173) 500 = .ok (.iadd, 1) := by decide +kernel
set_option maxRecDepth 20000 in
theorem w173_500 {d : Nat} {st : List Value} {Q : Option Value × jW → Prop} {ls : jL} {w : jW} {a b : Int32} : Wp d 173 500 ls (.int b :: .int a :: st) w Q = Wp d 173 501 ls (.int (a + b) :: st) w Q := Wp.alu e173_500 rfl rfl
theorem e173_501 : decode (j_co 173) 501 = .ok (.iaload, 1) := by decide +kernel
theorem w173_501 {d k : Nat} {ls : jL} {st : List Value} {I : fI} {L : fL} {Q : Option Value × jW → Prop} {g : List Int32} (hk : k < g.length) (h31 : k < 2147483648) : Wp d 173 501 ls (.int (nI k) :: .ref 0 :: st) (f_W (g.map Value.int) I L) Q = Wp d 173 502 ls (.int (g.getD k 0) :: st) (f_W (g.map Value.int) I L) Q := Wp.iald0 e173_501 hk h31
theorem e173_502 : decode (j_co 173) 502 = .ok (.aload_n 0, 1) := by decide +kernel
set_option maxRecDepth 20000 in
theorem w173_502 {d : Nat} {st : List Value} {Q : Option Value × jW → Prop} {w : jW} {a1 a2 a3 : Option Value} {x : Nat} : Wp d 173 502 [some (.ref x), a1, a2, a3] (st) w Q = Wp d 173 503 [some (.ref x), a1, a2, a3] (.ref x :: st) w Q := Wp.loc e173_502 rfl rfl rfl
theorem e173_503 : decode (j_co 173) 503 = .ok (.iload_n 3, 1) := by decide +kernel
set_option maxRecDepth 20000 in
theorem w173_503 {d : Nat} {st : List Value} {Q : Option Value × jW → Prop} {w : jW} {a0 a1 a2 : Option Value} {x : Int32} : Wp d 173 503 [a0, a1, a2, some (.int x)] (st) w Q = Wp d 173 504 [a0, a1, a2, some (.int x)] (.int x :: st) w Q := Wp.loc e173_503 rfl rfl rfl
theorem e173_504 : decode (j_co 173) 504 = .ok (.iconst 3, 1) := by decide +kernel
set_option maxRecDepth 20000 in
theorem w173_504 {d : Nat} {st : List Value} {Q : Option Value × jW → Prop} {ls : jL} {w : jW} : Wp d 173 504 ls (st) w Q = Wp d 173 505 ls (.int (nI 3) :: st) w Q := Wp.alu e173_504 rfl rfl
theorem e173_505 : decode (j_co 173) 505 = .ok (.iadd, 1) := by decide +kernel
set_option maxRecDepth 20000 in
theorem w173_505 {d : Nat} {st : List Value} {Q : Option Value × jW → Prop} {ls : jL} {w : jW} {a b : Int32} : Wp d 173 505 ls (.int b :: .int a :: st) w Q = Wp d 173 506 ls (.int (a + b) :: st) w Q := Wp.alu e173_505 rfl rfl
theorem e173_506 : decode (j_co 173) 506 = .ok (.iaload, 1) := by decide +kernel
theorem w173_506 {d k : Nat} {ls : jL} {st : List Value} {I : fI} {L : fL} {Q : Option Value × jW → Prop} {g : List Int32} (hk : k < g.length) (h31 : k < 2147483648) : Wp d 173 506 ls (.int (nI k) :: .ref 0 :: st) (f_W (g.map Value.int) I L) Q = Wp d 173 507 ls (.int (g.getD k 0) :: st) (f_W (g.map Value.int) I L) Q := Wp.iald0 e173_506 hk h31
theorem e173_507 : decode (j_co 173) 507 = .ok (.aload_n 0, 1) := by decide +kernel
set_option maxRecDepth 20000 in
theorem w173_507 {d : Nat} {st : List Value} {Q : Option Value × jW → Prop} {w : jW} {a1 a2 a3 : Option Value} {x : Nat} : Wp d 173 507 [some (.ref x), a1, a2, a3] (st) w Q = Wp d 173 508 [some (.ref x), a1, a2, a3] (.ref x :: st) w Q := Wp.loc e173_507 rfl rfl rfl
theorem e173_508 : decode (j_co 173) 508 = .ok (.iload_n 3, 1) := by decide +kernel
set_option maxRecDepth 20000 in
theorem w173_508 {d : Nat} {st : List Value} {Q : Option Value × jW → Prop} {w : jW} {a0 a1 a2 : Option Value} {x : Int32} : Wp d 173 508 [a0, a1, a2, some (.int x)] (st) w Q = Wp d 173 509 [a0, a1, a2, some (.int x)] (.int x :: st) w Q := Wp.loc e173_508 rfl rfl rfl
theorem e173_509 : decode (j_co 173) 509 = .ok (.iconst 4, 1) := by decide +kernel
set_option maxRecDepth 20000 in
theorem w173_509 {d : Nat} {st : List Value} {Q : Option Value × jW → Prop} {ls : jL} {w : jW} : Wp d 173 509 ls (st) w Q = Wp d 173 510 ls (.int (nI 4) :: st) w Q := Wp.alu e173_509 rfl rfl
theorem e173_510 : decode (j_co 173) 510 = .ok (.iadd, 1) := by decide +kernel
set_option maxRecDepth 20000 in
theorem w173_510 {d : Nat} {st : List Value} {Q : Option Value × jW → Prop} {ls : jL} {w : jW} {a b : Int32} : Wp d 173 510 ls (.int b :: .int a :: st) w Q = Wp d 173 511 ls (.int (a + b) :: st) w Q := Wp.alu e173_510 rfl rfl
theorem e173_511 : decode (j_co 173) 511 = .ok (.iaload, 1) := by decide +kernel
theorem w173_511 {d k : Nat} {ls : jL} {st : List Value} {I : fI} {L : fL} {Q : Option Value × jW → Prop} {g : List Int32} (hk : k < g.length) (h31 : k < 2147483648) : Wp d 173 511 ls (.int (nI k) :: .ref 0 :: st) (f_W (g.map Value.int) I L) Q = Wp d 173 512 ls (.int (g.getD k 0) :: st) (f_W (g.map Value.int) I L) Q := Wp.iald0 e173_511 hk h31
theorem e173_512 : decode (j_co 173) 512 = .ok (.invokevirtual 49, 3) := by decide +kernel
set_option maxRecDepth 20000 in
theorem w173_512 {d : Nat} {st : List Value} {Q : Option Value × jW → Prop} {ls : jL} {xs : List Value} {I : fI} {L : fL} {r : Nat} {x0 : Int32} {x1 : Int32} {x2 : Int32} {x3 : Int32} (hs : j_sumc st ≤ 8) (ht : f_tg r = 11) : Wp (d + 1) 173 512 ls (.int x3 :: .int x2 :: .int x1 :: .int x0 :: .ref r :: st) (f_W xs I L) Q = Wp d 124 0 [some (.ref r), some (.int x0), some (.int x1), some (.int x2), some (.int x3)] [] (f_W xs I L) (fun r1 => Wp (d + 1) 173 515 ls (r1.1.toList ++ st) r1.2 Q) := Wp.cv (y' := 124) (as := [.int x0, .int x1, .int x2, .int x3]) e173_512 rfl (by decide) rfl (show 5 ≤ 5 by decide) (by decide) hs ht
theorem e173_515 : decode (j_co 173) 515 = .ok (.if_icmp .eq 691, 3) := by decide +kernel
set_option maxRecDepth 20000 in
theorem w173_515 {d : Nat} {st : List Value} {Q : Option Value × jW → Prop} {ls : jL} {w : jW} {a b : Int32} : Wp d 173 515 ls (.int b :: .int a :: st) w Q = ((a = b → Wp d 173 1206 ls st w Q) ∧ (¬ a = b → Wp d 173 518 ls st w Q)) := Wp.if2 (c := a = b) (off := 691) e173_515 rfl rfl rfl rfl rfl
theorem e173_518 : decode (j_co 173) 518 = .ok (.iconst 0, 1) := by decide +kernel
set_option maxRecDepth 20000 in
theorem w173_518 {d : Nat} {st : List Value} {Q : Option Value × jW → Prop} {ls : jL} {w : jW} : Wp d 173 518 ls (st) w Q = Wp d 173 519 ls (.int (nI 0) :: st) w Q := Wp.alu e173_518 rfl rfl
theorem e173_519 : decode (j_co 173) 519 = .ok (.ireturn, 1) := by decide +kernel
set_option maxRecDepth 20000 in
theorem w173_519 {d : Nat} {Q : Option Value × jW → Prop} {ls : jL} {w : jW} {x : Int32} (hx : x = 0 ∨ x = 1) : Wp d 173 519 ls [.int x] w Q = Q (some (.int x), w) := Wp.ret e173_519 (by rcases hx with rfl | rfl <;> rfl)
theorem e173_520 : decode (j_co 173) 520 = .ok (.aload_n 1, 1) := by decide +kernel
set_option maxRecDepth 20000 in
theorem w173_520 {d : Nat} {st : List Value} {Q : Option Value × jW → Prop} {w : jW} {a0 a2 a3 : Option Value} {x : Nat} : Wp d 173 520 [a0, some (.ref x), a2, a3] (st) w Q = Wp d 173 521 [a0, some (.ref x), a2, a3] (.ref x :: st) w Q := Wp.loc e173_520 rfl rfl rfl
theorem e173_521 : decode (j_co 173) 521 = .ok (.aload_n 0, 1) := by decide +kernel
set_option maxRecDepth 20000 in
theorem w173_521 {d : Nat} {st : List Value} {Q : Option Value × jW → Prop} {w : jW} {a1 a2 a3 : Option Value} {x : Nat} : Wp d 173 521 [some (.ref x), a1, a2, a3] (st) w Q = Wp d 173 522 [some (.ref x), a1, a2, a3] (.ref x :: st) w Q := Wp.loc e173_521 rfl rfl rfl
theorem e173_522 : decode (j_co 173) 522 = .ok (.iload_n 3, 1) := by decide +kernel
set_option maxRecDepth 20000 in
theorem w173_522 {d : Nat} {st : List Value} {Q : Option Value × jW → Prop} {w : jW} {a0 a1 a2 : Option Value} {x : Int32} : Wp d 173 522 [a0, a1, a2, some (.int x)] (st) w Q = Wp d 173 523 [a0, a1, a2, some (.int x)] (.int x :: st) w Q := Wp.loc e173_522 rfl rfl rfl
theorem e173_523 : decode (j_co 173) 523 = .ok (.iconst 1, 1) := by decide +kernel
set_option maxRecDepth 20000 in
theorem w173_523 {d : Nat} {st : List Value} {Q : Option Value × jW → Prop} {ls : jL} {w : jW} : Wp d 173 523 ls (st) w Q = Wp d 173 524 ls (.int (nI 1) :: st) w Q := Wp.alu e173_523 rfl rfl
theorem e173_524 : decode (j_co 173) 524 = .ok (.iadd, 1) := by decide +kernel
set_option maxRecDepth 20000 in
theorem w173_524 {d : Nat} {st : List Value} {Q : Option Value × jW → Prop} {ls : jL} {w : jW} {a b : Int32} : Wp d 173 524 ls (.int b :: .int a :: st) w Q = Wp d 173 525 ls (.int (a + b) :: st) w Q := Wp.alu e173_524 rfl rfl
theorem e173_525 : decode (j_co 173) 525 = .ok (.iaload, 1) := by decide +kernel
theorem w173_525 {d k : Nat} {ls : jL} {st : List Value} {I : fI} {L : fL} {Q : Option Value × jW → Prop} {g : List Int32} (hk : k < g.length) (h31 : k < 2147483648) : Wp d 173 525 ls (.int (nI k) :: .ref 0 :: st) (f_W (g.map Value.int) I L) Q = Wp d 173 526 ls (.int (g.getD k 0) :: st) (f_W (g.map Value.int) I L) Q := Wp.iald0 e173_525 hk h31
theorem e173_526 : decode (j_co 173) 526 = .ok (.invokevirtual 50, 3) := by decide +kernel
set_option maxRecDepth 20000 in
theorem w173_526 {d : Nat} {st : List Value} {Q : Option Value × jW → Prop} {ls : jL} {xs : List Value} {I : fI} {L : fL} {r : Nat} {x0 : Int32} (hs : j_sumc st ≤ 8) (ht : f_tg r = 10) : Wp (d + 1) 173 526 ls (.int x0 :: .ref r :: st) (f_W xs I L) Q = Wp d 26 0 [some (.ref r), some (.int x0), none] [] (f_W xs I L) (fun r1 => Wp (d + 1) 173 529 ls (r1.1.toList ++ st) r1.2 Q) := Wp.cv (y' := 26) (as := [.int x0]) e173_526 rfl (by decide) rfl (show 2 ≤ 3 by decide) (by decide) hs ht
theorem e173_529 : decode (j_co 173) 529 = .ok (.aload_n 2, 1) := by decide +kernel
set_option maxRecDepth 20000 in
theorem w173_529 {d : Nat} {st : List Value} {Q : Option Value × jW → Prop} {w : jW} {a0 a1 a3 : Option Value} {x : Nat} : Wp d 173 529 [a0, a1, some (.ref x), a3] (st) w Q = Wp d 173 530 [a0, a1, some (.ref x), a3] (.ref x :: st) w Q := Wp.loc e173_529 rfl rfl rfl
theorem e173_530 : decode (j_co 173) 530 = .ok (.aload_n 0, 1) := by decide +kernel
set_option maxRecDepth 20000 in
theorem w173_530 {d : Nat} {st : List Value} {Q : Option Value × jW → Prop} {w : jW} {a1 a2 a3 : Option Value} {x : Nat} : Wp d 173 530 [some (.ref x), a1, a2, a3] (st) w Q = Wp d 173 531 [some (.ref x), a1, a2, a3] (.ref x :: st) w Q := Wp.loc e173_530 rfl rfl rfl
theorem e173_531 : decode (j_co 173) 531 = .ok (.iload_n 3, 1) := by decide +kernel
set_option maxRecDepth 20000 in
theorem w173_531 {d : Nat} {st : List Value} {Q : Option Value × jW → Prop} {w : jW} {a0 a1 a2 : Option Value} {x : Int32} : Wp d 173 531 [a0, a1, a2, some (.int x)] (st) w Q = Wp d 173 532 [a0, a1, a2, some (.int x)] (.int x :: st) w Q := Wp.loc e173_531 rfl rfl rfl
theorem e173_532 : decode (j_co 173) 532 = .ok (.iconst 1, 1) := by decide +kernel
set_option maxRecDepth 20000 in
theorem w173_532 {d : Nat} {st : List Value} {Q : Option Value × jW → Prop} {ls : jL} {w : jW} : Wp d 173 532 ls (st) w Q = Wp d 173 533 ls (.int (nI 1) :: st) w Q := Wp.alu e173_532 rfl rfl
theorem e173_533 : decode (j_co 173) 533 = .ok (.iadd, 1) := by decide +kernel
set_option maxRecDepth 20000 in
theorem w173_533 {d : Nat} {st : List Value} {Q : Option Value × jW → Prop} {ls : jL} {w : jW} {a b : Int32} : Wp d 173 533 ls (.int b :: .int a :: st) w Q = Wp d 173 534 ls (.int (a + b) :: st) w Q := Wp.alu e173_533 rfl rfl
theorem e173_534 : decode (j_co 173) 534 = .ok (.iaload, 1) := by decide +kernel
theorem w173_534 {d k : Nat} {ls : jL} {st : List Value} {I : fI} {L : fL} {Q : Option Value × jW → Prop} {g : List Int32} (hk : k < g.length) (h31 : k < 2147483648) : Wp d 173 534 ls (.int (nI k) :: .ref 0 :: st) (f_W (g.map Value.int) I L) Q = Wp d 173 535 ls (.int (g.getD k 0) :: st) (f_W (g.map Value.int) I L) Q := Wp.iald0 e173_534 hk h31
theorem e173_535 : decode (j_co 173) 535 = .ok (.invokevirtual 53, 3) := by decide +kernel
set_option maxRecDepth 20000 in
theorem w173_535 {d : Nat} {st : List Value} {Q : Option Value × jW → Prop} {ls : jL} {xs : List Value} {I : fI} {L : fL} {r : Nat} {x0 : Int32} (hs : j_sumc st ≤ 8) (ht : f_tg r = 11) : Wp (d + 1) 173 535 ls (.int x0 :: .ref r :: st) (f_W xs I L) Q = Wp d 125 0 [some (.ref r), some (.int x0), none] [] (f_W xs I L) (fun r1 => Wp (d + 1) 173 538 ls (r1.1.toList ++ st) r1.2 Q) := Wp.cv (y' := 125) (as := [.int x0]) e173_535 rfl (by decide) rfl (show 2 ≤ 3 by decide) (by decide) hs ht
theorem e173_538 : decode (j_co 173) 538 = .ok (.if_icmp .eq 668, 3) := by decide +kernel
set_option maxRecDepth 20000 in
theorem w173_538 {d : Nat} {st : List Value} {Q : Option Value × jW → Prop} {ls : jL} {w : jW} {a b : Int32} : Wp d 173 538 ls (.int b :: .int a :: st) w Q = ((a = b → Wp d 173 1206 ls st w Q) ∧ (¬ a = b → Wp d 173 541 ls st w Q)) := Wp.if2 (c := a = b) (off := 668) e173_538 rfl rfl rfl rfl rfl
theorem e173_541 : decode (j_co 173) 541 = .ok (.iconst 0, 1) := by decide +kernel
set_option maxRecDepth 20000 in
theorem w173_541 {d : Nat} {st : List Value} {Q : Option Value × jW → Prop} {ls : jL} {w : jW} : Wp d 173 541 ls (st) w Q = Wp d 173 542 ls (.int (nI 0) :: st) w Q := Wp.alu e173_541 rfl rfl
theorem e173_542 : decode (j_co 173) 542 = .ok (.ireturn, 1) := by decide +kernel
set_option maxRecDepth 20000 in
theorem w173_542 {d : Nat} {Q : Option Value × jW → Prop} {ls : jL} {w : jW} {x : Int32} (hx : x = 0 ∨ x = 1) : Wp d 173 542 ls [.int x] w Q = Q (some (.int x), w) := Wp.ret e173_542 (by rcases hx with rfl | rfl <;> rfl)
theorem e173_543 : decode (j_co 173) 543 = .ok (.aload_n 1, 1) := by decide +kernel
set_option maxRecDepth 20000 in
theorem w173_543 {d : Nat} {st : List Value} {Q : Option Value × jW → Prop} {w : jW} {a0 a2 a3 : Option Value} {x : Nat} : Wp d 173 543 [a0, some (.ref x), a2, a3] (st) w Q = Wp d 173 544 [a0, some (.ref x), a2, a3] (.ref x :: st) w Q := Wp.loc e173_543 rfl rfl rfl
theorem e173_544 : decode (j_co 173) 544 = .ok (.aload_n 0, 1) := by decide +kernel
set_option maxRecDepth 20000 in
theorem w173_544 {d : Nat} {st : List Value} {Q : Option Value × jW → Prop} {w : jW} {a1 a2 a3 : Option Value} {x : Nat} : Wp d 173 544 [some (.ref x), a1, a2, a3] (st) w Q = Wp d 173 545 [some (.ref x), a1, a2, a3] (.ref x :: st) w Q := Wp.loc e173_544 rfl rfl rfl
theorem e173_545 : decode (j_co 173) 545 = .ok (.iload_n 3, 1) := by decide +kernel
set_option maxRecDepth 20000 in
theorem w173_545 {d : Nat} {st : List Value} {Q : Option Value × jW → Prop} {w : jW} {a0 a1 a2 : Option Value} {x : Int32} : Wp d 173 545 [a0, a1, a2, some (.int x)] (st) w Q = Wp d 173 546 [a0, a1, a2, some (.int x)] (.int x :: st) w Q := Wp.loc e173_545 rfl rfl rfl
theorem e173_546 : decode (j_co 173) 546 = .ok (.iconst 1, 1) := by decide +kernel
set_option maxRecDepth 20000 in
theorem w173_546 {d : Nat} {st : List Value} {Q : Option Value × jW → Prop} {ls : jL} {w : jW} : Wp d 173 546 ls (st) w Q = Wp d 173 547 ls (.int (nI 1) :: st) w Q := Wp.alu e173_546 rfl rfl
theorem e173_547 : decode (j_co 173) 547 = .ok (.iadd, 1) := by decide +kernel
set_option maxRecDepth 20000 in
theorem w173_547 {d : Nat} {st : List Value} {Q : Option Value × jW → Prop} {ls : jL} {w : jW} {a b : Int32} : Wp d 173 547 ls (.int b :: .int a :: st) w Q = Wp d 173 548 ls (.int (a + b) :: st) w Q := Wp.alu e173_547 rfl rfl
theorem e173_548 : decode (j_co 173) 548 = .ok (.iaload, 1) := by decide +kernel
theorem w173_548 {d k : Nat} {ls : jL} {st : List Value} {I : fI} {L : fL} {Q : Option Value × jW → Prop} {g : List Int32} (hk : k < g.length) (h31 : k < 2147483648) : Wp d 173 548 ls (.int (nI k) :: .ref 0 :: st) (f_W (g.map Value.int) I L) Q = Wp d 173 549 ls (.int (g.getD k 0) :: st) (f_W (g.map Value.int) I L) Q := Wp.iald0 e173_548 hk h31
theorem e173_549 : decode (j_co 173) 549 = .ok (.invokevirtual 54, 3) := by decide +kernel
set_option maxRecDepth 20000 in
theorem w173_549 {d : Nat} {st : List Value} {Q : Option Value × jW → Prop} {ls : jL} {xs : List Value} {I : fI} {L : fL} {r : Nat} {x0 : Int32} (hs : j_sumc st ≤ 8) (ht : f_tg r = 10) : Wp (d + 1) 173 549 ls (.int x0 :: .ref r :: st) (f_W xs I L) Q = Wp d 27 0 [some (.ref r), some (.int x0), none] [] (f_W xs I L) (fun r1 => Wp (d + 1) 173 552 ls (r1.1.toList ++ st) r1.2 Q) := Wp.cv (y' := 27) (as := [.int x0]) e173_549 rfl (by decide) rfl (show 2 ≤ 3 by decide) (by decide) hs ht
theorem e173_552 : decode (j_co 173) 552 = .ok (.aload_n 2, 1) := by decide +kernel
set_option maxRecDepth 20000 in
theorem w173_552 {d : Nat} {st : List Value} {Q : Option Value × jW → Prop} {w : jW} {a0 a1 a3 : Option Value} {x : Nat} : Wp d 173 552 [a0, a1, some (.ref x), a3] (st) w Q = Wp d 173 553 [a0, a1, some (.ref x), a3] (.ref x :: st) w Q := Wp.loc e173_552 rfl rfl rfl
theorem e173_553 : decode (j_co 173) 553 = .ok (.aload_n 0, 1) := by decide +kernel
set_option maxRecDepth 20000 in
theorem w173_553 {d : Nat} {st : List Value} {Q : Option Value × jW → Prop} {w : jW} {a1 a2 a3 : Option Value} {x : Nat} : Wp d 173 553 [some (.ref x), a1, a2, a3] (st) w Q = Wp d 173 554 [some (.ref x), a1, a2, a3] (.ref x :: st) w Q := Wp.loc e173_553 rfl rfl rfl
theorem e173_554 : decode (j_co 173) 554 = .ok (.iload_n 3, 1) := by decide +kernel
set_option maxRecDepth 20000 in
theorem w173_554 {d : Nat} {st : List Value} {Q : Option Value × jW → Prop} {w : jW} {a0 a1 a2 : Option Value} {x : Int32} : Wp d 173 554 [a0, a1, a2, some (.int x)] (st) w Q = Wp d 173 555 [a0, a1, a2, some (.int x)] (.int x :: st) w Q := Wp.loc e173_554 rfl rfl rfl
theorem e173_555 : decode (j_co 173) 555 = .ok (.iconst 1, 1) := by decide +kernel
set_option maxRecDepth 20000 in
theorem w173_555 {d : Nat} {st : List Value} {Q : Option Value × jW → Prop} {ls : jL} {w : jW} : Wp d 173 555 ls (st) w Q = Wp d 173 556 ls (.int (nI 1) :: st) w Q := Wp.alu e173_555 rfl rfl
theorem e173_556 : decode (j_co 173) 556 = .ok (.iadd, 1) := by decide +kernel
set_option maxRecDepth 20000 in
theorem w173_556 {d : Nat} {st : List Value} {Q : Option Value × jW → Prop} {ls : jL} {w : jW} {a b : Int32} : Wp d 173 556 ls (.int b :: .int a :: st) w Q = Wp d 173 557 ls (.int (a + b) :: st) w Q := Wp.alu e173_556 rfl rfl
theorem e173_557 : decode (j_co 173) 557 = .ok (.iaload, 1) := by decide +kernel
theorem w173_557 {d k : Nat} {ls : jL} {st : List Value} {I : fI} {L : fL} {Q : Option Value × jW → Prop} {g : List Int32} (hk : k < g.length) (h31 : k < 2147483648) : Wp d 173 557 ls (.int (nI k) :: .ref 0 :: st) (f_W (g.map Value.int) I L) Q = Wp d 173 558 ls (.int (g.getD k 0) :: st) (f_W (g.map Value.int) I L) Q := Wp.iald0 e173_557 hk h31
theorem e173_558 : decode (j_co 173) 558 = .ok (.invokevirtual 57, 3) := by decide +kernel
set_option maxRecDepth 20000 in
theorem w173_558 {d : Nat} {st : List Value} {Q : Option Value × jW → Prop} {ls : jL} {xs : List Value} {I : fI} {L : fL} {r : Nat} {x0 : Int32} (hs : j_sumc st ≤ 8) (ht : f_tg r = 11) : Wp (d + 1) 173 558 ls (.int x0 :: .ref r :: st) (f_W xs I L) Q = Wp d 126 0 [some (.ref r), some (.int x0), none] [] (f_W xs I L) (fun r1 => Wp (d + 1) 173 561 ls (r1.1.toList ++ st) r1.2 Q) := Wp.cv (y' := 126) (as := [.int x0]) e173_558 rfl (by decide) rfl (show 2 ≤ 3 by decide) (by decide) hs ht
theorem e173_561 : decode (j_co 173) 561 = .ok (.if_icmp .eq 645, 3) := by decide +kernel
set_option maxRecDepth 20000 in
theorem w173_561 {d : Nat} {st : List Value} {Q : Option Value × jW → Prop} {ls : jL} {w : jW} {a b : Int32} : Wp d 173 561 ls (.int b :: .int a :: st) w Q = ((a = b → Wp d 173 1206 ls st w Q) ∧ (¬ a = b → Wp d 173 564 ls st w Q)) := Wp.if2 (c := a = b) (off := 645) e173_561 rfl rfl rfl rfl rfl
theorem e173_564 : decode (j_co 173) 564 = .ok (.iconst 0, 1) := by decide +kernel
set_option maxRecDepth 20000 in
theorem w173_564 {d : Nat} {st : List Value} {Q : Option Value × jW → Prop} {ls : jL} {w : jW} : Wp d 173 564 ls (st) w Q = Wp d 173 565 ls (.int (nI 0) :: st) w Q := Wp.alu e173_564 rfl rfl
theorem e173_565 : decode (j_co 173) 565 = .ok (.ireturn, 1) := by decide +kernel
set_option maxRecDepth 20000 in
theorem w173_565 {d : Nat} {Q : Option Value × jW → Prop} {ls : jL} {w : jW} {x : Int32} (hx : x = 0 ∨ x = 1) : Wp d 173 565 ls [.int x] w Q = Q (some (.int x), w) := Wp.ret e173_565 (by rcases hx with rfl | rfl <;> rfl)
theorem e173_566 : decode (j_co 173) 566 = .ok (.aload_n 1, 1) := by decide +kernel
set_option maxRecDepth 20000 in
theorem w173_566 {d : Nat} {st : List Value} {Q : Option Value × jW → Prop} {w : jW} {a0 a2 a3 : Option Value} {x : Nat} : Wp d 173 566 [a0, some (.ref x), a2, a3] (st) w Q = Wp d 173 567 [a0, some (.ref x), a2, a3] (.ref x :: st) w Q := Wp.loc e173_566 rfl rfl rfl
theorem e173_567 : decode (j_co 173) 567 = .ok (.invokevirtual 58, 3) := by decide +kernel
set_option maxRecDepth 20000 in
theorem w173_567 {d : Nat} {st : List Value} {Q : Option Value × jW → Prop} {ls : jL} {xs : List Value} {I : fI} {L : fL} {r : Nat} (hs : j_sumc st ≤ 8) (ht : f_tg r = 10) : Wp (d + 1) 173 567 ls (.ref r :: st) (f_W xs I L) Q = Wp d 28 0 [some (.ref r)] [] (f_W xs I L) (fun r1 => Wp (d + 1) 173 570 ls (r1.1.toList ++ st) r1.2 Q) := Wp.cv (y' := 28) (as := []) e173_567 rfl (by decide) rfl (show 1 ≤ 1 by decide) (by decide) hs ht
theorem e173_570 : decode (j_co 173) 570 = .ok (.aload_n 2, 1) := by decide +kernel
set_option maxRecDepth 20000 in
theorem w173_570 {d : Nat} {st : List Value} {Q : Option Value × jW → Prop} {w : jW} {a0 a1 a3 : Option Value} {x : Nat} : Wp d 173 570 [a0, a1, some (.ref x), a3] (st) w Q = Wp d 173 571 [a0, a1, some (.ref x), a3] (.ref x :: st) w Q := Wp.loc e173_570 rfl rfl rfl
theorem e173_571 : decode (j_co 173) 571 = .ok (.invokevirtual 61, 3) := by decide +kernel
set_option maxRecDepth 20000 in
theorem w173_571 {d : Nat} {st : List Value} {Q : Option Value × jW → Prop} {ls : jL} {xs : List Value} {I : fI} {L : fL} {r : Nat} (hs : j_sumc st ≤ 8) (ht : f_tg r = 11) : Wp (d + 1) 173 571 ls (.ref r :: st) (f_W xs I L) Q = Wp d 127 0 [some (.ref r)] [] (f_W xs I L) (fun r1 => Wp (d + 1) 173 574 ls (r1.1.toList ++ st) r1.2 Q) := Wp.cv (y' := 127) (as := []) e173_571 rfl (by decide) rfl (show 1 ≤ 1 by decide) (by decide) hs ht
theorem e173_574 : decode (j_co 173) 574 = .ok (.if_icmp .eq 632, 3) := by decide +kernel
set_option maxRecDepth 20000 in
theorem w173_574 {d : Nat} {st : List Value} {Q : Option Value × jW → Prop} {ls : jL} {w : jW} {a b : Int32} : Wp d 173 574 ls (.int b :: .int a :: st) w Q = ((a = b → Wp d 173 1206 ls st w Q) ∧ (¬ a = b → Wp d 173 577 ls st w Q)) := Wp.if2 (c := a = b) (off := 632) e173_574 rfl rfl rfl rfl rfl
theorem e173_577 : decode (j_co 173) 577 = .ok (.iconst 0, 1) := by decide +kernel
set_option maxRecDepth 20000 in
theorem w173_577 {d : Nat} {st : List Value} {Q : Option Value × jW → Prop} {ls : jL} {w : jW} : Wp d 173 577 ls (st) w Q = Wp d 173 578 ls (.int (nI 0) :: st) w Q := Wp.alu e173_577 rfl rfl
theorem e173_578 : decode (j_co 173) 578 = .ok (.ireturn, 1) := by decide +kernel
set_option maxRecDepth 20000 in
theorem w173_578 {d : Nat} {Q : Option Value × jW → Prop} {ls : jL} {w : jW} {x : Int32} (hx : x = 0 ∨ x = 1) : Wp d 173 578 ls [.int x] w Q = Q (some (.int x), w) := Wp.ret e173_578 (by rcases hx with rfl | rfl <;> rfl)
theorem e173_579 : decode (j_co 173) 579 = .ok (.aload_n 1, 1) := by decide +kernel
set_option maxRecDepth 20000 in
theorem w173_579 {d : Nat} {st : List Value} {Q : Option Value × jW → Prop} {w : jW} {a0 a2 a3 : Option Value} {x : Nat} : Wp d 173 579 [a0, some (.ref x), a2, a3] (st) w Q = Wp d 173 580 [a0, some (.ref x), a2, a3] (.ref x :: st) w Q := Wp.loc e173_579 rfl rfl rfl
theorem e173_580 : decode (j_co 173) 580 = .ok (.aload_n 0, 1) := by decide +kernel
set_option maxRecDepth 20000 in
theorem w173_580 {d : Nat} {st : List Value} {Q : Option Value × jW → Prop} {w : jW} {a1 a2 a3 : Option Value} {x : Nat} : Wp d 173 580 [some (.ref x), a1, a2, a3] (st) w Q = Wp d 173 581 [some (.ref x), a1, a2, a3] (.ref x :: st) w Q := Wp.loc e173_580 rfl rfl rfl
theorem e173_581 : decode (j_co 173) 581 = .ok (.iload_n 3, 1) := by decide +kernel
set_option maxRecDepth 20000 in
theorem w173_581 {d : Nat} {st : List Value} {Q : Option Value × jW → Prop} {w : jW} {a0 a1 a2 : Option Value} {x : Int32} : Wp d 173 581 [a0, a1, a2, some (.int x)] (st) w Q = Wp d 173 582 [a0, a1, a2, some (.int x)] (.int x :: st) w Q := Wp.loc e173_581 rfl rfl rfl
theorem e173_582 : decode (j_co 173) 582 = .ok (.iconst 1, 1) := by decide +kernel
set_option maxRecDepth 20000 in
theorem w173_582 {d : Nat} {st : List Value} {Q : Option Value × jW → Prop} {ls : jL} {w : jW} : Wp d 173 582 ls (st) w Q = Wp d 173 583 ls (.int (nI 1) :: st) w Q := Wp.alu e173_582 rfl rfl
theorem e173_583 : decode (j_co 173) 583 = .ok (.iadd, 1) := by decide +kernel
set_option maxRecDepth 20000 in
theorem w173_583 {d : Nat} {st : List Value} {Q : Option Value × jW → Prop} {ls : jL} {w : jW} {a b : Int32} : Wp d 173 583 ls (.int b :: .int a :: st) w Q = Wp d 173 584 ls (.int (a + b) :: st) w Q := Wp.alu e173_583 rfl rfl
theorem e173_584 : decode (j_co 173) 584 = .ok (.iaload, 1) := by decide +kernel
theorem w173_584 {d k : Nat} {ls : jL} {st : List Value} {I : fI} {L : fL} {Q : Option Value × jW → Prop} {g : List Int32} (hk : k < g.length) (h31 : k < 2147483648) : Wp d 173 584 ls (.int (nI k) :: .ref 0 :: st) (f_W (g.map Value.int) I L) Q = Wp d 173 585 ls (.int (g.getD k 0) :: st) (f_W (g.map Value.int) I L) Q := Wp.iald0 e173_584 hk h31
theorem e173_585 : decode (j_co 173) 585 = .ok (.aload_n 0, 1) := by decide +kernel
set_option maxRecDepth 20000 in
theorem w173_585 {d : Nat} {st : List Value} {Q : Option Value × jW → Prop} {w : jW} {a1 a2 a3 : Option Value} {x : Nat} : Wp d 173 585 [some (.ref x), a1, a2, a3] (st) w Q = Wp d 173 586 [some (.ref x), a1, a2, a3] (.ref x :: st) w Q := Wp.loc e173_585 rfl rfl rfl
theorem e173_586 : decode (j_co 173) 586 = .ok (.iload_n 3, 1) := by decide +kernel
set_option maxRecDepth 20000 in
theorem w173_586 {d : Nat} {st : List Value} {Q : Option Value × jW → Prop} {w : jW} {a0 a1 a2 : Option Value} {x : Int32} : Wp d 173 586 [a0, a1, a2, some (.int x)] (st) w Q = Wp d 173 587 [a0, a1, a2, some (.int x)] (.int x :: st) w Q := Wp.loc e173_586 rfl rfl rfl
theorem e173_587 : decode (j_co 173) 587 = .ok (.iconst 2, 1) := by decide +kernel
set_option maxRecDepth 20000 in
theorem w173_587 {d : Nat} {st : List Value} {Q : Option Value × jW → Prop} {ls : jL} {w : jW} : Wp d 173 587 ls (st) w Q = Wp d 173 588 ls (.int (nI 2) :: st) w Q := Wp.alu e173_587 rfl rfl
theorem e173_588 : decode (j_co 173) 588 = .ok (.iadd, 1) := by decide +kernel
set_option maxRecDepth 20000 in
theorem w173_588 {d : Nat} {st : List Value} {Q : Option Value × jW → Prop} {ls : jL} {w : jW} {a b : Int32} : Wp d 173 588 ls (.int b :: .int a :: st) w Q = Wp d 173 589 ls (.int (a + b) :: st) w Q := Wp.alu e173_588 rfl rfl
theorem e173_589 : decode (j_co 173) 589 = .ok (.iaload, 1) := by decide +kernel
theorem w173_589 {d k : Nat} {ls : jL} {st : List Value} {I : fI} {L : fL} {Q : Option Value × jW → Prop} {g : List Int32} (hk : k < g.length) (h31 : k < 2147483648) : Wp d 173 589 ls (.int (nI k) :: .ref 0 :: st) (f_W (g.map Value.int) I L) Q = Wp d 173 590 ls (.int (g.getD k 0) :: st) (f_W (g.map Value.int) I L) Q := Wp.iald0 e173_589 hk h31
theorem e173_590 : decode (j_co 173) 590 = .ok (.invokevirtual 62, 3) := by decide +kernel
set_option maxRecDepth 20000 in
theorem w173_590 {d : Nat} {st : List Value} {Q : Option Value × jW → Prop} {ls : jL} {xs : List Value} {I : fI} {L : fL} {r : Nat} {x0 : Int32} {x1 : Int32} (hs : j_sumc st ≤ 8) (ht : f_tg r = 10) : Wp (d + 1) 173 590 ls (.int x1 :: .int x0 :: .ref r :: st) (f_W xs I L) Q = Wp d 54 0 [some (.ref r), some (.int x0), some (.int x1), none] [] (f_W xs I L) (fun r1 => Wp (d + 1) 173 593 ls (r1.1.toList ++ st) r1.2 Q) := Wp.cv (y' := 54) (as := [.int x0, .int x1]) e173_590 rfl (by decide) rfl (show 3 ≤ 4 by decide) (by decide) hs ht
theorem e173_593 : decode (j_co 173) 593 = .ok (.aload_n 2, 1) := by decide +kernel
set_option maxRecDepth 20000 in
theorem w173_593 {d : Nat} {st : List Value} {Q : Option Value × jW → Prop} {w : jW} {a0 a1 a3 : Option Value} {x : Nat} : Wp d 173 593 [a0, a1, some (.ref x), a3] (st) w Q = Wp d 173 594 [a0, a1, some (.ref x), a3] (.ref x :: st) w Q := Wp.loc e173_593 rfl rfl rfl
theorem e173_594 : decode (j_co 173) 594 = .ok (.aload_n 0, 1) := by decide +kernel
set_option maxRecDepth 20000 in
theorem w173_594 {d : Nat} {st : List Value} {Q : Option Value × jW → Prop} {w : jW} {a1 a2 a3 : Option Value} {x : Nat} : Wp d 173 594 [some (.ref x), a1, a2, a3] (st) w Q = Wp d 173 595 [some (.ref x), a1, a2, a3] (.ref x :: st) w Q := Wp.loc e173_594 rfl rfl rfl
theorem e173_595 : decode (j_co 173) 595 = .ok (.iload_n 3, 1) := by decide +kernel
set_option maxRecDepth 20000 in
theorem w173_595 {d : Nat} {st : List Value} {Q : Option Value × jW → Prop} {w : jW} {a0 a1 a2 : Option Value} {x : Int32} : Wp d 173 595 [a0, a1, a2, some (.int x)] (st) w Q = Wp d 173 596 [a0, a1, a2, some (.int x)] (.int x :: st) w Q := Wp.loc e173_595 rfl rfl rfl
theorem e173_596 : decode (j_co 173) 596 = .ok (.iconst 1, 1) := by decide +kernel
set_option maxRecDepth 20000 in
theorem w173_596 {d : Nat} {st : List Value} {Q : Option Value × jW → Prop} {ls : jL} {w : jW} : Wp d 173 596 ls (st) w Q = Wp d 173 597 ls (.int (nI 1) :: st) w Q := Wp.alu e173_596 rfl rfl
theorem e173_597 : decode (j_co 173) 597 = .ok (.iadd, 1) := by decide +kernel
set_option maxRecDepth 20000 in
theorem w173_597 {d : Nat} {st : List Value} {Q : Option Value × jW → Prop} {ls : jL} {w : jW} {a b : Int32} : Wp d 173 597 ls (.int b :: .int a :: st) w Q = Wp d 173 598 ls (.int (a + b) :: st) w Q := Wp.alu e173_597 rfl rfl
theorem e173_598 : decode (j_co 173) 598 = .ok (.iaload, 1) := by decide +kernel
theorem w173_598 {d k : Nat} {ls : jL} {st : List Value} {I : fI} {L : fL} {Q : Option Value × jW → Prop} {g : List Int32} (hk : k < g.length) (h31 : k < 2147483648) : Wp d 173 598 ls (.int (nI k) :: .ref 0 :: st) (f_W (g.map Value.int) I L) Q = Wp d 173 599 ls (.int (g.getD k 0) :: st) (f_W (g.map Value.int) I L) Q := Wp.iald0 e173_598 hk h31
theorem e173_599 : decode (j_co 173) 599 = .ok (.aload_n 0, 1) := by decide +kernel
set_option maxRecDepth 20000 in
theorem w173_599 {d : Nat} {st : List Value} {Q : Option Value × jW → Prop} {w : jW} {a1 a2 a3 : Option Value} {x : Nat} : Wp d 173 599 [some (.ref x), a1, a2, a3] (st) w Q = Wp d 173 600 [some (.ref x), a1, a2, a3] (.ref x :: st) w Q := Wp.loc e173_599 rfl rfl rfl
theorem e173_600 : decode (j_co 173) 600 = .ok (.iload_n 3, 1) := by decide +kernel
set_option maxRecDepth 20000 in
theorem w173_600 {d : Nat} {st : List Value} {Q : Option Value × jW → Prop} {w : jW} {a0 a1 a2 : Option Value} {x : Int32} : Wp d 173 600 [a0, a1, a2, some (.int x)] (st) w Q = Wp d 173 601 [a0, a1, a2, some (.int x)] (.int x :: st) w Q := Wp.loc e173_600 rfl rfl rfl
theorem e173_601 : decode (j_co 173) 601 = .ok (.iconst 2, 1) := by decide +kernel
set_option maxRecDepth 20000 in
theorem w173_601 {d : Nat} {st : List Value} {Q : Option Value × jW → Prop} {ls : jL} {w : jW} : Wp d 173 601 ls (st) w Q = Wp d 173 602 ls (.int (nI 2) :: st) w Q := Wp.alu e173_601 rfl rfl
theorem e173_602 : decode (j_co 173) 602 = .ok (.iadd, 1) := by decide +kernel
set_option maxRecDepth 20000 in
theorem w173_602 {d : Nat} {st : List Value} {Q : Option Value × jW → Prop} {ls : jL} {w : jW} {a b : Int32} : Wp d 173 602 ls (.int b :: .int a :: st) w Q = Wp d 173 603 ls (.int (a + b) :: st) w Q := Wp.alu e173_602 rfl rfl
theorem e173_603 : decode (j_co 173) 603 = .ok (.iaload, 1) := by decide +kernel
theorem w173_603 {d k : Nat} {ls : jL} {st : List Value} {I : fI} {L : fL} {Q : Option Value × jW → Prop} {g : List Int32} (hk : k < g.length) (h31 : k < 2147483648) : Wp d 173 603 ls (.int (nI k) :: .ref 0 :: st) (f_W (g.map Value.int) I L) Q = Wp d 173 604 ls (.int (g.getD k 0) :: st) (f_W (g.map Value.int) I L) Q := Wp.iald0 e173_603 hk h31
theorem e173_604 : decode (j_co 173) 604 = .ok (.invokevirtual 65, 3) := by decide +kernel
set_option maxRecDepth 20000 in
theorem w173_604 {d : Nat} {st : List Value} {Q : Option Value × jW → Prop} {ls : jL} {xs : List Value} {I : fI} {L : fL} {r : Nat} {x0 : Int32} {x1 : Int32} (hs : j_sumc st ≤ 8) (ht : f_tg r = 11) : Wp (d + 1) 173 604 ls (.int x1 :: .int x0 :: .ref r :: st) (f_W xs I L) Q = Wp d 145 0 [some (.ref r), some (.int x0), some (.int x1)] [] (f_W xs I L) (fun r1 => Wp (d + 1) 173 607 ls (r1.1.toList ++ st) r1.2 Q) := Wp.cv (y' := 145) (as := [.int x0, .int x1]) e173_604 rfl (by decide) rfl (show 3 ≤ 3 by decide) (by decide) hs ht
theorem e173_607 : decode (j_co 173) 607 = .ok (.if_icmp .eq 599, 3) := by decide +kernel
set_option maxRecDepth 20000 in
theorem w173_607 {d : Nat} {st : List Value} {Q : Option Value × jW → Prop} {ls : jL} {w : jW} {a b : Int32} : Wp d 173 607 ls (.int b :: .int a :: st) w Q = ((a = b → Wp d 173 1206 ls st w Q) ∧ (¬ a = b → Wp d 173 610 ls st w Q)) := Wp.if2 (c := a = b) (off := 599) e173_607 rfl rfl rfl rfl rfl
theorem e173_610 : decode (j_co 173) 610 = .ok (.iconst 0, 1) := by decide +kernel
set_option maxRecDepth 20000 in
theorem w173_610 {d : Nat} {st : List Value} {Q : Option Value × jW → Prop} {ls : jL} {w : jW} : Wp d 173 610 ls (st) w Q = Wp d 173 611 ls (.int (nI 0) :: st) w Q := Wp.alu e173_610 rfl rfl
theorem e173_611 : decode (j_co 173) 611 = .ok (.ireturn, 1) := by decide +kernel
set_option maxRecDepth 20000 in
theorem w173_611 {d : Nat} {Q : Option Value × jW → Prop} {ls : jL} {w : jW} {x : Int32} (hx : x = 0 ∨ x = 1) : Wp d 173 611 ls [.int x] w Q = Q (some (.int x), w) := Wp.ret e173_611 (by rcases hx with rfl | rfl <;> rfl)
theorem e173_612 : decode (j_co 173) 612 = .ok (.aload_n 1, 1) := by decide +kernel
set_option maxRecDepth 20000 in
theorem w173_612 {d : Nat} {st : List Value} {Q : Option Value × jW → Prop} {w : jW} {a0 a2 a3 : Option Value} {x : Nat} : Wp d 173 612 [a0, some (.ref x), a2, a3] (st) w Q = Wp d 173 613 [a0, some (.ref x), a2, a3] (.ref x :: st) w Q := Wp.loc e173_612 rfl rfl rfl
theorem e173_613 : decode (j_co 173) 613 = .ok (.aload_n 0, 1) := by decide +kernel
set_option maxRecDepth 20000 in
theorem w173_613 {d : Nat} {st : List Value} {Q : Option Value × jW → Prop} {w : jW} {a1 a2 a3 : Option Value} {x : Nat} : Wp d 173 613 [some (.ref x), a1, a2, a3] (st) w Q = Wp d 173 614 [some (.ref x), a1, a2, a3] (.ref x :: st) w Q := Wp.loc e173_613 rfl rfl rfl
theorem e173_614 : decode (j_co 173) 614 = .ok (.iload_n 3, 1) := by decide +kernel
set_option maxRecDepth 20000 in
theorem w173_614 {d : Nat} {st : List Value} {Q : Option Value × jW → Prop} {w : jW} {a0 a1 a2 : Option Value} {x : Int32} : Wp d 173 614 [a0, a1, a2, some (.int x)] (st) w Q = Wp d 173 615 [a0, a1, a2, some (.int x)] (.int x :: st) w Q := Wp.loc e173_614 rfl rfl rfl
theorem e173_615 : decode (j_co 173) 615 = .ok (.iconst 1, 1) := by decide +kernel
set_option maxRecDepth 20000 in
theorem w173_615 {d : Nat} {st : List Value} {Q : Option Value × jW → Prop} {ls : jL} {w : jW} : Wp d 173 615 ls (st) w Q = Wp d 173 616 ls (.int (nI 1) :: st) w Q := Wp.alu e173_615 rfl rfl
theorem e173_616 : decode (j_co 173) 616 = .ok (.iadd, 1) := by decide +kernel
set_option maxRecDepth 20000 in
theorem w173_616 {d : Nat} {st : List Value} {Q : Option Value × jW → Prop} {ls : jL} {w : jW} {a b : Int32} : Wp d 173 616 ls (.int b :: .int a :: st) w Q = Wp d 173 617 ls (.int (a + b) :: st) w Q := Wp.alu e173_616 rfl rfl
theorem e173_617 : decode (j_co 173) 617 = .ok (.iaload, 1) := by decide +kernel
theorem w173_617 {d k : Nat} {ls : jL} {st : List Value} {I : fI} {L : fL} {Q : Option Value × jW → Prop} {g : List Int32} (hk : k < g.length) (h31 : k < 2147483648) : Wp d 173 617 ls (.int (nI k) :: .ref 0 :: st) (f_W (g.map Value.int) I L) Q = Wp d 173 618 ls (.int (g.getD k 0) :: st) (f_W (g.map Value.int) I L) Q := Wp.iald0 e173_617 hk h31
theorem e173_618 : decode (j_co 173) 618 = .ok (.aload_n 0, 1) := by decide +kernel
set_option maxRecDepth 20000 in
theorem w173_618 {d : Nat} {st : List Value} {Q : Option Value × jW → Prop} {w : jW} {a1 a2 a3 : Option Value} {x : Nat} : Wp d 173 618 [some (.ref x), a1, a2, a3] (st) w Q = Wp d 173 619 [some (.ref x), a1, a2, a3] (.ref x :: st) w Q := Wp.loc e173_618 rfl rfl rfl
theorem e173_619 : decode (j_co 173) 619 = .ok (.iload_n 3, 1) := by decide +kernel
set_option maxRecDepth 20000 in
theorem w173_619 {d : Nat} {st : List Value} {Q : Option Value × jW → Prop} {w : jW} {a0 a1 a2 : Option Value} {x : Int32} : Wp d 173 619 [a0, a1, a2, some (.int x)] (st) w Q = Wp d 173 620 [a0, a1, a2, some (.int x)] (.int x :: st) w Q := Wp.loc e173_619 rfl rfl rfl
theorem e173_620 : decode (j_co 173) 620 = .ok (.iconst 2, 1) := by decide +kernel
set_option maxRecDepth 20000 in
theorem w173_620 {d : Nat} {st : List Value} {Q : Option Value × jW → Prop} {ls : jL} {w : jW} : Wp d 173 620 ls (st) w Q = Wp d 173 621 ls (.int (nI 2) :: st) w Q := Wp.alu e173_620 rfl rfl
theorem e173_621 : decode (j_co 173) 621 = .ok (.iadd, 1) := by decide +kernel
set_option maxRecDepth 20000 in
theorem w173_621 {d : Nat} {st : List Value} {Q : Option Value × jW → Prop} {ls : jL} {w : jW} {a b : Int32} : Wp d 173 621 ls (.int b :: .int a :: st) w Q = Wp d 173 622 ls (.int (a + b) :: st) w Q := Wp.alu e173_621 rfl rfl
theorem e173_622 : decode (j_co 173) 622 = .ok (.iaload, 1) := by decide +kernel
theorem w173_622 {d k : Nat} {ls : jL} {st : List Value} {I : fI} {L : fL} {Q : Option Value × jW → Prop} {g : List Int32} (hk : k < g.length) (h31 : k < 2147483648) : Wp d 173 622 ls (.int (nI k) :: .ref 0 :: st) (f_W (g.map Value.int) I L) Q = Wp d 173 623 ls (.int (g.getD k 0) :: st) (f_W (g.map Value.int) I L) Q := Wp.iald0 e173_622 hk h31
theorem e173_623 : decode (j_co 173) 623 = .ok (.aload_n 0, 1) := by decide +kernel
set_option maxRecDepth 20000 in
theorem w173_623 {d : Nat} {st : List Value} {Q : Option Value × jW → Prop} {w : jW} {a1 a2 a3 : Option Value} {x : Nat} : Wp d 173 623 [some (.ref x), a1, a2, a3] (st) w Q = Wp d 173 624 [some (.ref x), a1, a2, a3] (.ref x :: st) w Q := Wp.loc e173_623 rfl rfl rfl
theorem e173_624 : decode (j_co 173) 624 = .ok (.iload_n 3, 1) := by decide +kernel
set_option maxRecDepth 20000 in
theorem w173_624 {d : Nat} {st : List Value} {Q : Option Value × jW → Prop} {w : jW} {a0 a1 a2 : Option Value} {x : Int32} : Wp d 173 624 [a0, a1, a2, some (.int x)] (st) w Q = Wp d 173 625 [a0, a1, a2, some (.int x)] (.int x :: st) w Q := Wp.loc e173_624 rfl rfl rfl
theorem e173_625 : decode (j_co 173) 625 = .ok (.iconst 3, 1) := by decide +kernel
set_option maxRecDepth 20000 in
theorem w173_625 {d : Nat} {st : List Value} {Q : Option Value × jW → Prop} {ls : jL} {w : jW} : Wp d 173 625 ls (st) w Q = Wp d 173 626 ls (.int (nI 3) :: st) w Q := Wp.alu e173_625 rfl rfl
theorem e173_626 : decode (j_co 173) 626 = .ok (.iadd, 1) := by decide +kernel
set_option maxRecDepth 20000 in
theorem w173_626 {d : Nat} {st : List Value} {Q : Option Value × jW → Prop} {ls : jL} {w : jW} {a b : Int32} : Wp d 173 626 ls (.int b :: .int a :: st) w Q = Wp d 173 627 ls (.int (a + b) :: st) w Q := Wp.alu e173_626 rfl rfl
theorem e173_627 : decode (j_co 173) 627 = .ok (.iaload, 1) := by decide +kernel
theorem w173_627 {d k : Nat} {ls : jL} {st : List Value} {I : fI} {L : fL} {Q : Option Value × jW → Prop} {g : List Int32} (hk : k < g.length) (h31 : k < 2147483648) : Wp d 173 627 ls (.int (nI k) :: .ref 0 :: st) (f_W (g.map Value.int) I L) Q = Wp d 173 628 ls (.int (g.getD k 0) :: st) (f_W (g.map Value.int) I L) Q := Wp.iald0 e173_627 hk h31
theorem e173_628 : decode (j_co 173) 628 = .ok (.ifCond .eq 7, 3) := by decide +kernel
set_option maxRecDepth 20000 in
theorem w173_628 {d : Nat} {st : List Value} {Q : Option Value × jW → Prop} {ls : jL} {w : jW} {a : Int32} : Wp d 173 628 ls (.int a :: st) w Q = ((a = nI 0 → Wp d 173 635 ls st w Q) ∧ (¬ a = nI 0 → Wp d 173 631 ls st w Q)) := Wp.if2 (c := a = nI 0) (off := 7) e173_628 rfl rfl rfl rfl rfl
theorem e173_631 : decode (j_co 173) 631 = .ok (.iconst 1, 1) := by decide +kernel
set_option maxRecDepth 20000 in
theorem w173_631 {d : Nat} {st : List Value} {Q : Option Value × jW → Prop} {ls : jL} {w : jW} : Wp d 173 631 ls (st) w Q = Wp d 173 632 ls (.int (nI 1) :: st) w Q := Wp.alu e173_631 rfl rfl
theorem e173_632 : decode (j_co 173) 632 = .ok (.goto 4, 3) := by decide +kernel
set_option maxRecDepth 20000 in
theorem w173_632 {d : Nat} {st : List Value} {Q : Option Value × jW → Prop} {ls : jL} {w : jW} : Wp d 173 632 ls (st) w Q = Wp d 173 636 ls (st) w Q := Wp.br e173_632 (Or.inl rfl) rfl rfl rfl rfl
theorem e173_635 : decode (j_co 173) 635 = .ok (.iconst 0, 1) := by decide +kernel
set_option maxRecDepth 20000 in
theorem w173_635 {d : Nat} {st : List Value} {Q : Option Value × jW → Prop} {ls : jL} {w : jW} : Wp d 173 635 ls (st) w Q = Wp d 173 636 ls (.int (nI 0) :: st) w Q := Wp.alu e173_635 rfl rfl
theorem e173_636 : decode (j_co 173) 636 = .ok (.invokevirtual 66, 3) := by decide +kernel
set_option maxRecDepth 20000 in
theorem w173_636 {d : Nat} {st : List Value} {Q : Option Value × jW → Prop} {ls : jL} {xs : List Value} {I : fI} {L : fL} {r : Nat} {x0 : Int32} {x1 : Int32} {x2 : Int32} (hs : j_sumc st ≤ 8) (ht : f_tg r = 10) : Wp (d + 1) 173 636 ls (.int x2 :: .int x1 :: .int x0 :: .ref r :: st) (f_W xs I L) Q = Wp d 56 0 [some (.ref r), some (.int x0), some (.int x1), some (.int x2), none] [] (f_W xs I L) (fun r1 => Wp (d + 1) 173 639 ls (r1.1.toList ++ st) r1.2 Q) := Wp.cv (y' := 56) (as := [.int x0, .int x1, .int x2]) e173_636 rfl (by decide) rfl (show 4 ≤ 5 by decide) (by decide) hs ht
theorem e173_639 : decode (j_co 173) 639 = .ok (.aload_n 2, 1) := by decide +kernel
set_option maxRecDepth 20000 in
theorem w173_639 {d : Nat} {st : List Value} {Q : Option Value × jW → Prop} {w : jW} {a0 a1 a3 : Option Value} {x : Nat} : Wp d 173 639 [a0, a1, some (.ref x), a3] (st) w Q = Wp d 173 640 [a0, a1, some (.ref x), a3] (.ref x :: st) w Q := Wp.loc e173_639 rfl rfl rfl
theorem e173_640 : decode (j_co 173) 640 = .ok (.aload_n 0, 1) := by decide +kernel
set_option maxRecDepth 20000 in
theorem w173_640 {d : Nat} {st : List Value} {Q : Option Value × jW → Prop} {w : jW} {a1 a2 a3 : Option Value} {x : Nat} : Wp d 173 640 [some (.ref x), a1, a2, a3] (st) w Q = Wp d 173 641 [some (.ref x), a1, a2, a3] (.ref x :: st) w Q := Wp.loc e173_640 rfl rfl rfl
theorem e173_641 : decode (j_co 173) 641 = .ok (.iload_n 3, 1) := by decide +kernel
set_option maxRecDepth 20000 in
theorem w173_641 {d : Nat} {st : List Value} {Q : Option Value × jW → Prop} {w : jW} {a0 a1 a2 : Option Value} {x : Int32} : Wp d 173 641 [a0, a1, a2, some (.int x)] (st) w Q = Wp d 173 642 [a0, a1, a2, some (.int x)] (.int x :: st) w Q := Wp.loc e173_641 rfl rfl rfl
theorem e173_642 : decode (j_co 173) 642 = .ok (.iconst 1, 1) := by decide +kernel
set_option maxRecDepth 20000 in
theorem w173_642 {d : Nat} {st : List Value} {Q : Option Value × jW → Prop} {ls : jL} {w : jW} : Wp d 173 642 ls (st) w Q = Wp d 173 643 ls (.int (nI 1) :: st) w Q := Wp.alu e173_642 rfl rfl
theorem e173_643 : decode (j_co 173) 643 = .ok (.iadd, 1) := by decide +kernel
set_option maxRecDepth 20000 in
theorem w173_643 {d : Nat} {st : List Value} {Q : Option Value × jW → Prop} {ls : jL} {w : jW} {a b : Int32} : Wp d 173 643 ls (.int b :: .int a :: st) w Q = Wp d 173 644 ls (.int (a + b) :: st) w Q := Wp.alu e173_643 rfl rfl
theorem e173_644 : decode (j_co 173) 644 = .ok (.iaload, 1) := by decide +kernel
theorem w173_644 {d k : Nat} {ls : jL} {st : List Value} {I : fI} {L : fL} {Q : Option Value × jW → Prop} {g : List Int32} (hk : k < g.length) (h31 : k < 2147483648) : Wp d 173 644 ls (.int (nI k) :: .ref 0 :: st) (f_W (g.map Value.int) I L) Q = Wp d 173 645 ls (.int (g.getD k 0) :: st) (f_W (g.map Value.int) I L) Q := Wp.iald0 e173_644 hk h31
theorem e173_645 : decode (j_co 173) 645 = .ok (.aload_n 0, 1) := by decide +kernel
set_option maxRecDepth 20000 in
theorem w173_645 {d : Nat} {st : List Value} {Q : Option Value × jW → Prop} {w : jW} {a1 a2 a3 : Option Value} {x : Nat} : Wp d 173 645 [some (.ref x), a1, a2, a3] (st) w Q = Wp d 173 646 [some (.ref x), a1, a2, a3] (.ref x :: st) w Q := Wp.loc e173_645 rfl rfl rfl
theorem e173_646 : decode (j_co 173) 646 = .ok (.iload_n 3, 1) := by decide +kernel
set_option maxRecDepth 20000 in
theorem w173_646 {d : Nat} {st : List Value} {Q : Option Value × jW → Prop} {w : jW} {a0 a1 a2 : Option Value} {x : Int32} : Wp d 173 646 [a0, a1, a2, some (.int x)] (st) w Q = Wp d 173 647 [a0, a1, a2, some (.int x)] (.int x :: st) w Q := Wp.loc e173_646 rfl rfl rfl
theorem e173_647 : decode (j_co 173) 647 = .ok (.iconst 2, 1) := by decide +kernel
set_option maxRecDepth 20000 in
theorem w173_647 {d : Nat} {st : List Value} {Q : Option Value × jW → Prop} {ls : jL} {w : jW} : Wp d 173 647 ls (st) w Q = Wp d 173 648 ls (.int (nI 2) :: st) w Q := Wp.alu e173_647 rfl rfl
theorem e173_648 : decode (j_co 173) 648 = .ok (.iadd, 1) := by decide +kernel
set_option maxRecDepth 20000 in
theorem w173_648 {d : Nat} {st : List Value} {Q : Option Value × jW → Prop} {ls : jL} {w : jW} {a b : Int32} : Wp d 173 648 ls (.int b :: .int a :: st) w Q = Wp d 173 649 ls (.int (a + b) :: st) w Q := Wp.alu e173_648 rfl rfl
theorem e173_649 : decode (j_co 173) 649 = .ok (.iaload, 1) := by decide +kernel
theorem w173_649 {d k : Nat} {ls : jL} {st : List Value} {I : fI} {L : fL} {Q : Option Value × jW → Prop} {g : List Int32} (hk : k < g.length) (h31 : k < 2147483648) : Wp d 173 649 ls (.int (nI k) :: .ref 0 :: st) (f_W (g.map Value.int) I L) Q = Wp d 173 650 ls (.int (g.getD k 0) :: st) (f_W (g.map Value.int) I L) Q := Wp.iald0 e173_649 hk h31
theorem e173_650 : decode (j_co 173) 650 = .ok (.aload_n 0, 1) := by decide +kernel
set_option maxRecDepth 20000 in
theorem w173_650 {d : Nat} {st : List Value} {Q : Option Value × jW → Prop} {w : jW} {a1 a2 a3 : Option Value} {x : Nat} : Wp d 173 650 [some (.ref x), a1, a2, a3] (st) w Q = Wp d 173 651 [some (.ref x), a1, a2, a3] (.ref x :: st) w Q := Wp.loc e173_650 rfl rfl rfl
theorem e173_651 : decode (j_co 173) 651 = .ok (.iload_n 3, 1) := by decide +kernel
set_option maxRecDepth 20000 in
theorem w173_651 {d : Nat} {st : List Value} {Q : Option Value × jW → Prop} {w : jW} {a0 a1 a2 : Option Value} {x : Int32} : Wp d 173 651 [a0, a1, a2, some (.int x)] (st) w Q = Wp d 173 652 [a0, a1, a2, some (.int x)] (.int x :: st) w Q := Wp.loc e173_651 rfl rfl rfl
theorem e173_652 : decode (j_co 173) 652 = .ok (.iconst 3, 1) := by decide +kernel
set_option maxRecDepth 20000 in
theorem w173_652 {d : Nat} {st : List Value} {Q : Option Value × jW → Prop} {ls : jL} {w : jW} : Wp d 173 652 ls (st) w Q = Wp d 173 653 ls (.int (nI 3) :: st) w Q := Wp.alu e173_652 rfl rfl
theorem e173_653 : decode (j_co 173) 653 = .ok (.iadd, 1) := by decide +kernel
set_option maxRecDepth 20000 in
theorem w173_653 {d : Nat} {st : List Value} {Q : Option Value × jW → Prop} {ls : jL} {w : jW} {a b : Int32} : Wp d 173 653 ls (.int b :: .int a :: st) w Q = Wp d 173 654 ls (.int (a + b) :: st) w Q := Wp.alu e173_653 rfl rfl
theorem e173_654 : decode (j_co 173) 654 = .ok (.iaload, 1) := by decide +kernel
theorem w173_654 {d k : Nat} {ls : jL} {st : List Value} {I : fI} {L : fL} {Q : Option Value × jW → Prop} {g : List Int32} (hk : k < g.length) (h31 : k < 2147483648) : Wp d 173 654 ls (.int (nI k) :: .ref 0 :: st) (f_W (g.map Value.int) I L) Q = Wp d 173 655 ls (.int (g.getD k 0) :: st) (f_W (g.map Value.int) I L) Q := Wp.iald0 e173_654 hk h31
theorem e173_655 : decode (j_co 173) 655 = .ok (.ifCond .eq 7, 3) := by decide +kernel
set_option maxRecDepth 20000 in
theorem w173_655 {d : Nat} {st : List Value} {Q : Option Value × jW → Prop} {ls : jL} {w : jW} {a : Int32} : Wp d 173 655 ls (.int a :: st) w Q = ((a = nI 0 → Wp d 173 662 ls st w Q) ∧ (¬ a = nI 0 → Wp d 173 658 ls st w Q)) := Wp.if2 (c := a = nI 0) (off := 7) e173_655 rfl rfl rfl rfl rfl
theorem e173_658 : decode (j_co 173) 658 = .ok (.iconst 1, 1) := by decide +kernel
set_option maxRecDepth 20000 in
theorem w173_658 {d : Nat} {st : List Value} {Q : Option Value × jW → Prop} {ls : jL} {w : jW} : Wp d 173 658 ls (st) w Q = Wp d 173 659 ls (.int (nI 1) :: st) w Q := Wp.alu e173_658 rfl rfl
theorem e173_659 : decode (j_co 173) 659 = .ok (.goto 4, 3) := by decide +kernel
set_option maxRecDepth 20000 in
theorem w173_659 {d : Nat} {st : List Value} {Q : Option Value × jW → Prop} {ls : jL} {w : jW} : Wp d 173 659 ls (st) w Q = Wp d 173 663 ls (st) w Q := Wp.br e173_659 (Or.inl rfl) rfl rfl rfl rfl
theorem e173_662 : decode (j_co 173) 662 = .ok (.iconst 0, 1) := by decide +kernel
set_option maxRecDepth 20000 in
theorem w173_662 {d : Nat} {st : List Value} {Q : Option Value × jW → Prop} {ls : jL} {w : jW} : Wp d 173 662 ls (st) w Q = Wp d 173 663 ls (.int (nI 0) :: st) w Q := Wp.alu e173_662 rfl rfl
theorem e173_663 : decode (j_co 173) 663 = .ok (.invokevirtual 70, 3) := by decide +kernel
set_option maxRecDepth 20000 in
theorem w173_663 {d : Nat} {st : List Value} {Q : Option Value × jW → Prop} {ls : jL} {xs : List Value} {I : fI} {L : fL} {r : Nat} {x0 : Int32} {x1 : Int32} {x2 : Int32} (hs : j_sumc st ≤ 8) (ht : f_tg r = 11) : Wp (d + 1) 173 663 ls (.int x2 :: .int x1 :: .int x0 :: .ref r :: st) (f_W xs I L) Q = Wp d 146 0 [some (.ref r), some (.int x0), some (.int x1), some (.int x2)] [] (f_W xs I L) (fun r1 => Wp (d + 1) 173 666 ls (r1.1.toList ++ st) r1.2 Q) := Wp.cv (y' := 146) (as := [.int x0, .int x1, .int x2]) e173_663 rfl (by decide) rfl (show 4 ≤ 4 by decide) (by decide) hs ht
theorem e173_666 : decode (j_co 173) 666 = .ok (.if_icmp .eq 540, 3) := by decide +kernel
set_option maxRecDepth 20000 in
theorem w173_666 {d : Nat} {st : List Value} {Q : Option Value × jW → Prop} {ls : jL} {w : jW} {a b : Int32} : Wp d 173 666 ls (.int b :: .int a :: st) w Q = ((a = b → Wp d 173 1206 ls st w Q) ∧ (¬ a = b → Wp d 173 669 ls st w Q)) := Wp.if2 (c := a = b) (off := 540) e173_666 rfl rfl rfl rfl rfl
theorem e173_669 : decode (j_co 173) 669 = .ok (.iconst 0, 1) := by decide +kernel
set_option maxRecDepth 20000 in
theorem w173_669 {d : Nat} {st : List Value} {Q : Option Value × jW → Prop} {ls : jL} {w : jW} : Wp d 173 669 ls (st) w Q = Wp d 173 670 ls (.int (nI 0) :: st) w Q := Wp.alu e173_669 rfl rfl
theorem e173_670 : decode (j_co 173) 670 = .ok (.ireturn, 1) := by decide +kernel
set_option maxRecDepth 20000 in
theorem w173_670 {d : Nat} {Q : Option Value × jW → Prop} {ls : jL} {w : jW} {x : Int32} (hx : x = 0 ∨ x = 1) : Wp d 173 670 ls [.int x] w Q = Q (some (.int x), w) := Wp.ret e173_670 (by rcases hx with rfl | rfl <;> rfl)
theorem e173_671 : decode (j_co 173) 671 = .ok (.aload_n 1, 1) := by decide +kernel
set_option maxRecDepth 20000 in
theorem w173_671 {d : Nat} {st : List Value} {Q : Option Value × jW → Prop} {w : jW} {a0 a2 a3 : Option Value} {x : Nat} : Wp d 173 671 [a0, some (.ref x), a2, a3] (st) w Q = Wp d 173 672 [a0, some (.ref x), a2, a3] (.ref x :: st) w Q := Wp.loc e173_671 rfl rfl rfl
theorem e173_672 : decode (j_co 173) 672 = .ok (.aload_n 0, 1) := by decide +kernel
set_option maxRecDepth 20000 in
theorem w173_672 {d : Nat} {st : List Value} {Q : Option Value × jW → Prop} {w : jW} {a1 a2 a3 : Option Value} {x : Nat} : Wp d 173 672 [some (.ref x), a1, a2, a3] (st) w Q = Wp d 173 673 [some (.ref x), a1, a2, a3] (.ref x :: st) w Q := Wp.loc e173_672 rfl rfl rfl
theorem e173_673 : decode (j_co 173) 673 = .ok (.iload_n 3, 1) := by decide +kernel
set_option maxRecDepth 20000 in
theorem w173_673 {d : Nat} {st : List Value} {Q : Option Value × jW → Prop} {w : jW} {a0 a1 a2 : Option Value} {x : Int32} : Wp d 173 673 [a0, a1, a2, some (.int x)] (st) w Q = Wp d 173 674 [a0, a1, a2, some (.int x)] (.int x :: st) w Q := Wp.loc e173_673 rfl rfl rfl
theorem e173_674 : decode (j_co 173) 674 = .ok (.iconst 1, 1) := by decide +kernel
set_option maxRecDepth 20000 in
theorem w173_674 {d : Nat} {st : List Value} {Q : Option Value × jW → Prop} {ls : jL} {w : jW} : Wp d 173 674 ls (st) w Q = Wp d 173 675 ls (.int (nI 1) :: st) w Q := Wp.alu e173_674 rfl rfl
theorem e173_675 : decode (j_co 173) 675 = .ok (.iadd, 1) := by decide +kernel
set_option maxRecDepth 20000 in
theorem w173_675 {d : Nat} {st : List Value} {Q : Option Value × jW → Prop} {ls : jL} {w : jW} {a b : Int32} : Wp d 173 675 ls (.int b :: .int a :: st) w Q = Wp d 173 676 ls (.int (a + b) :: st) w Q := Wp.alu e173_675 rfl rfl
theorem e173_676 : decode (j_co 173) 676 = .ok (.iaload, 1) := by decide +kernel
theorem w173_676 {d k : Nat} {ls : jL} {st : List Value} {I : fI} {L : fL} {Q : Option Value × jW → Prop} {g : List Int32} (hk : k < g.length) (h31 : k < 2147483648) : Wp d 173 676 ls (.int (nI k) :: .ref 0 :: st) (f_W (g.map Value.int) I L) Q = Wp d 173 677 ls (.int (g.getD k 0) :: st) (f_W (g.map Value.int) I L) Q := Wp.iald0 e173_676 hk h31
theorem e173_677 : decode (j_co 173) 677 = .ok (.aload_n 0, 1) := by decide +kernel
set_option maxRecDepth 20000 in
theorem w173_677 {d : Nat} {st : List Value} {Q : Option Value × jW → Prop} {w : jW} {a1 a2 a3 : Option Value} {x : Nat} : Wp d 173 677 [some (.ref x), a1, a2, a3] (st) w Q = Wp d 173 678 [some (.ref x), a1, a2, a3] (.ref x :: st) w Q := Wp.loc e173_677 rfl rfl rfl
theorem e173_678 : decode (j_co 173) 678 = .ok (.iload_n 3, 1) := by decide +kernel
set_option maxRecDepth 20000 in
theorem w173_678 {d : Nat} {st : List Value} {Q : Option Value × jW → Prop} {w : jW} {a0 a1 a2 : Option Value} {x : Int32} : Wp d 173 678 [a0, a1, a2, some (.int x)] (st) w Q = Wp d 173 679 [a0, a1, a2, some (.int x)] (.int x :: st) w Q := Wp.loc e173_678 rfl rfl rfl
theorem e173_679 : decode (j_co 173) 679 = .ok (.iconst 2, 1) := by decide +kernel
set_option maxRecDepth 20000 in
theorem w173_679 {d : Nat} {st : List Value} {Q : Option Value × jW → Prop} {ls : jL} {w : jW} : Wp d 173 679 ls (st) w Q = Wp d 173 680 ls (.int (nI 2) :: st) w Q := Wp.alu e173_679 rfl rfl
theorem e173_680 : decode (j_co 173) 680 = .ok (.iadd, 1) := by decide +kernel
set_option maxRecDepth 20000 in
theorem w173_680 {d : Nat} {st : List Value} {Q : Option Value × jW → Prop} {ls : jL} {w : jW} {a b : Int32} : Wp d 173 680 ls (.int b :: .int a :: st) w Q = Wp d 173 681 ls (.int (a + b) :: st) w Q := Wp.alu e173_680 rfl rfl
theorem e173_681 : decode (j_co 173) 681 = .ok (.iaload, 1) := by decide +kernel
theorem w173_681 {d k : Nat} {ls : jL} {st : List Value} {I : fI} {L : fL} {Q : Option Value × jW → Prop} {g : List Int32} (hk : k < g.length) (h31 : k < 2147483648) : Wp d 173 681 ls (.int (nI k) :: .ref 0 :: st) (f_W (g.map Value.int) I L) Q = Wp d 173 682 ls (.int (g.getD k 0) :: st) (f_W (g.map Value.int) I L) Q := Wp.iald0 e173_681 hk h31
theorem e173_682 : decode (j_co 173) 682 = .ok (.aload_n 0, 1) := by decide +kernel
set_option maxRecDepth 20000 in
theorem w173_682 {d : Nat} {st : List Value} {Q : Option Value × jW → Prop} {w : jW} {a1 a2 a3 : Option Value} {x : Nat} : Wp d 173 682 [some (.ref x), a1, a2, a3] (st) w Q = Wp d 173 683 [some (.ref x), a1, a2, a3] (.ref x :: st) w Q := Wp.loc e173_682 rfl rfl rfl
theorem e173_683 : decode (j_co 173) 683 = .ok (.iload_n 3, 1) := by decide +kernel
set_option maxRecDepth 20000 in
theorem w173_683 {d : Nat} {st : List Value} {Q : Option Value × jW → Prop} {w : jW} {a0 a1 a2 : Option Value} {x : Int32} : Wp d 173 683 [a0, a1, a2, some (.int x)] (st) w Q = Wp d 173 684 [a0, a1, a2, some (.int x)] (.int x :: st) w Q := Wp.loc e173_683 rfl rfl rfl
theorem e173_684 : decode (j_co 173) 684 = .ok (.iconst 3, 1) := by decide +kernel
set_option maxRecDepth 20000 in
theorem w173_684 {d : Nat} {st : List Value} {Q : Option Value × jW → Prop} {ls : jL} {w : jW} : Wp d 173 684 ls (st) w Q = Wp d 173 685 ls (.int (nI 3) :: st) w Q := Wp.alu e173_684 rfl rfl
theorem e173_685 : decode (j_co 173) 685 = .ok (.iadd, 1) := by decide +kernel
set_option maxRecDepth 20000 in
theorem w173_685 {d : Nat} {st : List Value} {Q : Option Value × jW → Prop} {ls : jL} {w : jW} {a b : Int32} : Wp d 173 685 ls (.int b :: .int a :: st) w Q = Wp d 173 686 ls (.int (a + b) :: st) w Q := Wp.alu e173_685 rfl rfl
theorem e173_686 : decode (j_co 173) 686 = .ok (.iaload, 1) := by decide +kernel
theorem w173_686 {d k : Nat} {ls : jL} {st : List Value} {I : fI} {L : fL} {Q : Option Value × jW → Prop} {g : List Int32} (hk : k < g.length) (h31 : k < 2147483648) : Wp d 173 686 ls (.int (nI k) :: .ref 0 :: st) (f_W (g.map Value.int) I L) Q = Wp d 173 687 ls (.int (g.getD k 0) :: st) (f_W (g.map Value.int) I L) Q := Wp.iald0 e173_686 hk h31
theorem e173_687 : decode (j_co 173) 687 = .ok (.aload_n 0, 1) := by decide +kernel
set_option maxRecDepth 20000 in
theorem w173_687 {d : Nat} {st : List Value} {Q : Option Value × jW → Prop} {w : jW} {a1 a2 a3 : Option Value} {x : Nat} : Wp d 173 687 [some (.ref x), a1, a2, a3] (st) w Q = Wp d 173 688 [some (.ref x), a1, a2, a3] (.ref x :: st) w Q := Wp.loc e173_687 rfl rfl rfl
theorem e173_688 : decode (j_co 173) 688 = .ok (.iload_n 3, 1) := by decide +kernel
set_option maxRecDepth 20000 in
theorem w173_688 {d : Nat} {st : List Value} {Q : Option Value × jW → Prop} {w : jW} {a0 a1 a2 : Option Value} {x : Int32} : Wp d 173 688 [a0, a1, a2, some (.int x)] (st) w Q = Wp d 173 689 [a0, a1, a2, some (.int x)] (.int x :: st) w Q := Wp.loc e173_688 rfl rfl rfl
theorem e173_689 : decode (j_co 173) 689 = .ok (.iconst 4, 1) := by decide +kernel
set_option maxRecDepth 20000 in
theorem w173_689 {d : Nat} {st : List Value} {Q : Option Value × jW → Prop} {ls : jL} {w : jW} : Wp d 173 689 ls (st) w Q = Wp d 173 690 ls (.int (nI 4) :: st) w Q := Wp.alu e173_689 rfl rfl
theorem e173_690 : decode (j_co 173) 690 = .ok (.iadd, 1) := by decide +kernel
set_option maxRecDepth 20000 in
theorem w173_690 {d : Nat} {st : List Value} {Q : Option Value × jW → Prop} {ls : jL} {w : jW} {a b : Int32} : Wp d 173 690 ls (.int b :: .int a :: st) w Q = Wp d 173 691 ls (.int (a + b) :: st) w Q := Wp.alu e173_690 rfl rfl
theorem e173_691 : decode (j_co 173) 691 = .ok (.iaload, 1) := by decide +kernel
theorem w173_691 {d k : Nat} {ls : jL} {st : List Value} {I : fI} {L : fL} {Q : Option Value × jW → Prop} {g : List Int32} (hk : k < g.length) (h31 : k < 2147483648) : Wp d 173 691 ls (.int (nI k) :: .ref 0 :: st) (f_W (g.map Value.int) I L) Q = Wp d 173 692 ls (.int (g.getD k 0) :: st) (f_W (g.map Value.int) I L) Q := Wp.iald0 e173_691 hk h31
theorem e173_692 : decode (j_co 173) 692 = .ok (.invokevirtual 71, 3) := by decide +kernel
set_option maxRecDepth 20000 in
theorem w173_692 {d : Nat} {st : List Value} {Q : Option Value × jW → Prop} {ls : jL} {xs : List Value} {I : fI} {L : fL} {r : Nat} {x0 : Int32} {x1 : Int32} {x2 : Int32} {x3 : Int32} (hs : j_sumc st ≤ 8) (ht : f_tg r = 10) : Wp (d + 1) 173 692 ls (.int x3 :: .int x2 :: .int x1 :: .int x0 :: .ref r :: st) (f_W xs I L) Q = Wp d 57 0 [some (.ref r), some (.int x0), some (.int x1), some (.int x2), some (.int x3)] [] (f_W xs I L) (fun r1 => Wp (d + 1) 173 695 ls (r1.1.toList ++ st) r1.2 Q) := Wp.cv (y' := 57) (as := [.int x0, .int x1, .int x2, .int x3]) e173_692 rfl (by decide) rfl (show 5 ≤ 5 by decide) (by decide) hs ht
theorem e173_695 : decode (j_co 173) 695 = .ok (.aload_n 2, 1) := by decide +kernel
set_option maxRecDepth 20000 in
theorem w173_695 {d : Nat} {st : List Value} {Q : Option Value × jW → Prop} {w : jW} {a0 a1 a3 : Option Value} {x : Nat} : Wp d 173 695 [a0, a1, some (.ref x), a3] (st) w Q = Wp d 173 696 [a0, a1, some (.ref x), a3] (.ref x :: st) w Q := Wp.loc e173_695 rfl rfl rfl
theorem e173_696 : decode (j_co 173) 696 = .ok (.aload_n 0, 1) := by decide +kernel
set_option maxRecDepth 20000 in
theorem w173_696 {d : Nat} {st : List Value} {Q : Option Value × jW → Prop} {w : jW} {a1 a2 a3 : Option Value} {x : Nat} : Wp d 173 696 [some (.ref x), a1, a2, a3] (st) w Q = Wp d 173 697 [some (.ref x), a1, a2, a3] (.ref x :: st) w Q := Wp.loc e173_696 rfl rfl rfl
theorem e173_697 : decode (j_co 173) 697 = .ok (.iload_n 3, 1) := by decide +kernel
set_option maxRecDepth 20000 in
theorem w173_697 {d : Nat} {st : List Value} {Q : Option Value × jW → Prop} {w : jW} {a0 a1 a2 : Option Value} {x : Int32} : Wp d 173 697 [a0, a1, a2, some (.int x)] (st) w Q = Wp d 173 698 [a0, a1, a2, some (.int x)] (.int x :: st) w Q := Wp.loc e173_697 rfl rfl rfl
theorem e173_698 : decode (j_co 173) 698 = .ok (.iconst 1, 1) := by decide +kernel
set_option maxRecDepth 20000 in
theorem w173_698 {d : Nat} {st : List Value} {Q : Option Value × jW → Prop} {ls : jL} {w : jW} : Wp d 173 698 ls (st) w Q = Wp d 173 699 ls (.int (nI 1) :: st) w Q := Wp.alu e173_698 rfl rfl
theorem e173_699 : decode (j_co 173) 699 = .ok (.iadd, 1) := by decide +kernel
set_option maxRecDepth 20000 in
theorem w173_699 {d : Nat} {st : List Value} {Q : Option Value × jW → Prop} {ls : jL} {w : jW} {a b : Int32} : Wp d 173 699 ls (.int b :: .int a :: st) w Q = Wp d 173 700 ls (.int (a + b) :: st) w Q := Wp.alu e173_699 rfl rfl
theorem e173_700 : decode (j_co 173) 700 = .ok (.iaload, 1) := by decide +kernel
theorem w173_700 {d k : Nat} {ls : jL} {st : List Value} {I : fI} {L : fL} {Q : Option Value × jW → Prop} {g : List Int32} (hk : k < g.length) (h31 : k < 2147483648) : Wp d 173 700 ls (.int (nI k) :: .ref 0 :: st) (f_W (g.map Value.int) I L) Q = Wp d 173 701 ls (.int (g.getD k 0) :: st) (f_W (g.map Value.int) I L) Q := Wp.iald0 e173_700 hk h31
theorem e173_701 : decode (j_co 173) 701 = .ok (.aload_n 0, 1) := by decide +kernel
set_option maxRecDepth 20000 in
theorem w173_701 {d : Nat} {st : List Value} {Q : Option Value × jW → Prop} {w : jW} {a1 a2 a3 : Option Value} {x : Nat} : Wp d 173 701 [some (.ref x), a1, a2, a3] (st) w Q = Wp d 173 702 [some (.ref x), a1, a2, a3] (.ref x :: st) w Q := Wp.loc e173_701 rfl rfl rfl
theorem e173_702 : decode (j_co 173) 702 = .ok (.iload_n 3, 1) := by decide +kernel
set_option maxRecDepth 20000 in
theorem w173_702 {d : Nat} {st : List Value} {Q : Option Value × jW → Prop} {w : jW} {a0 a1 a2 : Option Value} {x : Int32} : Wp d 173 702 [a0, a1, a2, some (.int x)] (st) w Q = Wp d 173 703 [a0, a1, a2, some (.int x)] (.int x :: st) w Q := Wp.loc e173_702 rfl rfl rfl
theorem e173_703 : decode (j_co 173) 703 = .ok (.iconst 2, 1) := by decide +kernel
set_option maxRecDepth 20000 in
theorem w173_703 {d : Nat} {st : List Value} {Q : Option Value × jW → Prop} {ls : jL} {w : jW} : Wp d 173 703 ls (st) w Q = Wp d 173 704 ls (.int (nI 2) :: st) w Q := Wp.alu e173_703 rfl rfl
theorem e173_704 : decode (j_co 173) 704 = .ok (.iadd, 1) := by decide +kernel
set_option maxRecDepth 20000 in
theorem w173_704 {d : Nat} {st : List Value} {Q : Option Value × jW → Prop} {ls : jL} {w : jW} {a b : Int32} : Wp d 173 704 ls (.int b :: .int a :: st) w Q = Wp d 173 705 ls (.int (a + b) :: st) w Q := Wp.alu e173_704 rfl rfl
theorem e173_705 : decode (j_co 173) 705 = .ok (.iaload, 1) := by decide +kernel
theorem w173_705 {d k : Nat} {ls : jL} {st : List Value} {I : fI} {L : fL} {Q : Option Value × jW → Prop} {g : List Int32} (hk : k < g.length) (h31 : k < 2147483648) : Wp d 173 705 ls (.int (nI k) :: .ref 0 :: st) (f_W (g.map Value.int) I L) Q = Wp d 173 706 ls (.int (g.getD k 0) :: st) (f_W (g.map Value.int) I L) Q := Wp.iald0 e173_705 hk h31
theorem e173_706 : decode (j_co 173) 706 = .ok (.aload_n 0, 1) := by decide +kernel
set_option maxRecDepth 20000 in
theorem w173_706 {d : Nat} {st : List Value} {Q : Option Value × jW → Prop} {w : jW} {a1 a2 a3 : Option Value} {x : Nat} : Wp d 173 706 [some (.ref x), a1, a2, a3] (st) w Q = Wp d 173 707 [some (.ref x), a1, a2, a3] (.ref x :: st) w Q := Wp.loc e173_706 rfl rfl rfl
theorem e173_707 : decode (j_co 173) 707 = .ok (.iload_n 3, 1) := by decide +kernel
set_option maxRecDepth 20000 in
theorem w173_707 {d : Nat} {st : List Value} {Q : Option Value × jW → Prop} {w : jW} {a0 a1 a2 : Option Value} {x : Int32} : Wp d 173 707 [a0, a1, a2, some (.int x)] (st) w Q = Wp d 173 708 [a0, a1, a2, some (.int x)] (.int x :: st) w Q := Wp.loc e173_707 rfl rfl rfl
theorem e173_708 : decode (j_co 173) 708 = .ok (.iconst 3, 1) := by decide +kernel
set_option maxRecDepth 20000 in
theorem w173_708 {d : Nat} {st : List Value} {Q : Option Value × jW → Prop} {ls : jL} {w : jW} : Wp d 173 708 ls (st) w Q = Wp d 173 709 ls (.int (nI 3) :: st) w Q := Wp.alu e173_708 rfl rfl
theorem e173_709 : decode (j_co 173) 709 = .ok (.iadd, 1) := by decide +kernel
set_option maxRecDepth 20000 in
theorem w173_709 {d : Nat} {st : List Value} {Q : Option Value × jW → Prop} {ls : jL} {w : jW} {a b : Int32} : Wp d 173 709 ls (.int b :: .int a :: st) w Q = Wp d 173 710 ls (.int (a + b) :: st) w Q := Wp.alu e173_709 rfl rfl
theorem e173_710 : decode (j_co 173) 710 = .ok (.iaload, 1) := by decide +kernel
theorem w173_710 {d k : Nat} {ls : jL} {st : List Value} {I : fI} {L : fL} {Q : Option Value × jW → Prop} {g : List Int32} (hk : k < g.length) (h31 : k < 2147483648) : Wp d 173 710 ls (.int (nI k) :: .ref 0 :: st) (f_W (g.map Value.int) I L) Q = Wp d 173 711 ls (.int (g.getD k 0) :: st) (f_W (g.map Value.int) I L) Q := Wp.iald0 e173_710 hk h31
theorem e173_711 : decode (j_co 173) 711 = .ok (.aload_n 0, 1) := by decide +kernel
set_option maxRecDepth 20000 in
theorem w173_711 {d : Nat} {st : List Value} {Q : Option Value × jW → Prop} {w : jW} {a1 a2 a3 : Option Value} {x : Nat} : Wp d 173 711 [some (.ref x), a1, a2, a3] (st) w Q = Wp d 173 712 [some (.ref x), a1, a2, a3] (.ref x :: st) w Q := Wp.loc e173_711 rfl rfl rfl
theorem e173_712 : decode (j_co 173) 712 = .ok (.iload_n 3, 1) := by decide +kernel
set_option maxRecDepth 20000 in
theorem w173_712 {d : Nat} {st : List Value} {Q : Option Value × jW → Prop} {w : jW} {a0 a1 a2 : Option Value} {x : Int32} : Wp d 173 712 [a0, a1, a2, some (.int x)] (st) w Q = Wp d 173 713 [a0, a1, a2, some (.int x)] (.int x :: st) w Q := Wp.loc e173_712 rfl rfl rfl
theorem e173_713 : decode (j_co 173) 713 = .ok (.iconst 4, 1) := by decide +kernel
set_option maxRecDepth 20000 in
theorem w173_713 {d : Nat} {st : List Value} {Q : Option Value × jW → Prop} {ls : jL} {w : jW} : Wp d 173 713 ls (st) w Q = Wp d 173 714 ls (.int (nI 4) :: st) w Q := Wp.alu e173_713 rfl rfl
theorem e173_714 : decode (j_co 173) 714 = .ok (.iadd, 1) := by decide +kernel
set_option maxRecDepth 20000 in
theorem w173_714 {d : Nat} {st : List Value} {Q : Option Value × jW → Prop} {ls : jL} {w : jW} {a b : Int32} : Wp d 173 714 ls (.int b :: .int a :: st) w Q = Wp d 173 715 ls (.int (a + b) :: st) w Q := Wp.alu e173_714 rfl rfl
theorem e173_715 : decode (j_co 173) 715 = .ok (.iaload, 1) := by decide +kernel
theorem w173_715 {d k : Nat} {ls : jL} {st : List Value} {I : fI} {L : fL} {Q : Option Value × jW → Prop} {g : List Int32} (hk : k < g.length) (h31 : k < 2147483648) : Wp d 173 715 ls (.int (nI k) :: .ref 0 :: st) (f_W (g.map Value.int) I L) Q = Wp d 173 716 ls (.int (g.getD k 0) :: st) (f_W (g.map Value.int) I L) Q := Wp.iald0 e173_715 hk h31
theorem e173_716 : decode (j_co 173) 716 = .ok (.invokevirtual 74, 3) := by decide +kernel
set_option maxRecDepth 20000 in
theorem w173_716 {d : Nat} {st : List Value} {Q : Option Value × jW → Prop} {ls : jL} {xs : List Value} {I : fI} {L : fL} {r : Nat} {x0 : Int32} {x1 : Int32} {x2 : Int32} {x3 : Int32} (hs : j_sumc st ≤ 8) (ht : f_tg r = 11) : Wp (d + 1) 173 716 ls (.int x3 :: .int x2 :: .int x1 :: .int x0 :: .ref r :: st) (f_W xs I L) Q = Wp d 147 0 [some (.ref r), some (.int x0), some (.int x1), some (.int x2), some (.int x3)] [] (f_W xs I L) (fun r1 => Wp (d + 1) 173 719 ls (r1.1.toList ++ st) r1.2 Q) := Wp.cv (y' := 147) (as := [.int x0, .int x1, .int x2, .int x3]) e173_716 rfl (by decide) rfl (show 5 ≤ 5 by decide) (by decide) hs ht
theorem e173_719 : decode (j_co 173) 719 = .ok (.if_icmp .eq 487, 3) := by decide +kernel
set_option maxRecDepth 20000 in
theorem w173_719 {d : Nat} {st : List Value} {Q : Option Value × jW → Prop} {ls : jL} {w : jW} {a b : Int32} : Wp d 173 719 ls (.int b :: .int a :: st) w Q = ((a = b → Wp d 173 1206 ls st w Q) ∧ (¬ a = b → Wp d 173 722 ls st w Q)) := Wp.if2 (c := a = b) (off := 487) e173_719 rfl rfl rfl rfl rfl
theorem e173_722 : decode (j_co 173) 722 = .ok (.iconst 0, 1) := by decide +kernel
set_option maxRecDepth 20000 in
theorem w173_722 {d : Nat} {st : List Value} {Q : Option Value × jW → Prop} {ls : jL} {w : jW} : Wp d 173 722 ls (st) w Q = Wp d 173 723 ls (.int (nI 0) :: st) w Q := Wp.alu e173_722 rfl rfl
theorem e173_723 : decode (j_co 173) 723 = .ok (.ireturn, 1) := by decide +kernel
set_option maxRecDepth 20000 in
theorem w173_723 {d : Nat} {Q : Option Value × jW → Prop} {ls : jL} {w : jW} {x : Int32} (hx : x = 0 ∨ x = 1) : Wp d 173 723 ls [.int x] w Q = Q (some (.int x), w) := Wp.ret e173_723 (by rcases hx with rfl | rfl <;> rfl)
theorem e173_724 : decode (j_co 173) 724 = .ok (.aload_n 1, 1) := by decide +kernel
set_option maxRecDepth 20000 in
theorem w173_724 {d : Nat} {st : List Value} {Q : Option Value × jW → Prop} {w : jW} {a0 a2 a3 : Option Value} {x : Nat} : Wp d 173 724 [a0, some (.ref x), a2, a3] (st) w Q = Wp d 173 725 [a0, some (.ref x), a2, a3] (.ref x :: st) w Q := Wp.loc e173_724 rfl rfl rfl
theorem e173_725 : decode (j_co 173) 725 = .ok (.aload_n 0, 1) := by decide +kernel
set_option maxRecDepth 20000 in
theorem w173_725 {d : Nat} {st : List Value} {Q : Option Value × jW → Prop} {w : jW} {a1 a2 a3 : Option Value} {x : Nat} : Wp d 173 725 [some (.ref x), a1, a2, a3] (st) w Q = Wp d 173 726 [some (.ref x), a1, a2, a3] (.ref x :: st) w Q := Wp.loc e173_725 rfl rfl rfl
theorem e173_726 : decode (j_co 173) 726 = .ok (.iload_n 3, 1) := by decide +kernel
set_option maxRecDepth 20000 in
theorem w173_726 {d : Nat} {st : List Value} {Q : Option Value × jW → Prop} {w : jW} {a0 a1 a2 : Option Value} {x : Int32} : Wp d 173 726 [a0, a1, a2, some (.int x)] (st) w Q = Wp d 173 727 [a0, a1, a2, some (.int x)] (.int x :: st) w Q := Wp.loc e173_726 rfl rfl rfl
theorem e173_727 : decode (j_co 173) 727 = .ok (.iconst 1, 1) := by decide +kernel
set_option maxRecDepth 20000 in
theorem w173_727 {d : Nat} {st : List Value} {Q : Option Value × jW → Prop} {ls : jL} {w : jW} : Wp d 173 727 ls (st) w Q = Wp d 173 728 ls (.int (nI 1) :: st) w Q := Wp.alu e173_727 rfl rfl
theorem e173_728 : decode (j_co 173) 728 = .ok (.iadd, 1) := by decide +kernel
set_option maxRecDepth 20000 in
theorem w173_728 {d : Nat} {st : List Value} {Q : Option Value × jW → Prop} {ls : jL} {w : jW} {a b : Int32} : Wp d 173 728 ls (.int b :: .int a :: st) w Q = Wp d 173 729 ls (.int (a + b) :: st) w Q := Wp.alu e173_728 rfl rfl
theorem e173_729 : decode (j_co 173) 729 = .ok (.iaload, 1) := by decide +kernel
theorem w173_729 {d k : Nat} {ls : jL} {st : List Value} {I : fI} {L : fL} {Q : Option Value × jW → Prop} {g : List Int32} (hk : k < g.length) (h31 : k < 2147483648) : Wp d 173 729 ls (.int (nI k) :: .ref 0 :: st) (f_W (g.map Value.int) I L) Q = Wp d 173 730 ls (.int (g.getD k 0) :: st) (f_W (g.map Value.int) I L) Q := Wp.iald0 e173_729 hk h31
theorem e173_730 : decode (j_co 173) 730 = .ok (.invokevirtual 75, 3) := by decide +kernel
set_option maxRecDepth 20000 in
theorem w173_730 {d : Nat} {st : List Value} {Q : Option Value × jW → Prop} {ls : jL} {xs : List Value} {I : fI} {L : fL} {r : Nat} {x0 : Int32} (hs : j_sumc st ≤ 8) (ht : f_tg r = 10) : Wp (d + 1) 173 730 ls (.int x0 :: .ref r :: st) (f_W xs I L) Q = Wp d 63 0 [some (.ref r), some (.int x0)] [] (f_W xs I L) (fun r1 => Wp (d + 1) 173 733 ls (r1.1.toList ++ st) r1.2 Q) := Wp.cv (y' := 63) (as := [.int x0]) e173_730 rfl (by decide) rfl (show 2 ≤ 2 by decide) (by decide) hs ht
theorem e173_733 : decode (j_co 173) 733 = .ok (.aload_n 2, 1) := by decide +kernel
set_option maxRecDepth 20000 in
theorem w173_733 {d : Nat} {st : List Value} {Q : Option Value × jW → Prop} {w : jW} {a0 a1 a3 : Option Value} {x : Nat} : Wp d 173 733 [a0, a1, some (.ref x), a3] (st) w Q = Wp d 173 734 [a0, a1, some (.ref x), a3] (.ref x :: st) w Q := Wp.loc e173_733 rfl rfl rfl
theorem e173_734 : decode (j_co 173) 734 = .ok (.aload_n 0, 1) := by decide +kernel
set_option maxRecDepth 20000 in
theorem w173_734 {d : Nat} {st : List Value} {Q : Option Value × jW → Prop} {w : jW} {a1 a2 a3 : Option Value} {x : Nat} : Wp d 173 734 [some (.ref x), a1, a2, a3] (st) w Q = Wp d 173 735 [some (.ref x), a1, a2, a3] (.ref x :: st) w Q := Wp.loc e173_734 rfl rfl rfl
theorem e173_735 : decode (j_co 173) 735 = .ok (.iload_n 3, 1) := by decide +kernel
set_option maxRecDepth 20000 in
theorem w173_735 {d : Nat} {st : List Value} {Q : Option Value × jW → Prop} {w : jW} {a0 a1 a2 : Option Value} {x : Int32} : Wp d 173 735 [a0, a1, a2, some (.int x)] (st) w Q = Wp d 173 736 [a0, a1, a2, some (.int x)] (.int x :: st) w Q := Wp.loc e173_735 rfl rfl rfl
theorem e173_736 : decode (j_co 173) 736 = .ok (.iconst 1, 1) := by decide +kernel
set_option maxRecDepth 20000 in
theorem w173_736 {d : Nat} {st : List Value} {Q : Option Value × jW → Prop} {ls : jL} {w : jW} : Wp d 173 736 ls (st) w Q = Wp d 173 737 ls (.int (nI 1) :: st) w Q := Wp.alu e173_736 rfl rfl
theorem e173_737 : decode (j_co 173) 737 = .ok (.iadd, 1) := by decide +kernel
set_option maxRecDepth 20000 in
theorem w173_737 {d : Nat} {st : List Value} {Q : Option Value × jW → Prop} {ls : jL} {w : jW} {a b : Int32} : Wp d 173 737 ls (.int b :: .int a :: st) w Q = Wp d 173 738 ls (.int (a + b) :: st) w Q := Wp.alu e173_737 rfl rfl
theorem e173_738 : decode (j_co 173) 738 = .ok (.iaload, 1) := by decide +kernel
theorem w173_738 {d k : Nat} {ls : jL} {st : List Value} {I : fI} {L : fL} {Q : Option Value × jW → Prop} {g : List Int32} (hk : k < g.length) (h31 : k < 2147483648) : Wp d 173 738 ls (.int (nI k) :: .ref 0 :: st) (f_W (g.map Value.int) I L) Q = Wp d 173 739 ls (.int (g.getD k 0) :: st) (f_W (g.map Value.int) I L) Q := Wp.iald0 e173_738 hk h31
theorem e173_739 : decode (j_co 173) 739 = .ok (.invokevirtual 78, 3) := by decide +kernel
set_option maxRecDepth 20000 in
theorem w173_739 {d : Nat} {st : List Value} {Q : Option Value × jW → Prop} {ls : jL} {xs : List Value} {I : fI} {L : fL} {r : Nat} {x0 : Int32} (hs : j_sumc st ≤ 8) (ht : f_tg r = 11) : Wp (d + 1) 173 739 ls (.int x0 :: .ref r :: st) (f_W xs I L) Q = Wp d 150 0 [some (.ref r), some (.int x0), none, none, none, none, none, none, none] [] (f_W xs I L) (fun r1 => Wp (d + 1) 173 742 ls (r1.1.toList ++ st) r1.2 Q) := Wp.cv (y' := 150) (as := [.int x0]) e173_739 rfl (by decide) rfl (show 2 ≤ 9 by decide) (by decide) hs ht
theorem e173_742 : decode (j_co 173) 742 = .ok (.if_icmp .eq 464, 3) := by decide +kernel
set_option maxRecDepth 20000 in
theorem w173_742 {d : Nat} {st : List Value} {Q : Option Value × jW → Prop} {ls : jL} {w : jW} {a b : Int32} : Wp d 173 742 ls (.int b :: .int a :: st) w Q = ((a = b → Wp d 173 1206 ls st w Q) ∧ (¬ a = b → Wp d 173 745 ls st w Q)) := Wp.if2 (c := a = b) (off := 464) e173_742 rfl rfl rfl rfl rfl
theorem e173_745 : decode (j_co 173) 745 = .ok (.iconst 0, 1) := by decide +kernel
set_option maxRecDepth 20000 in
theorem w173_745 {d : Nat} {st : List Value} {Q : Option Value × jW → Prop} {ls : jL} {w : jW} : Wp d 173 745 ls (st) w Q = Wp d 173 746 ls (.int (nI 0) :: st) w Q := Wp.alu e173_745 rfl rfl
theorem e173_746 : decode (j_co 173) 746 = .ok (.ireturn, 1) := by decide +kernel
set_option maxRecDepth 20000 in
theorem w173_746 {d : Nat} {Q : Option Value × jW → Prop} {ls : jL} {w : jW} {x : Int32} (hx : x = 0 ∨ x = 1) : Wp d 173 746 ls [.int x] w Q = Q (some (.int x), w) := Wp.ret e173_746 (by rcases hx with rfl | rfl <;> rfl)
theorem e173_747 : decode (j_co 173) 747 = .ok (.aload_n 1, 1) := by decide +kernel
set_option maxRecDepth 20000 in
theorem w173_747 {d : Nat} {st : List Value} {Q : Option Value × jW → Prop} {w : jW} {a0 a2 a3 : Option Value} {x : Nat} : Wp d 173 747 [a0, some (.ref x), a2, a3] (st) w Q = Wp d 173 748 [a0, some (.ref x), a2, a3] (.ref x :: st) w Q := Wp.loc e173_747 rfl rfl rfl
theorem e173_748 : decode (j_co 173) 748 = .ok (.invokevirtual 79, 3) := by decide +kernel
set_option maxRecDepth 20000 in
theorem w173_748 {d : Nat} {st : List Value} {Q : Option Value × jW → Prop} {ls : jL} {xs : List Value} {I : fI} {L : fL} {r : Nat} (hs : j_sumc st ≤ 8) (ht : f_tg r = 10) : Wp (d + 1) 173 748 ls (.ref r :: st) (f_W xs I L) Q = Wp d 68 0 [some (.ref r)] [] (f_W xs I L) (fun r1 => Wp (d + 1) 173 751 ls (r1.1.toList ++ st) r1.2 Q) := Wp.cv (y' := 68) (as := []) e173_748 rfl (by decide) rfl (show 1 ≤ 1 by decide) (by decide) hs ht
theorem e173_751 : decode (j_co 173) 751 = .ok (.aload_n 2, 1) := by decide +kernel
set_option maxRecDepth 20000 in
theorem w173_751 {d : Nat} {st : List Value} {Q : Option Value × jW → Prop} {w : jW} {a0 a1 a3 : Option Value} {x : Nat} : Wp d 173 751 [a0, a1, some (.ref x), a3] (st) w Q = Wp d 173 752 [a0, a1, some (.ref x), a3] (.ref x :: st) w Q := Wp.loc e173_751 rfl rfl rfl
theorem e173_752 : decode (j_co 173) 752 = .ok (.invokevirtual 82, 3) := by decide +kernel
set_option maxRecDepth 20000 in
theorem w173_752 {d : Nat} {st : List Value} {Q : Option Value × jW → Prop} {ls : jL} {xs : List Value} {I : fI} {L : fL} {r : Nat} (hs : j_sumc st ≤ 8) (ht : f_tg r = 11) : Wp (d + 1) 173 752 ls (.ref r :: st) (f_W xs I L) Q = Wp d 151 0 [some (.ref r)] [] (f_W xs I L) (fun r1 => Wp (d + 1) 173 755 ls (r1.1.toList ++ st) r1.2 Q) := Wp.cv (y' := 151) (as := []) e173_752 rfl (by decide) rfl (show 1 ≤ 1 by decide) (by decide) hs ht
theorem e173_755 : decode (j_co 173) 755 = .ok (.if_icmp .eq 451, 3) := by decide +kernel
set_option maxRecDepth 20000 in
theorem w173_755 {d : Nat} {st : List Value} {Q : Option Value × jW → Prop} {ls : jL} {w : jW} {a b : Int32} : Wp d 173 755 ls (.int b :: .int a :: st) w Q = ((a = b → Wp d 173 1206 ls st w Q) ∧ (¬ a = b → Wp d 173 758 ls st w Q)) := Wp.if2 (c := a = b) (off := 451) e173_755 rfl rfl rfl rfl rfl
theorem e173_758 : decode (j_co 173) 758 = .ok (.iconst 0, 1) := by decide +kernel
set_option maxRecDepth 20000 in
theorem w173_758 {d : Nat} {st : List Value} {Q : Option Value × jW → Prop} {ls : jL} {w : jW} : Wp d 173 758 ls (st) w Q = Wp d 173 759 ls (.int (nI 0) :: st) w Q := Wp.alu e173_758 rfl rfl
theorem e173_759 : decode (j_co 173) 759 = .ok (.ireturn, 1) := by decide +kernel
set_option maxRecDepth 20000 in
theorem w173_759 {d : Nat} {Q : Option Value × jW → Prop} {ls : jL} {w : jW} {x : Int32} (hx : x = 0 ∨ x = 1) : Wp d 173 759 ls [.int x] w Q = Q (some (.int x), w) := Wp.ret e173_759 (by rcases hx with rfl | rfl <;> rfl)
theorem e173_760 : decode (j_co 173) 760 = .ok (.aload_n 1, 1) := by decide +kernel
set_option maxRecDepth 20000 in
theorem w173_760 {d : Nat} {st : List Value} {Q : Option Value × jW → Prop} {w : jW} {a0 a2 a3 : Option Value} {x : Nat} : Wp d 173 760 [a0, some (.ref x), a2, a3] (st) w Q = Wp d 173 761 [a0, some (.ref x), a2, a3] (.ref x :: st) w Q := Wp.loc e173_760 rfl rfl rfl
theorem e173_761 : decode (j_co 173) 761 = .ok (.aload_n 0, 1) := by decide +kernel
set_option maxRecDepth 20000 in
theorem w173_761 {d : Nat} {st : List Value} {Q : Option Value × jW → Prop} {w : jW} {a1 a2 a3 : Option Value} {x : Nat} : Wp d 173 761 [some (.ref x), a1, a2, a3] (st) w Q = Wp d 173 762 [some (.ref x), a1, a2, a3] (.ref x :: st) w Q := Wp.loc e173_761 rfl rfl rfl
theorem e173_762 : decode (j_co 173) 762 = .ok (.iload_n 3, 1) := by decide +kernel
set_option maxRecDepth 20000 in
theorem w173_762 {d : Nat} {st : List Value} {Q : Option Value × jW → Prop} {w : jW} {a0 a1 a2 : Option Value} {x : Int32} : Wp d 173 762 [a0, a1, a2, some (.int x)] (st) w Q = Wp d 173 763 [a0, a1, a2, some (.int x)] (.int x :: st) w Q := Wp.loc e173_762 rfl rfl rfl
theorem e173_763 : decode (j_co 173) 763 = .ok (.iconst 1, 1) := by decide +kernel
set_option maxRecDepth 20000 in
theorem w173_763 {d : Nat} {st : List Value} {Q : Option Value × jW → Prop} {ls : jL} {w : jW} : Wp d 173 763 ls (st) w Q = Wp d 173 764 ls (.int (nI 1) :: st) w Q := Wp.alu e173_763 rfl rfl
theorem e173_764 : decode (j_co 173) 764 = .ok (.iadd, 1) := by decide +kernel
set_option maxRecDepth 20000 in
theorem w173_764 {d : Nat} {st : List Value} {Q : Option Value × jW → Prop} {ls : jL} {w : jW} {a b : Int32} : Wp d 173 764 ls (.int b :: .int a :: st) w Q = Wp d 173 765 ls (.int (a + b) :: st) w Q := Wp.alu e173_764 rfl rfl
theorem e173_765 : decode (j_co 173) 765 = .ok (.iaload, 1) := by decide +kernel
theorem w173_765 {d k : Nat} {ls : jL} {st : List Value} {I : fI} {L : fL} {Q : Option Value × jW → Prop} {g : List Int32} (hk : k < g.length) (h31 : k < 2147483648) : Wp d 173 765 ls (.int (nI k) :: .ref 0 :: st) (f_W (g.map Value.int) I L) Q = Wp d 173 766 ls (.int (g.getD k 0) :: st) (f_W (g.map Value.int) I L) Q := Wp.iald0 e173_765 hk h31
theorem e173_766 : decode (j_co 173) 766 = .ok (.aload_n 0, 1) := by decide +kernel
set_option maxRecDepth 20000 in
theorem w173_766 {d : Nat} {st : List Value} {Q : Option Value × jW → Prop} {w : jW} {a1 a2 a3 : Option Value} {x : Nat} : Wp d 173 766 [some (.ref x), a1, a2, a3] (st) w Q = Wp d 173 767 [some (.ref x), a1, a2, a3] (.ref x :: st) w Q := Wp.loc e173_766 rfl rfl rfl
theorem e173_767 : decode (j_co 173) 767 = .ok (.iload_n 3, 1) := by decide +kernel
set_option maxRecDepth 20000 in
theorem w173_767 {d : Nat} {st : List Value} {Q : Option Value × jW → Prop} {w : jW} {a0 a1 a2 : Option Value} {x : Int32} : Wp d 173 767 [a0, a1, a2, some (.int x)] (st) w Q = Wp d 173 768 [a0, a1, a2, some (.int x)] (.int x :: st) w Q := Wp.loc e173_767 rfl rfl rfl
theorem e173_768 : decode (j_co 173) 768 = .ok (.iconst 2, 1) := by decide +kernel
set_option maxRecDepth 20000 in
theorem w173_768 {d : Nat} {st : List Value} {Q : Option Value × jW → Prop} {ls : jL} {w : jW} : Wp d 173 768 ls (st) w Q = Wp d 173 769 ls (.int (nI 2) :: st) w Q := Wp.alu e173_768 rfl rfl
theorem e173_769 : decode (j_co 173) 769 = .ok (.iadd, 1) := by decide +kernel
set_option maxRecDepth 20000 in
theorem w173_769 {d : Nat} {st : List Value} {Q : Option Value × jW → Prop} {ls : jL} {w : jW} {a b : Int32} : Wp d 173 769 ls (.int b :: .int a :: st) w Q = Wp d 173 770 ls (.int (a + b) :: st) w Q := Wp.alu e173_769 rfl rfl
theorem e173_770 : decode (j_co 173) 770 = .ok (.iaload, 1) := by decide +kernel
theorem w173_770 {d k : Nat} {ls : jL} {st : List Value} {I : fI} {L : fL} {Q : Option Value × jW → Prop} {g : List Int32} (hk : k < g.length) (h31 : k < 2147483648) : Wp d 173 770 ls (.int (nI k) :: .ref 0 :: st) (f_W (g.map Value.int) I L) Q = Wp d 173 771 ls (.int (g.getD k 0) :: st) (f_W (g.map Value.int) I L) Q := Wp.iald0 e173_770 hk h31
theorem e173_771 : decode (j_co 173) 771 = .ok (.invokevirtual 83, 3) := by decide +kernel
set_option maxRecDepth 20000 in
theorem w173_771 {d : Nat} {st : List Value} {Q : Option Value × jW → Prop} {ls : jL} {xs : List Value} {I : fI} {L : fL} {r : Nat} {x0 : Int32} {x1 : Int32} (hs : j_sumc st ≤ 8) (ht : f_tg r = 10) : Wp (d + 1) 173 771 ls (.int x1 :: .int x0 :: .ref r :: st) (f_W xs I L) Q = Wp d 74 0 [some (.ref r), some (.int x0), some (.int x1)] [] (f_W xs I L) (fun r1 => Wp (d + 1) 173 774 ls (r1.1.toList ++ st) r1.2 Q) := Wp.cv (y' := 74) (as := [.int x0, .int x1]) e173_771 rfl (by decide) rfl (show 3 ≤ 3 by decide) (by decide) hs ht
theorem e173_774 : decode (j_co 173) 774 = .ok (.aload_n 2, 1) := by decide +kernel
set_option maxRecDepth 20000 in
theorem w173_774 {d : Nat} {st : List Value} {Q : Option Value × jW → Prop} {w : jW} {a0 a1 a3 : Option Value} {x : Nat} : Wp d 173 774 [a0, a1, some (.ref x), a3] (st) w Q = Wp d 173 775 [a0, a1, some (.ref x), a3] (.ref x :: st) w Q := Wp.loc e173_774 rfl rfl rfl
theorem e173_775 : decode (j_co 173) 775 = .ok (.aload_n 0, 1) := by decide +kernel
set_option maxRecDepth 20000 in
theorem w173_775 {d : Nat} {st : List Value} {Q : Option Value × jW → Prop} {w : jW} {a1 a2 a3 : Option Value} {x : Nat} : Wp d 173 775 [some (.ref x), a1, a2, a3] (st) w Q = Wp d 173 776 [some (.ref x), a1, a2, a3] (.ref x :: st) w Q := Wp.loc e173_775 rfl rfl rfl
theorem e173_776 : decode (j_co 173) 776 = .ok (.iload_n 3, 1) := by decide +kernel
set_option maxRecDepth 20000 in
theorem w173_776 {d : Nat} {st : List Value} {Q : Option Value × jW → Prop} {w : jW} {a0 a1 a2 : Option Value} {x : Int32} : Wp d 173 776 [a0, a1, a2, some (.int x)] (st) w Q = Wp d 173 777 [a0, a1, a2, some (.int x)] (.int x :: st) w Q := Wp.loc e173_776 rfl rfl rfl
theorem e173_777 : decode (j_co 173) 777 = .ok (.iconst 1, 1) := by decide +kernel
set_option maxRecDepth 20000 in
theorem w173_777 {d : Nat} {st : List Value} {Q : Option Value × jW → Prop} {ls : jL} {w : jW} : Wp d 173 777 ls (st) w Q = Wp d 173 778 ls (.int (nI 1) :: st) w Q := Wp.alu e173_777 rfl rfl
theorem e173_778 : decode (j_co 173) 778 = .ok (.iadd, 1) := by decide +kernel
set_option maxRecDepth 20000 in
theorem w173_778 {d : Nat} {st : List Value} {Q : Option Value × jW → Prop} {ls : jL} {w : jW} {a b : Int32} : Wp d 173 778 ls (.int b :: .int a :: st) w Q = Wp d 173 779 ls (.int (a + b) :: st) w Q := Wp.alu e173_778 rfl rfl
theorem e173_779 : decode (j_co 173) 779 = .ok (.iaload, 1) := by decide +kernel
theorem w173_779 {d k : Nat} {ls : jL} {st : List Value} {I : fI} {L : fL} {Q : Option Value × jW → Prop} {g : List Int32} (hk : k < g.length) (h31 : k < 2147483648) : Wp d 173 779 ls (.int (nI k) :: .ref 0 :: st) (f_W (g.map Value.int) I L) Q = Wp d 173 780 ls (.int (g.getD k 0) :: st) (f_W (g.map Value.int) I L) Q := Wp.iald0 e173_779 hk h31
theorem e173_780 : decode (j_co 173) 780 = .ok (.aload_n 0, 1) := by decide +kernel
set_option maxRecDepth 20000 in
theorem w173_780 {d : Nat} {st : List Value} {Q : Option Value × jW → Prop} {w : jW} {a1 a2 a3 : Option Value} {x : Nat} : Wp d 173 780 [some (.ref x), a1, a2, a3] (st) w Q = Wp d 173 781 [some (.ref x), a1, a2, a3] (.ref x :: st) w Q := Wp.loc e173_780 rfl rfl rfl
theorem e173_781 : decode (j_co 173) 781 = .ok (.iload_n 3, 1) := by decide +kernel
set_option maxRecDepth 20000 in
theorem w173_781 {d : Nat} {st : List Value} {Q : Option Value × jW → Prop} {w : jW} {a0 a1 a2 : Option Value} {x : Int32} : Wp d 173 781 [a0, a1, a2, some (.int x)] (st) w Q = Wp d 173 782 [a0, a1, a2, some (.int x)] (.int x :: st) w Q := Wp.loc e173_781 rfl rfl rfl
theorem e173_782 : decode (j_co 173) 782 = .ok (.iconst 2, 1) := by decide +kernel
set_option maxRecDepth 20000 in
theorem w173_782 {d : Nat} {st : List Value} {Q : Option Value × jW → Prop} {ls : jL} {w : jW} : Wp d 173 782 ls (st) w Q = Wp d 173 783 ls (.int (nI 2) :: st) w Q := Wp.alu e173_782 rfl rfl
theorem e173_783 : decode (j_co 173) 783 = .ok (.iadd, 1) := by decide +kernel
set_option maxRecDepth 20000 in
theorem w173_783 {d : Nat} {st : List Value} {Q : Option Value × jW → Prop} {ls : jL} {w : jW} {a b : Int32} : Wp d 173 783 ls (.int b :: .int a :: st) w Q = Wp d 173 784 ls (.int (a + b) :: st) w Q := Wp.alu e173_783 rfl rfl
theorem e173_784 : decode (j_co 173) 784 = .ok (.iaload, 1) := by decide +kernel
theorem w173_784 {d k : Nat} {ls : jL} {st : List Value} {I : fI} {L : fL} {Q : Option Value × jW → Prop} {g : List Int32} (hk : k < g.length) (h31 : k < 2147483648) : Wp d 173 784 ls (.int (nI k) :: .ref 0 :: st) (f_W (g.map Value.int) I L) Q = Wp d 173 785 ls (.int (g.getD k 0) :: st) (f_W (g.map Value.int) I L) Q := Wp.iald0 e173_784 hk h31
theorem e173_785 : decode (j_co 173) 785 = .ok (.invokevirtual 86, 3) := by decide +kernel
set_option maxRecDepth 20000 in
theorem w173_785 {d : Nat} {st : List Value} {Q : Option Value × jW → Prop} {ls : jL} {xs : List Value} {I : fI} {L : fL} {r : Nat} {x0 : Int32} {x1 : Int32} (hs : j_sumc st ≤ 8) (ht : f_tg r = 11) : Wp (d + 1) 173 785 ls (.int x1 :: .int x0 :: .ref r :: st) (f_W xs I L) Q = Wp d 154 0 [some (.ref r), some (.int x0), some (.int x1), none] [] (f_W xs I L) (fun r1 => Wp (d + 1) 173 788 ls (r1.1.toList ++ st) r1.2 Q) := Wp.cv (y' := 154) (as := [.int x0, .int x1]) e173_785 rfl (by decide) rfl (show 3 ≤ 4 by decide) (by decide) hs ht
theorem e173_788 : decode (j_co 173) 788 = .ok (.if_icmp .eq 418, 3) := by decide +kernel
set_option maxRecDepth 20000 in
theorem w173_788 {d : Nat} {st : List Value} {Q : Option Value × jW → Prop} {ls : jL} {w : jW} {a b : Int32} : Wp d 173 788 ls (.int b :: .int a :: st) w Q = ((a = b → Wp d 173 1206 ls st w Q) ∧ (¬ a = b → Wp d 173 791 ls st w Q)) := Wp.if2 (c := a = b) (off := 418) e173_788 rfl rfl rfl rfl rfl
theorem e173_791 : decode (j_co 173) 791 = .ok (.iconst 0, 1) := by decide +kernel
set_option maxRecDepth 20000 in
theorem w173_791 {d : Nat} {st : List Value} {Q : Option Value × jW → Prop} {ls : jL} {w : jW} : Wp d 173 791 ls (st) w Q = Wp d 173 792 ls (.int (nI 0) :: st) w Q := Wp.alu e173_791 rfl rfl
theorem e173_792 : decode (j_co 173) 792 = .ok (.ireturn, 1) := by decide +kernel
set_option maxRecDepth 20000 in
theorem w173_792 {d : Nat} {Q : Option Value × jW → Prop} {ls : jL} {w : jW} {x : Int32} (hx : x = 0 ∨ x = 1) : Wp d 173 792 ls [.int x] w Q = Q (some (.int x), w) := Wp.ret e173_792 (by rcases hx with rfl | rfl <;> rfl)
theorem e173_793 : decode (j_co 173) 793 = .ok (.aload_n 1, 1) := by decide +kernel
set_option maxRecDepth 20000 in
theorem w173_793 {d : Nat} {st : List Value} {Q : Option Value × jW → Prop} {w : jW} {a0 a2 a3 : Option Value} {x : Nat} : Wp d 173 793 [a0, some (.ref x), a2, a3] (st) w Q = Wp d 173 794 [a0, some (.ref x), a2, a3] (.ref x :: st) w Q := Wp.loc e173_793 rfl rfl rfl
theorem e173_794 : decode (j_co 173) 794 = .ok (.aload_n 0, 1) := by decide +kernel
set_option maxRecDepth 20000 in
theorem w173_794 {d : Nat} {st : List Value} {Q : Option Value × jW → Prop} {w : jW} {a1 a2 a3 : Option Value} {x : Nat} : Wp d 173 794 [some (.ref x), a1, a2, a3] (st) w Q = Wp d 173 795 [some (.ref x), a1, a2, a3] (.ref x :: st) w Q := Wp.loc e173_794 rfl rfl rfl
theorem e173_795 : decode (j_co 173) 795 = .ok (.iload_n 3, 1) := by decide +kernel
set_option maxRecDepth 20000 in
theorem w173_795 {d : Nat} {st : List Value} {Q : Option Value × jW → Prop} {w : jW} {a0 a1 a2 : Option Value} {x : Int32} : Wp d 173 795 [a0, a1, a2, some (.int x)] (st) w Q = Wp d 173 796 [a0, a1, a2, some (.int x)] (.int x :: st) w Q := Wp.loc e173_795 rfl rfl rfl
theorem e173_796 : decode (j_co 173) 796 = .ok (.iconst 1, 1) := by decide +kernel
set_option maxRecDepth 20000 in
theorem w173_796 {d : Nat} {st : List Value} {Q : Option Value × jW → Prop} {ls : jL} {w : jW} : Wp d 173 796 ls (st) w Q = Wp d 173 797 ls (.int (nI 1) :: st) w Q := Wp.alu e173_796 rfl rfl
theorem e173_797 : decode (j_co 173) 797 = .ok (.iadd, 1) := by decide +kernel
set_option maxRecDepth 20000 in
theorem w173_797 {d : Nat} {st : List Value} {Q : Option Value × jW → Prop} {ls : jL} {w : jW} {a b : Int32} : Wp d 173 797 ls (.int b :: .int a :: st) w Q = Wp d 173 798 ls (.int (a + b) :: st) w Q := Wp.alu e173_797 rfl rfl
theorem e173_798 : decode (j_co 173) 798 = .ok (.iaload, 1) := by decide +kernel
theorem w173_798 {d k : Nat} {ls : jL} {st : List Value} {I : fI} {L : fL} {Q : Option Value × jW → Prop} {g : List Int32} (hk : k < g.length) (h31 : k < 2147483648) : Wp d 173 798 ls (.int (nI k) :: .ref 0 :: st) (f_W (g.map Value.int) I L) Q = Wp d 173 799 ls (.int (g.getD k 0) :: st) (f_W (g.map Value.int) I L) Q := Wp.iald0 e173_798 hk h31
theorem e173_799 : decode (j_co 173) 799 = .ok (.aload_n 0, 1) := by decide +kernel
set_option maxRecDepth 20000 in
theorem w173_799 {d : Nat} {st : List Value} {Q : Option Value × jW → Prop} {w : jW} {a1 a2 a3 : Option Value} {x : Nat} : Wp d 173 799 [some (.ref x), a1, a2, a3] (st) w Q = Wp d 173 800 [some (.ref x), a1, a2, a3] (.ref x :: st) w Q := Wp.loc e173_799 rfl rfl rfl
theorem e173_800 : decode (j_co 173) 800 = .ok (.iload_n 3, 1) := by decide +kernel
set_option maxRecDepth 20000 in
theorem w173_800 {d : Nat} {st : List Value} {Q : Option Value × jW → Prop} {w : jW} {a0 a1 a2 : Option Value} {x : Int32} : Wp d 173 800 [a0, a1, a2, some (.int x)] (st) w Q = Wp d 173 801 [a0, a1, a2, some (.int x)] (.int x :: st) w Q := Wp.loc e173_800 rfl rfl rfl
theorem e173_801 : decode (j_co 173) 801 = .ok (.iconst 2, 1) := by decide +kernel
set_option maxRecDepth 20000 in
theorem w173_801 {d : Nat} {st : List Value} {Q : Option Value × jW → Prop} {ls : jL} {w : jW} : Wp d 173 801 ls (st) w Q = Wp d 173 802 ls (.int (nI 2) :: st) w Q := Wp.alu e173_801 rfl rfl
theorem e173_802 : decode (j_co 173) 802 = .ok (.iadd, 1) := by decide +kernel
set_option maxRecDepth 20000 in
theorem w173_802 {d : Nat} {st : List Value} {Q : Option Value × jW → Prop} {ls : jL} {w : jW} {a b : Int32} : Wp d 173 802 ls (.int b :: .int a :: st) w Q = Wp d 173 803 ls (.int (a + b) :: st) w Q := Wp.alu e173_802 rfl rfl
theorem e173_803 : decode (j_co 173) 803 = .ok (.iaload, 1) := by decide +kernel
theorem w173_803 {d k : Nat} {ls : jL} {st : List Value} {I : fI} {L : fL} {Q : Option Value × jW → Prop} {g : List Int32} (hk : k < g.length) (h31 : k < 2147483648) : Wp d 173 803 ls (.int (nI k) :: .ref 0 :: st) (f_W (g.map Value.int) I L) Q = Wp d 173 804 ls (.int (g.getD k 0) :: st) (f_W (g.map Value.int) I L) Q := Wp.iald0 e173_803 hk h31
theorem e173_804 : decode (j_co 173) 804 = .ok (.aload_n 0, 1) := by decide +kernel
set_option maxRecDepth 20000 in
theorem w173_804 {d : Nat} {st : List Value} {Q : Option Value × jW → Prop} {w : jW} {a1 a2 a3 : Option Value} {x : Nat} : Wp d 173 804 [some (.ref x), a1, a2, a3] (st) w Q = Wp d 173 805 [some (.ref x), a1, a2, a3] (.ref x :: st) w Q := Wp.loc e173_804 rfl rfl rfl
theorem e173_805 : decode (j_co 173) 805 = .ok (.iload_n 3, 1) := by decide +kernel
set_option maxRecDepth 20000 in
theorem w173_805 {d : Nat} {st : List Value} {Q : Option Value × jW → Prop} {w : jW} {a0 a1 a2 : Option Value} {x : Int32} : Wp d 173 805 [a0, a1, a2, some (.int x)] (st) w Q = Wp d 173 806 [a0, a1, a2, some (.int x)] (.int x :: st) w Q := Wp.loc e173_805 rfl rfl rfl
theorem e173_806 : decode (j_co 173) 806 = .ok (.iconst 3, 1) := by decide +kernel
set_option maxRecDepth 20000 in
theorem w173_806 {d : Nat} {st : List Value} {Q : Option Value × jW → Prop} {ls : jL} {w : jW} : Wp d 173 806 ls (st) w Q = Wp d 173 807 ls (.int (nI 3) :: st) w Q := Wp.alu e173_806 rfl rfl
theorem e173_807 : decode (j_co 173) 807 = .ok (.iadd, 1) := by decide +kernel
set_option maxRecDepth 20000 in
theorem w173_807 {d : Nat} {st : List Value} {Q : Option Value × jW → Prop} {ls : jL} {w : jW} {a b : Int32} : Wp d 173 807 ls (.int b :: .int a :: st) w Q = Wp d 173 808 ls (.int (a + b) :: st) w Q := Wp.alu e173_807 rfl rfl
theorem e173_808 : decode (j_co 173) 808 = .ok (.iaload, 1) := by decide +kernel
theorem w173_808 {d k : Nat} {ls : jL} {st : List Value} {I : fI} {L : fL} {Q : Option Value × jW → Prop} {g : List Int32} (hk : k < g.length) (h31 : k < 2147483648) : Wp d 173 808 ls (.int (nI k) :: .ref 0 :: st) (f_W (g.map Value.int) I L) Q = Wp d 173 809 ls (.int (g.getD k 0) :: st) (f_W (g.map Value.int) I L) Q := Wp.iald0 e173_808 hk h31
theorem e173_809 : decode (j_co 173) 809 = .ok (.aload_n 0, 1) := by decide +kernel
set_option maxRecDepth 20000 in
theorem w173_809 {d : Nat} {st : List Value} {Q : Option Value × jW → Prop} {w : jW} {a1 a2 a3 : Option Value} {x : Nat} : Wp d 173 809 [some (.ref x), a1, a2, a3] (st) w Q = Wp d 173 810 [some (.ref x), a1, a2, a3] (.ref x :: st) w Q := Wp.loc e173_809 rfl rfl rfl
theorem e173_810 : decode (j_co 173) 810 = .ok (.iload_n 3, 1) := by decide +kernel
set_option maxRecDepth 20000 in
theorem w173_810 {d : Nat} {st : List Value} {Q : Option Value × jW → Prop} {w : jW} {a0 a1 a2 : Option Value} {x : Int32} : Wp d 173 810 [a0, a1, a2, some (.int x)] (st) w Q = Wp d 173 811 [a0, a1, a2, some (.int x)] (.int x :: st) w Q := Wp.loc e173_810 rfl rfl rfl
theorem e173_811 : decode (j_co 173) 811 = .ok (.iconst 4, 1) := by decide +kernel
set_option maxRecDepth 20000 in
theorem w173_811 {d : Nat} {st : List Value} {Q : Option Value × jW → Prop} {ls : jL} {w : jW} : Wp d 173 811 ls (st) w Q = Wp d 173 812 ls (.int (nI 4) :: st) w Q := Wp.alu e173_811 rfl rfl
theorem e173_812 : decode (j_co 173) 812 = .ok (.iadd, 1) := by decide +kernel
set_option maxRecDepth 20000 in
theorem w173_812 {d : Nat} {st : List Value} {Q : Option Value × jW → Prop} {ls : jL} {w : jW} {a b : Int32} : Wp d 173 812 ls (.int b :: .int a :: st) w Q = Wp d 173 813 ls (.int (a + b) :: st) w Q := Wp.alu e173_812 rfl rfl
theorem e173_813 : decode (j_co 173) 813 = .ok (.iaload, 1) := by decide +kernel
theorem w173_813 {d k : Nat} {ls : jL} {st : List Value} {I : fI} {L : fL} {Q : Option Value × jW → Prop} {g : List Int32} (hk : k < g.length) (h31 : k < 2147483648) : Wp d 173 813 ls (.int (nI k) :: .ref 0 :: st) (f_W (g.map Value.int) I L) Q = Wp d 173 814 ls (.int (g.getD k 0) :: st) (f_W (g.map Value.int) I L) Q := Wp.iald0 e173_813 hk h31
theorem e173_814 : decode (j_co 173) 814 = .ok (.invokevirtual 87, 3) := by decide +kernel
set_option maxRecDepth 20000 in
theorem w173_814 {d : Nat} {st : List Value} {Q : Option Value × jW → Prop} {ls : jL} {xs : List Value} {I : fI} {L : fL} {r : Nat} {x0 : Int32} {x1 : Int32} {x2 : Int32} {x3 : Int32} (hs : j_sumc st ≤ 8) (ht : f_tg r = 10) : Wp (d + 1) 173 814 ls (.int x3 :: .int x2 :: .int x1 :: .int x0 :: .ref r :: st) (f_W xs I L) Q = Wp d 76 0 [some (.ref r), some (.int x0), some (.int x1), some (.int x2), some (.int x3)] [] (f_W xs I L) (fun r1 => Wp (d + 1) 173 817 ls (r1.1.toList ++ st) r1.2 Q) := Wp.cv (y' := 76) (as := [.int x0, .int x1, .int x2, .int x3]) e173_814 rfl (by decide) rfl (show 5 ≤ 5 by decide) (by decide) hs ht
theorem e173_817 : decode (j_co 173) 817 = .ok (.aload_n 2, 1) := by decide +kernel
set_option maxRecDepth 20000 in
theorem w173_817 {d : Nat} {st : List Value} {Q : Option Value × jW → Prop} {w : jW} {a0 a1 a3 : Option Value} {x : Nat} : Wp d 173 817 [a0, a1, some (.ref x), a3] (st) w Q = Wp d 173 818 [a0, a1, some (.ref x), a3] (.ref x :: st) w Q := Wp.loc e173_817 rfl rfl rfl
theorem e173_818 : decode (j_co 173) 818 = .ok (.aload_n 0, 1) := by decide +kernel
set_option maxRecDepth 20000 in
theorem w173_818 {d : Nat} {st : List Value} {Q : Option Value × jW → Prop} {w : jW} {a1 a2 a3 : Option Value} {x : Nat} : Wp d 173 818 [some (.ref x), a1, a2, a3] (st) w Q = Wp d 173 819 [some (.ref x), a1, a2, a3] (.ref x :: st) w Q := Wp.loc e173_818 rfl rfl rfl
theorem e173_819 : decode (j_co 173) 819 = .ok (.iload_n 3, 1) := by decide +kernel
set_option maxRecDepth 20000 in
theorem w173_819 {d : Nat} {st : List Value} {Q : Option Value × jW → Prop} {w : jW} {a0 a1 a2 : Option Value} {x : Int32} : Wp d 173 819 [a0, a1, a2, some (.int x)] (st) w Q = Wp d 173 820 [a0, a1, a2, some (.int x)] (.int x :: st) w Q := Wp.loc e173_819 rfl rfl rfl
theorem e173_820 : decode (j_co 173) 820 = .ok (.iconst 1, 1) := by decide +kernel
set_option maxRecDepth 20000 in
theorem w173_820 {d : Nat} {st : List Value} {Q : Option Value × jW → Prop} {ls : jL} {w : jW} : Wp d 173 820 ls (st) w Q = Wp d 173 821 ls (.int (nI 1) :: st) w Q := Wp.alu e173_820 rfl rfl
theorem e173_821 : decode (j_co 173) 821 = .ok (.iadd, 1) := by decide +kernel
set_option maxRecDepth 20000 in
theorem w173_821 {d : Nat} {st : List Value} {Q : Option Value × jW → Prop} {ls : jL} {w : jW} {a b : Int32} : Wp d 173 821 ls (.int b :: .int a :: st) w Q = Wp d 173 822 ls (.int (a + b) :: st) w Q := Wp.alu e173_821 rfl rfl
theorem e173_822 : decode (j_co 173) 822 = .ok (.iaload, 1) := by decide +kernel
theorem w173_822 {d k : Nat} {ls : jL} {st : List Value} {I : fI} {L : fL} {Q : Option Value × jW → Prop} {g : List Int32} (hk : k < g.length) (h31 : k < 2147483648) : Wp d 173 822 ls (.int (nI k) :: .ref 0 :: st) (f_W (g.map Value.int) I L) Q = Wp d 173 823 ls (.int (g.getD k 0) :: st) (f_W (g.map Value.int) I L) Q := Wp.iald0 e173_822 hk h31
theorem e173_823 : decode (j_co 173) 823 = .ok (.aload_n 0, 1) := by decide +kernel
set_option maxRecDepth 20000 in
theorem w173_823 {d : Nat} {st : List Value} {Q : Option Value × jW → Prop} {w : jW} {a1 a2 a3 : Option Value} {x : Nat} : Wp d 173 823 [some (.ref x), a1, a2, a3] (st) w Q = Wp d 173 824 [some (.ref x), a1, a2, a3] (.ref x :: st) w Q := Wp.loc e173_823 rfl rfl rfl
theorem e173_824 : decode (j_co 173) 824 = .ok (.iload_n 3, 1) := by decide +kernel
set_option maxRecDepth 20000 in
theorem w173_824 {d : Nat} {st : List Value} {Q : Option Value × jW → Prop} {w : jW} {a0 a1 a2 : Option Value} {x : Int32} : Wp d 173 824 [a0, a1, a2, some (.int x)] (st) w Q = Wp d 173 825 [a0, a1, a2, some (.int x)] (.int x :: st) w Q := Wp.loc e173_824 rfl rfl rfl
theorem e173_825 : decode (j_co 173) 825 = .ok (.iconst 2, 1) := by decide +kernel
set_option maxRecDepth 20000 in
theorem w173_825 {d : Nat} {st : List Value} {Q : Option Value × jW → Prop} {ls : jL} {w : jW} : Wp d 173 825 ls (st) w Q = Wp d 173 826 ls (.int (nI 2) :: st) w Q := Wp.alu e173_825 rfl rfl
theorem e173_826 : decode (j_co 173) 826 = .ok (.iadd, 1) := by decide +kernel
set_option maxRecDepth 20000 in
theorem w173_826 {d : Nat} {st : List Value} {Q : Option Value × jW → Prop} {ls : jL} {w : jW} {a b : Int32} : Wp d 173 826 ls (.int b :: .int a :: st) w Q = Wp d 173 827 ls (.int (a + b) :: st) w Q := Wp.alu e173_826 rfl rfl
theorem e173_827 : decode (j_co 173) 827 = .ok (.iaload, 1) := by decide +kernel
theorem w173_827 {d k : Nat} {ls : jL} {st : List Value} {I : fI} {L : fL} {Q : Option Value × jW → Prop} {g : List Int32} (hk : k < g.length) (h31 : k < 2147483648) : Wp d 173 827 ls (.int (nI k) :: .ref 0 :: st) (f_W (g.map Value.int) I L) Q = Wp d 173 828 ls (.int (g.getD k 0) :: st) (f_W (g.map Value.int) I L) Q := Wp.iald0 e173_827 hk h31
theorem e173_828 : decode (j_co 173) 828 = .ok (.aload_n 0, 1) := by decide +kernel
set_option maxRecDepth 20000 in
theorem w173_828 {d : Nat} {st : List Value} {Q : Option Value × jW → Prop} {w : jW} {a1 a2 a3 : Option Value} {x : Nat} : Wp d 173 828 [some (.ref x), a1, a2, a3] (st) w Q = Wp d 173 829 [some (.ref x), a1, a2, a3] (.ref x :: st) w Q := Wp.loc e173_828 rfl rfl rfl
theorem e173_829 : decode (j_co 173) 829 = .ok (.iload_n 3, 1) := by decide +kernel
set_option maxRecDepth 20000 in
theorem w173_829 {d : Nat} {st : List Value} {Q : Option Value × jW → Prop} {w : jW} {a0 a1 a2 : Option Value} {x : Int32} : Wp d 173 829 [a0, a1, a2, some (.int x)] (st) w Q = Wp d 173 830 [a0, a1, a2, some (.int x)] (.int x :: st) w Q := Wp.loc e173_829 rfl rfl rfl
theorem e173_830 : decode (j_co 173) 830 = .ok (.iconst 3, 1) := by decide +kernel
set_option maxRecDepth 20000 in
theorem w173_830 {d : Nat} {st : List Value} {Q : Option Value × jW → Prop} {ls : jL} {w : jW} : Wp d 173 830 ls (st) w Q = Wp d 173 831 ls (.int (nI 3) :: st) w Q := Wp.alu e173_830 rfl rfl
theorem e173_831 : decode (j_co 173) 831 = .ok (.iadd, 1) := by decide +kernel
set_option maxRecDepth 20000 in
theorem w173_831 {d : Nat} {st : List Value} {Q : Option Value × jW → Prop} {ls : jL} {w : jW} {a b : Int32} : Wp d 173 831 ls (.int b :: .int a :: st) w Q = Wp d 173 832 ls (.int (a + b) :: st) w Q := Wp.alu e173_831 rfl rfl
theorem e173_832 : decode (j_co 173) 832 = .ok (.iaload, 1) := by decide +kernel
theorem w173_832 {d k : Nat} {ls : jL} {st : List Value} {I : fI} {L : fL} {Q : Option Value × jW → Prop} {g : List Int32} (hk : k < g.length) (h31 : k < 2147483648) : Wp d 173 832 ls (.int (nI k) :: .ref 0 :: st) (f_W (g.map Value.int) I L) Q = Wp d 173 833 ls (.int (g.getD k 0) :: st) (f_W (g.map Value.int) I L) Q := Wp.iald0 e173_832 hk h31
theorem e173_833 : decode (j_co 173) 833 = .ok (.aload_n 0, 1) := by decide +kernel
set_option maxRecDepth 20000 in
theorem w173_833 {d : Nat} {st : List Value} {Q : Option Value × jW → Prop} {w : jW} {a1 a2 a3 : Option Value} {x : Nat} : Wp d 173 833 [some (.ref x), a1, a2, a3] (st) w Q = Wp d 173 834 [some (.ref x), a1, a2, a3] (.ref x :: st) w Q := Wp.loc e173_833 rfl rfl rfl
theorem e173_834 : decode (j_co 173) 834 = .ok (.iload_n 3, 1) := by decide +kernel
set_option maxRecDepth 20000 in
theorem w173_834 {d : Nat} {st : List Value} {Q : Option Value × jW → Prop} {w : jW} {a0 a1 a2 : Option Value} {x : Int32} : Wp d 173 834 [a0, a1, a2, some (.int x)] (st) w Q = Wp d 173 835 [a0, a1, a2, some (.int x)] (.int x :: st) w Q := Wp.loc e173_834 rfl rfl rfl
theorem e173_835 : decode (j_co 173) 835 = .ok (.iconst 4, 1) := by decide +kernel
set_option maxRecDepth 20000 in
theorem w173_835 {d : Nat} {st : List Value} {Q : Option Value × jW → Prop} {ls : jL} {w : jW} : Wp d 173 835 ls (st) w Q = Wp d 173 836 ls (.int (nI 4) :: st) w Q := Wp.alu e173_835 rfl rfl
theorem e173_836 : decode (j_co 173) 836 = .ok (.iadd, 1) := by decide +kernel
set_option maxRecDepth 20000 in
theorem w173_836 {d : Nat} {st : List Value} {Q : Option Value × jW → Prop} {ls : jL} {w : jW} {a b : Int32} : Wp d 173 836 ls (.int b :: .int a :: st) w Q = Wp d 173 837 ls (.int (a + b) :: st) w Q := Wp.alu e173_836 rfl rfl
theorem e173_837 : decode (j_co 173) 837 = .ok (.iaload, 1) := by decide +kernel
theorem w173_837 {d k : Nat} {ls : jL} {st : List Value} {I : fI} {L : fL} {Q : Option Value × jW → Prop} {g : List Int32} (hk : k < g.length) (h31 : k < 2147483648) : Wp d 173 837 ls (.int (nI k) :: .ref 0 :: st) (f_W (g.map Value.int) I L) Q = Wp d 173 838 ls (.int (g.getD k 0) :: st) (f_W (g.map Value.int) I L) Q := Wp.iald0 e173_837 hk h31
theorem e173_838 : decode (j_co 173) 838 = .ok (.invokevirtual 90, 3) := by decide +kernel
set_option maxRecDepth 20000 in
theorem w173_838 {d : Nat} {st : List Value} {Q : Option Value × jW → Prop} {ls : jL} {xs : List Value} {I : fI} {L : fL} {r : Nat} {x0 : Int32} {x1 : Int32} {x2 : Int32} {x3 : Int32} (hs : j_sumc st ≤ 8) (ht : f_tg r = 11) : Wp (d + 1) 173 838 ls (.int x3 :: .int x2 :: .int x1 :: .int x0 :: .ref r :: st) (f_W xs I L) Q = Wp d 155 0 [some (.ref r), some (.int x0), some (.int x1), some (.int x2), some (.int x3)] [] (f_W xs I L) (fun r1 => Wp (d + 1) 173 841 ls (r1.1.toList ++ st) r1.2 Q) := Wp.cv (y' := 155) (as := [.int x0, .int x1, .int x2, .int x3]) e173_838 rfl (by decide) rfl (show 5 ≤ 5 by decide) (by decide) hs ht
theorem e173_841 : decode (j_co 173) 841 = .ok (.if_icmp .eq 365, 3) := by decide +kernel
set_option maxRecDepth 20000 in
theorem w173_841 {d : Nat} {st : List Value} {Q : Option Value × jW → Prop} {ls : jL} {w : jW} {a b : Int32} : Wp d 173 841 ls (.int b :: .int a :: st) w Q = ((a = b → Wp d 173 1206 ls st w Q) ∧ (¬ a = b → Wp d 173 844 ls st w Q)) := Wp.if2 (c := a = b) (off := 365) e173_841 rfl rfl rfl rfl rfl
theorem e173_844 : decode (j_co 173) 844 = .ok (.iconst 0, 1) := by decide +kernel
set_option maxRecDepth 20000 in
theorem w173_844 {d : Nat} {st : List Value} {Q : Option Value × jW → Prop} {ls : jL} {w : jW} : Wp d 173 844 ls (st) w Q = Wp d 173 845 ls (.int (nI 0) :: st) w Q := Wp.alu e173_844 rfl rfl
theorem e173_845 : decode (j_co 173) 845 = .ok (.ireturn, 1) := by decide +kernel
set_option maxRecDepth 20000 in
theorem w173_845 {d : Nat} {Q : Option Value × jW → Prop} {ls : jL} {w : jW} {x : Int32} (hx : x = 0 ∨ x = 1) : Wp d 173 845 ls [.int x] w Q = Q (some (.int x), w) := Wp.ret e173_845 (by rcases hx with rfl | rfl <;> rfl)
theorem e173_846 : decode (j_co 173) 846 = .ok (.aload_n 1, 1) := by decide +kernel
set_option maxRecDepth 20000 in
theorem w173_846 {d : Nat} {st : List Value} {Q : Option Value × jW → Prop} {w : jW} {a0 a2 a3 : Option Value} {x : Nat} : Wp d 173 846 [a0, some (.ref x), a2, a3] (st) w Q = Wp d 173 847 [a0, some (.ref x), a2, a3] (.ref x :: st) w Q := Wp.loc e173_846 rfl rfl rfl
theorem e173_847 : decode (j_co 173) 847 = .ok (.invokevirtual 91, 3) := by decide +kernel
set_option maxRecDepth 20000 in
theorem w173_847 {d : Nat} {st : List Value} {Q : Option Value × jW → Prop} {ls : jL} {xs : List Value} {I : fI} {L : fL} {r : Nat} (hs : j_sumc st ≤ 8) (ht : f_tg r = 10) : Wp (d + 1) 173 847 ls (.ref r :: st) (f_W xs I L) Q = Wp d 78 0 [some (.ref r)] [] (f_W xs I L) (fun r1 => Wp (d + 1) 173 850 ls (r1.1.toList ++ st) r1.2 Q) := Wp.cv (y' := 78) (as := []) e173_847 rfl (by decide) rfl (show 1 ≤ 1 by decide) (by decide) hs ht
theorem e173_850 : decode (j_co 173) 850 = .ok (.aload_n 2, 1) := by decide +kernel
set_option maxRecDepth 20000 in
theorem w173_850 {d : Nat} {st : List Value} {Q : Option Value × jW → Prop} {w : jW} {a0 a1 a3 : Option Value} {x : Nat} : Wp d 173 850 [a0, a1, some (.ref x), a3] (st) w Q = Wp d 173 851 [a0, a1, some (.ref x), a3] (.ref x :: st) w Q := Wp.loc e173_850 rfl rfl rfl
theorem e173_851 : decode (j_co 173) 851 = .ok (.invokevirtual 94, 3) := by decide +kernel
set_option maxRecDepth 20000 in
theorem w173_851 {d : Nat} {st : List Value} {Q : Option Value × jW → Prop} {ls : jL} {xs : List Value} {I : fI} {L : fL} {r : Nat} (hs : j_sumc st ≤ 8) (ht : f_tg r = 11) : Wp (d + 1) 173 851 ls (.ref r :: st) (f_W xs I L) Q = Wp d 156 0 [some (.ref r), none, none] [] (f_W xs I L) (fun r1 => Wp (d + 1) 173 854 ls (r1.1.toList ++ st) r1.2 Q) := Wp.cv (y' := 156) (as := []) e173_851 rfl (by decide) rfl (show 1 ≤ 3 by decide) (by decide) hs ht
theorem e173_854 : decode (j_co 173) 854 = .ok (.if_icmp .eq 352, 3) := by decide +kernel
set_option maxRecDepth 20000 in
theorem w173_854 {d : Nat} {st : List Value} {Q : Option Value × jW → Prop} {ls : jL} {w : jW} {a b : Int32} : Wp d 173 854 ls (.int b :: .int a :: st) w Q = ((a = b → Wp d 173 1206 ls st w Q) ∧ (¬ a = b → Wp d 173 857 ls st w Q)) := Wp.if2 (c := a = b) (off := 352) e173_854 rfl rfl rfl rfl rfl
theorem e173_857 : decode (j_co 173) 857 = .ok (.iconst 0, 1) := by decide +kernel
set_option maxRecDepth 20000 in
theorem w173_857 {d : Nat} {st : List Value} {Q : Option Value × jW → Prop} {ls : jL} {w : jW} : Wp d 173 857 ls (st) w Q = Wp d 173 858 ls (.int (nI 0) :: st) w Q := Wp.alu e173_857 rfl rfl
theorem e173_858 : decode (j_co 173) 858 = .ok (.ireturn, 1) := by decide +kernel
set_option maxRecDepth 20000 in
theorem w173_858 {d : Nat} {Q : Option Value × jW → Prop} {ls : jL} {w : jW} {x : Int32} (hx : x = 0 ∨ x = 1) : Wp d 173 858 ls [.int x] w Q = Q (some (.int x), w) := Wp.ret e173_858 (by rcases hx with rfl | rfl <;> rfl)
theorem e173_859 : decode (j_co 173) 859 = .ok (.aload_n 1, 1) := by decide +kernel
set_option maxRecDepth 20000 in
theorem w173_859 {d : Nat} {st : List Value} {Q : Option Value × jW → Prop} {w : jW} {a0 a2 a3 : Option Value} {x : Nat} : Wp d 173 859 [a0, some (.ref x), a2, a3] (st) w Q = Wp d 173 860 [a0, some (.ref x), a2, a3] (.ref x :: st) w Q := Wp.loc e173_859 rfl rfl rfl
theorem e173_860 : decode (j_co 173) 860 = .ok (.invokevirtual 95, 3) := by decide +kernel
set_option maxRecDepth 20000 in
theorem w173_860 {d : Nat} {st : List Value} {Q : Option Value × jW → Prop} {ls : jL} {xs : List Value} {I : fI} {L : fL} {r : Nat} (hs : j_sumc st ≤ 8) (ht : f_tg r = 10) : Wp (d + 1) 173 860 ls (.ref r :: st) (f_W xs I L) Q = Wp d 80 0 [some (.ref r)] [] (f_W xs I L) (fun r1 => Wp (d + 1) 173 863 ls (r1.1.toList ++ st) r1.2 Q) := Wp.cv (y' := 80) (as := []) e173_860 rfl (by decide) rfl (show 1 ≤ 1 by decide) (by decide) hs ht
theorem e173_863 : decode (j_co 173) 863 = .ok (.aload_n 2, 1) := by decide +kernel
set_option maxRecDepth 20000 in
theorem w173_863 {d : Nat} {st : List Value} {Q : Option Value × jW → Prop} {w : jW} {a0 a1 a3 : Option Value} {x : Nat} : Wp d 173 863 [a0, a1, some (.ref x), a3] (st) w Q = Wp d 173 864 [a0, a1, some (.ref x), a3] (.ref x :: st) w Q := Wp.loc e173_863 rfl rfl rfl
theorem e173_864 : decode (j_co 173) 864 = .ok (.invokevirtual 98, 3) := by decide +kernel
set_option maxRecDepth 20000 in
theorem w173_864 {d : Nat} {st : List Value} {Q : Option Value × jW → Prop} {ls : jL} {xs : List Value} {I : fI} {L : fL} {r : Nat} (hs : j_sumc st ≤ 8) (ht : f_tg r = 11) : Wp (d + 1) 173 864 ls (.ref r :: st) (f_W xs I L) Q = Wp d 157 0 [some (.ref r), none] [] (f_W xs I L) (fun r1 => Wp (d + 1) 173 867 ls (r1.1.toList ++ st) r1.2 Q) := Wp.cv (y' := 157) (as := []) e173_864 rfl (by decide) rfl (show 1 ≤ 2 by decide) (by decide) hs ht
theorem e173_867 : decode (j_co 173) 867 = .ok (.if_icmp .eq 339, 3) := by decide +kernel
set_option maxRecDepth 20000 in
theorem w173_867 {d : Nat} {st : List Value} {Q : Option Value × jW → Prop} {ls : jL} {w : jW} {a b : Int32} : Wp d 173 867 ls (.int b :: .int a :: st) w Q = ((a = b → Wp d 173 1206 ls st w Q) ∧ (¬ a = b → Wp d 173 870 ls st w Q)) := Wp.if2 (c := a = b) (off := 339) e173_867 rfl rfl rfl rfl rfl
theorem e173_870 : decode (j_co 173) 870 = .ok (.iconst 0, 1) := by decide +kernel
set_option maxRecDepth 20000 in
theorem w173_870 {d : Nat} {st : List Value} {Q : Option Value × jW → Prop} {ls : jL} {w : jW} : Wp d 173 870 ls (st) w Q = Wp d 173 871 ls (.int (nI 0) :: st) w Q := Wp.alu e173_870 rfl rfl
theorem e173_871 : decode (j_co 173) 871 = .ok (.ireturn, 1) := by decide +kernel
set_option maxRecDepth 20000 in
theorem w173_871 {d : Nat} {Q : Option Value × jW → Prop} {ls : jL} {w : jW} {x : Int32} (hx : x = 0 ∨ x = 1) : Wp d 173 871 ls [.int x] w Q = Q (some (.int x), w) := Wp.ret e173_871 (by rcases hx with rfl | rfl <;> rfl)
theorem e173_872 : decode (j_co 173) 872 = .ok (.aload_n 1, 1) := by decide +kernel
set_option maxRecDepth 20000 in
theorem w173_872 {d : Nat} {st : List Value} {Q : Option Value × jW → Prop} {w : jW} {a0 a2 a3 : Option Value} {x : Nat} : Wp d 173 872 [a0, some (.ref x), a2, a3] (st) w Q = Wp d 173 873 [a0, some (.ref x), a2, a3] (.ref x :: st) w Q := Wp.loc e173_872 rfl rfl rfl
theorem e173_873 : decode (j_co 173) 873 = .ok (.aload_n 0, 1) := by decide +kernel
set_option maxRecDepth 20000 in
theorem w173_873 {d : Nat} {st : List Value} {Q : Option Value × jW → Prop} {w : jW} {a1 a2 a3 : Option Value} {x : Nat} : Wp d 173 873 [some (.ref x), a1, a2, a3] (st) w Q = Wp d 173 874 [some (.ref x), a1, a2, a3] (.ref x :: st) w Q := Wp.loc e173_873 rfl rfl rfl
theorem e173_874 : decode (j_co 173) 874 = .ok (.iload_n 3, 1) := by decide +kernel
set_option maxRecDepth 20000 in
theorem w173_874 {d : Nat} {st : List Value} {Q : Option Value × jW → Prop} {w : jW} {a0 a1 a2 : Option Value} {x : Int32} : Wp d 173 874 [a0, a1, a2, some (.int x)] (st) w Q = Wp d 173 875 [a0, a1, a2, some (.int x)] (.int x :: st) w Q := Wp.loc e173_874 rfl rfl rfl
theorem e173_875 : decode (j_co 173) 875 = .ok (.iconst 1, 1) := by decide +kernel
set_option maxRecDepth 20000 in
theorem w173_875 {d : Nat} {st : List Value} {Q : Option Value × jW → Prop} {ls : jL} {w : jW} : Wp d 173 875 ls (st) w Q = Wp d 173 876 ls (.int (nI 1) :: st) w Q := Wp.alu e173_875 rfl rfl
theorem e173_876 : decode (j_co 173) 876 = .ok (.iadd, 1) := by decide +kernel
set_option maxRecDepth 20000 in
theorem w173_876 {d : Nat} {st : List Value} {Q : Option Value × jW → Prop} {ls : jL} {w : jW} {a b : Int32} : Wp d 173 876 ls (.int b :: .int a :: st) w Q = Wp d 173 877 ls (.int (a + b) :: st) w Q := Wp.alu e173_876 rfl rfl
theorem e173_877 : decode (j_co 173) 877 = .ok (.iaload, 1) := by decide +kernel
theorem w173_877 {d k : Nat} {ls : jL} {st : List Value} {I : fI} {L : fL} {Q : Option Value × jW → Prop} {g : List Int32} (hk : k < g.length) (h31 : k < 2147483648) : Wp d 173 877 ls (.int (nI k) :: .ref 0 :: st) (f_W (g.map Value.int) I L) Q = Wp d 173 878 ls (.int (g.getD k 0) :: st) (f_W (g.map Value.int) I L) Q := Wp.iald0 e173_877 hk h31
theorem e173_878 : decode (j_co 173) 878 = .ok (.aload_n 0, 1) := by decide +kernel
set_option maxRecDepth 20000 in
theorem w173_878 {d : Nat} {st : List Value} {Q : Option Value × jW → Prop} {w : jW} {a1 a2 a3 : Option Value} {x : Nat} : Wp d 173 878 [some (.ref x), a1, a2, a3] (st) w Q = Wp d 173 879 [some (.ref x), a1, a2, a3] (.ref x :: st) w Q := Wp.loc e173_878 rfl rfl rfl
theorem e173_879 : decode (j_co 173) 879 = .ok (.iload_n 3, 1) := by decide +kernel
set_option maxRecDepth 20000 in
theorem w173_879 {d : Nat} {st : List Value} {Q : Option Value × jW → Prop} {w : jW} {a0 a1 a2 : Option Value} {x : Int32} : Wp d 173 879 [a0, a1, a2, some (.int x)] (st) w Q = Wp d 173 880 [a0, a1, a2, some (.int x)] (.int x :: st) w Q := Wp.loc e173_879 rfl rfl rfl
theorem e173_880 : decode (j_co 173) 880 = .ok (.iconst 2, 1) := by decide +kernel
set_option maxRecDepth 20000 in
theorem w173_880 {d : Nat} {st : List Value} {Q : Option Value × jW → Prop} {ls : jL} {w : jW} : Wp d 173 880 ls (st) w Q = Wp d 173 881 ls (.int (nI 2) :: st) w Q := Wp.alu e173_880 rfl rfl
theorem e173_881 : decode (j_co 173) 881 = .ok (.iadd, 1) := by decide +kernel
set_option maxRecDepth 20000 in
theorem w173_881 {d : Nat} {st : List Value} {Q : Option Value × jW → Prop} {ls : jL} {w : jW} {a b : Int32} : Wp d 173 881 ls (.int b :: .int a :: st) w Q = Wp d 173 882 ls (.int (a + b) :: st) w Q := Wp.alu e173_881 rfl rfl
theorem e173_882 : decode (j_co 173) 882 = .ok (.iaload, 1) := by decide +kernel
theorem w173_882 {d k : Nat} {ls : jL} {st : List Value} {I : fI} {L : fL} {Q : Option Value × jW → Prop} {g : List Int32} (hk : k < g.length) (h31 : k < 2147483648) : Wp d 173 882 ls (.int (nI k) :: .ref 0 :: st) (f_W (g.map Value.int) I L) Q = Wp d 173 883 ls (.int (g.getD k 0) :: st) (f_W (g.map Value.int) I L) Q := Wp.iald0 e173_882 hk h31
theorem e173_883 : decode (j_co 173) 883 = .ok (.aload_n 0, 1) := by decide +kernel
set_option maxRecDepth 20000 in
theorem w173_883 {d : Nat} {st : List Value} {Q : Option Value × jW → Prop} {w : jW} {a1 a2 a3 : Option Value} {x : Nat} : Wp d 173 883 [some (.ref x), a1, a2, a3] (st) w Q = Wp d 173 884 [some (.ref x), a1, a2, a3] (.ref x :: st) w Q := Wp.loc e173_883 rfl rfl rfl
theorem e173_884 : decode (j_co 173) 884 = .ok (.iload_n 3, 1) := by decide +kernel
set_option maxRecDepth 20000 in
theorem w173_884 {d : Nat} {st : List Value} {Q : Option Value × jW → Prop} {w : jW} {a0 a1 a2 : Option Value} {x : Int32} : Wp d 173 884 [a0, a1, a2, some (.int x)] (st) w Q = Wp d 173 885 [a0, a1, a2, some (.int x)] (.int x :: st) w Q := Wp.loc e173_884 rfl rfl rfl
theorem e173_885 : decode (j_co 173) 885 = .ok (.iconst 3, 1) := by decide +kernel
set_option maxRecDepth 20000 in
theorem w173_885 {d : Nat} {st : List Value} {Q : Option Value × jW → Prop} {ls : jL} {w : jW} : Wp d 173 885 ls (st) w Q = Wp d 173 886 ls (.int (nI 3) :: st) w Q := Wp.alu e173_885 rfl rfl
theorem e173_886 : decode (j_co 173) 886 = .ok (.iadd, 1) := by decide +kernel
set_option maxRecDepth 20000 in
theorem w173_886 {d : Nat} {st : List Value} {Q : Option Value × jW → Prop} {ls : jL} {w : jW} {a b : Int32} : Wp d 173 886 ls (.int b :: .int a :: st) w Q = Wp d 173 887 ls (.int (a + b) :: st) w Q := Wp.alu e173_886 rfl rfl
theorem e173_887 : decode (j_co 173) 887 = .ok (.iaload, 1) := by decide +kernel
theorem w173_887 {d k : Nat} {ls : jL} {st : List Value} {I : fI} {L : fL} {Q : Option Value × jW → Prop} {g : List Int32} (hk : k < g.length) (h31 : k < 2147483648) : Wp d 173 887 ls (.int (nI k) :: .ref 0 :: st) (f_W (g.map Value.int) I L) Q = Wp d 173 888 ls (.int (g.getD k 0) :: st) (f_W (g.map Value.int) I L) Q := Wp.iald0 e173_887 hk h31
theorem e173_888 : decode (j_co 173) 888 = .ok (.invokevirtual 99, 3) := by decide +kernel
set_option maxRecDepth 20000 in
theorem w173_888 {d : Nat} {st : List Value} {Q : Option Value × jW → Prop} {ls : jL} {xs : List Value} {I : fI} {L : fL} {r : Nat} {x0 : Int32} {x1 : Int32} {x2 : Int32} (hs : j_sumc st ≤ 8) (ht : f_tg r = 10) : Wp (d + 1) 173 888 ls (.int x2 :: .int x1 :: .int x0 :: .ref r :: st) (f_W xs I L) Q = Wp d 86 0 [some (.ref r), some (.int x0), some (.int x1), some (.int x2)] [] (f_W xs I L) (fun r1 => Wp (d + 1) 173 891 ls (r1.1.toList ++ st) r1.2 Q) := Wp.cv (y' := 86) (as := [.int x0, .int x1, .int x2]) e173_888 rfl (by decide) rfl (show 4 ≤ 4 by decide) (by decide) hs ht
theorem e173_891 : decode (j_co 173) 891 = .ok (.aload_n 2, 1) := by decide +kernel
set_option maxRecDepth 20000 in
theorem w173_891 {d : Nat} {st : List Value} {Q : Option Value × jW → Prop} {w : jW} {a0 a1 a3 : Option Value} {x : Nat} : Wp d 173 891 [a0, a1, some (.ref x), a3] (st) w Q = Wp d 173 892 [a0, a1, some (.ref x), a3] (.ref x :: st) w Q := Wp.loc e173_891 rfl rfl rfl
theorem e173_892 : decode (j_co 173) 892 = .ok (.aload_n 0, 1) := by decide +kernel
set_option maxRecDepth 20000 in
theorem w173_892 {d : Nat} {st : List Value} {Q : Option Value × jW → Prop} {w : jW} {a1 a2 a3 : Option Value} {x : Nat} : Wp d 173 892 [some (.ref x), a1, a2, a3] (st) w Q = Wp d 173 893 [some (.ref x), a1, a2, a3] (.ref x :: st) w Q := Wp.loc e173_892 rfl rfl rfl
theorem e173_893 : decode (j_co 173) 893 = .ok (.iload_n 3, 1) := by decide +kernel
set_option maxRecDepth 20000 in
theorem w173_893 {d : Nat} {st : List Value} {Q : Option Value × jW → Prop} {w : jW} {a0 a1 a2 : Option Value} {x : Int32} : Wp d 173 893 [a0, a1, a2, some (.int x)] (st) w Q = Wp d 173 894 [a0, a1, a2, some (.int x)] (.int x :: st) w Q := Wp.loc e173_893 rfl rfl rfl
theorem e173_894 : decode (j_co 173) 894 = .ok (.iconst 1, 1) := by decide +kernel
set_option maxRecDepth 20000 in
theorem w173_894 {d : Nat} {st : List Value} {Q : Option Value × jW → Prop} {ls : jL} {w : jW} : Wp d 173 894 ls (st) w Q = Wp d 173 895 ls (.int (nI 1) :: st) w Q := Wp.alu e173_894 rfl rfl
theorem e173_895 : decode (j_co 173) 895 = .ok (.iadd, 1) := by decide +kernel
set_option maxRecDepth 20000 in
theorem w173_895 {d : Nat} {st : List Value} {Q : Option Value × jW → Prop} {ls : jL} {w : jW} {a b : Int32} : Wp d 173 895 ls (.int b :: .int a :: st) w Q = Wp d 173 896 ls (.int (a + b) :: st) w Q := Wp.alu e173_895 rfl rfl
theorem e173_896 : decode (j_co 173) 896 = .ok (.iaload, 1) := by decide +kernel
theorem w173_896 {d k : Nat} {ls : jL} {st : List Value} {I : fI} {L : fL} {Q : Option Value × jW → Prop} {g : List Int32} (hk : k < g.length) (h31 : k < 2147483648) : Wp d 173 896 ls (.int (nI k) :: .ref 0 :: st) (f_W (g.map Value.int) I L) Q = Wp d 173 897 ls (.int (g.getD k 0) :: st) (f_W (g.map Value.int) I L) Q := Wp.iald0 e173_896 hk h31
theorem e173_897 : decode (j_co 173) 897 = .ok (.aload_n 0, 1) := by decide +kernel
set_option maxRecDepth 20000 in
theorem w173_897 {d : Nat} {st : List Value} {Q : Option Value × jW → Prop} {w : jW} {a1 a2 a3 : Option Value} {x : Nat} : Wp d 173 897 [some (.ref x), a1, a2, a3] (st) w Q = Wp d 173 898 [some (.ref x), a1, a2, a3] (.ref x :: st) w Q := Wp.loc e173_897 rfl rfl rfl
theorem e173_898 : decode (j_co 173) 898 = .ok (.iload_n 3, 1) := by decide +kernel
set_option maxRecDepth 20000 in
theorem w173_898 {d : Nat} {st : List Value} {Q : Option Value × jW → Prop} {w : jW} {a0 a1 a2 : Option Value} {x : Int32} : Wp d 173 898 [a0, a1, a2, some (.int x)] (st) w Q = Wp d 173 899 [a0, a1, a2, some (.int x)] (.int x :: st) w Q := Wp.loc e173_898 rfl rfl rfl
theorem e173_899 : decode (j_co 173) 899 = .ok (.iconst 2, 1) := by decide +kernel
set_option maxRecDepth 20000 in
theorem w173_899 {d : Nat} {st : List Value} {Q : Option Value × jW → Prop} {ls : jL} {w : jW} : Wp d 173 899 ls (st) w Q = Wp d 173 900 ls (.int (nI 2) :: st) w Q := Wp.alu e173_899 rfl rfl
theorem e173_900 : decode (j_co 173) 900 = .ok (.iadd, 1) := by decide +kernel
set_option maxRecDepth 20000 in
theorem w173_900 {d : Nat} {st : List Value} {Q : Option Value × jW → Prop} {ls : jL} {w : jW} {a b : Int32} : Wp d 173 900 ls (.int b :: .int a :: st) w Q = Wp d 173 901 ls (.int (a + b) :: st) w Q := Wp.alu e173_900 rfl rfl
theorem e173_901 : decode (j_co 173) 901 = .ok (.iaload, 1) := by decide +kernel
theorem w173_901 {d k : Nat} {ls : jL} {st : List Value} {I : fI} {L : fL} {Q : Option Value × jW → Prop} {g : List Int32} (hk : k < g.length) (h31 : k < 2147483648) : Wp d 173 901 ls (.int (nI k) :: .ref 0 :: st) (f_W (g.map Value.int) I L) Q = Wp d 173 902 ls (.int (g.getD k 0) :: st) (f_W (g.map Value.int) I L) Q := Wp.iald0 e173_901 hk h31
theorem e173_902 : decode (j_co 173) 902 = .ok (.aload_n 0, 1) := by decide +kernel
set_option maxRecDepth 20000 in
theorem w173_902 {d : Nat} {st : List Value} {Q : Option Value × jW → Prop} {w : jW} {a1 a2 a3 : Option Value} {x : Nat} : Wp d 173 902 [some (.ref x), a1, a2, a3] (st) w Q = Wp d 173 903 [some (.ref x), a1, a2, a3] (.ref x :: st) w Q := Wp.loc e173_902 rfl rfl rfl
theorem e173_903 : decode (j_co 173) 903 = .ok (.iload_n 3, 1) := by decide +kernel
set_option maxRecDepth 20000 in
theorem w173_903 {d : Nat} {st : List Value} {Q : Option Value × jW → Prop} {w : jW} {a0 a1 a2 : Option Value} {x : Int32} : Wp d 173 903 [a0, a1, a2, some (.int x)] (st) w Q = Wp d 173 904 [a0, a1, a2, some (.int x)] (.int x :: st) w Q := Wp.loc e173_903 rfl rfl rfl
theorem e173_904 : decode (j_co 173) 904 = .ok (.iconst 3, 1) := by decide +kernel
set_option maxRecDepth 20000 in
theorem w173_904 {d : Nat} {st : List Value} {Q : Option Value × jW → Prop} {ls : jL} {w : jW} : Wp d 173 904 ls (st) w Q = Wp d 173 905 ls (.int (nI 3) :: st) w Q := Wp.alu e173_904 rfl rfl
theorem e173_905 : decode (j_co 173) 905 = .ok (.iadd, 1) := by decide +kernel
set_option maxRecDepth 20000 in
theorem w173_905 {d : Nat} {st : List Value} {Q : Option Value × jW → Prop} {ls : jL} {w : jW} {a b : Int32} : Wp d 173 905 ls (.int b :: .int a :: st) w Q = Wp d 173 906 ls (.int (a + b) :: st) w Q := Wp.alu e173_905 rfl rfl
theorem e173_906 : decode (j_co 173) 906 = .ok (.iaload, 1) := by decide +kernel
theorem w173_906 {d k : Nat} {ls : jL} {st : List Value} {I : fI} {L : fL} {Q : Option Value × jW → Prop} {g : List Int32} (hk : k < g.length) (h31 : k < 2147483648) : Wp d 173 906 ls (.int (nI k) :: .ref 0 :: st) (f_W (g.map Value.int) I L) Q = Wp d 173 907 ls (.int (g.getD k 0) :: st) (f_W (g.map Value.int) I L) Q := Wp.iald0 e173_906 hk h31
theorem e173_907 : decode (j_co 173) 907 = .ok (.invokevirtual 103, 3) := by decide +kernel
set_option maxRecDepth 20000 in
theorem w173_907 {d : Nat} {st : List Value} {Q : Option Value × jW → Prop} {ls : jL} {xs : List Value} {I : fI} {L : fL} {r : Nat} {x0 : Int32} {x1 : Int32} {x2 : Int32} (hs : j_sumc st ≤ 8) (ht : f_tg r = 11) : Wp (d + 1) 173 907 ls (.int x2 :: .int x1 :: .int x0 :: .ref r :: st) (f_W xs I L) Q = Wp d 160 0 [some (.ref r), some (.int x0), some (.int x1), some (.int x2), none, none] [] (f_W xs I L) (fun r1 => Wp (d + 1) 173 910 ls (r1.1.toList ++ st) r1.2 Q) := Wp.cv (y' := 160) (as := [.int x0, .int x1, .int x2]) e173_907 rfl (by decide) rfl (show 4 ≤ 6 by decide) (by decide) hs ht
theorem e173_910 : decode (j_co 173) 910 = .ok (.if_icmp .eq 296, 3) := by decide +kernel
set_option maxRecDepth 20000 in
theorem w173_910 {d : Nat} {st : List Value} {Q : Option Value × jW → Prop} {ls : jL} {w : jW} {a b : Int32} : Wp d 173 910 ls (.int b :: .int a :: st) w Q = ((a = b → Wp d 173 1206 ls st w Q) ∧ (¬ a = b → Wp d 173 913 ls st w Q)) := Wp.if2 (c := a = b) (off := 296) e173_910 rfl rfl rfl rfl rfl
theorem e173_913 : decode (j_co 173) 913 = .ok (.iconst 0, 1) := by decide +kernel
set_option maxRecDepth 20000 in
theorem w173_913 {d : Nat} {st : List Value} {Q : Option Value × jW → Prop} {ls : jL} {w : jW} : Wp d 173 913 ls (st) w Q = Wp d 173 914 ls (.int (nI 0) :: st) w Q := Wp.alu e173_913 rfl rfl
theorem e173_914 : decode (j_co 173) 914 = .ok (.ireturn, 1) := by decide +kernel
set_option maxRecDepth 20000 in
theorem w173_914 {d : Nat} {Q : Option Value × jW → Prop} {ls : jL} {w : jW} {x : Int32} (hx : x = 0 ∨ x = 1) : Wp d 173 914 ls [.int x] w Q = Q (some (.int x), w) := Wp.ret e173_914 (by rcases hx with rfl | rfl <;> rfl)
theorem e173_915 : decode (j_co 173) 915 = .ok (.aload_n 1, 1) := by decide +kernel
set_option maxRecDepth 20000 in
theorem w173_915 {d : Nat} {st : List Value} {Q : Option Value × jW → Prop} {w : jW} {a0 a2 a3 : Option Value} {x : Nat} : Wp d 173 915 [a0, some (.ref x), a2, a3] (st) w Q = Wp d 173 916 [a0, some (.ref x), a2, a3] (.ref x :: st) w Q := Wp.loc e173_915 rfl rfl rfl
theorem e173_916 : decode (j_co 173) 916 = .ok (.aload_n 0, 1) := by decide +kernel
set_option maxRecDepth 20000 in
theorem w173_916 {d : Nat} {st : List Value} {Q : Option Value × jW → Prop} {w : jW} {a1 a2 a3 : Option Value} {x : Nat} : Wp d 173 916 [some (.ref x), a1, a2, a3] (st) w Q = Wp d 173 917 [some (.ref x), a1, a2, a3] (.ref x :: st) w Q := Wp.loc e173_916 rfl rfl rfl
theorem e173_917 : decode (j_co 173) 917 = .ok (.iload_n 3, 1) := by decide +kernel
set_option maxRecDepth 20000 in
theorem w173_917 {d : Nat} {st : List Value} {Q : Option Value × jW → Prop} {w : jW} {a0 a1 a2 : Option Value} {x : Int32} : Wp d 173 917 [a0, a1, a2, some (.int x)] (st) w Q = Wp d 173 918 [a0, a1, a2, some (.int x)] (.int x :: st) w Q := Wp.loc e173_917 rfl rfl rfl
theorem e173_918 : decode (j_co 173) 918 = .ok (.iconst 1, 1) := by decide +kernel
set_option maxRecDepth 20000 in
theorem w173_918 {d : Nat} {st : List Value} {Q : Option Value × jW → Prop} {ls : jL} {w : jW} : Wp d 173 918 ls (st) w Q = Wp d 173 919 ls (.int (nI 1) :: st) w Q := Wp.alu e173_918 rfl rfl
theorem e173_919 : decode (j_co 173) 919 = .ok (.iadd, 1) := by decide +kernel
set_option maxRecDepth 20000 in
theorem w173_919 {d : Nat} {st : List Value} {Q : Option Value × jW → Prop} {ls : jL} {w : jW} {a b : Int32} : Wp d 173 919 ls (.int b :: .int a :: st) w Q = Wp d 173 920 ls (.int (a + b) :: st) w Q := Wp.alu e173_919 rfl rfl
theorem e173_920 : decode (j_co 173) 920 = .ok (.iaload, 1) := by decide +kernel
theorem w173_920 {d k : Nat} {ls : jL} {st : List Value} {I : fI} {L : fL} {Q : Option Value × jW → Prop} {g : List Int32} (hk : k < g.length) (h31 : k < 2147483648) : Wp d 173 920 ls (.int (nI k) :: .ref 0 :: st) (f_W (g.map Value.int) I L) Q = Wp d 173 921 ls (.int (g.getD k 0) :: st) (f_W (g.map Value.int) I L) Q := Wp.iald0 e173_920 hk h31
theorem e173_921 : decode (j_co 173) 921 = .ok (.aload_n 0, 1) := by decide +kernel
set_option maxRecDepth 20000 in
theorem w173_921 {d : Nat} {st : List Value} {Q : Option Value × jW → Prop} {w : jW} {a1 a2 a3 : Option Value} {x : Nat} : Wp d 173 921 [some (.ref x), a1, a2, a3] (st) w Q = Wp d 173 922 [some (.ref x), a1, a2, a3] (.ref x :: st) w Q := Wp.loc e173_921 rfl rfl rfl
theorem e173_922 : decode (j_co 173) 922 = .ok (.iload_n 3, 1) := by decide +kernel
set_option maxRecDepth 20000 in
theorem w173_922 {d : Nat} {st : List Value} {Q : Option Value × jW → Prop} {w : jW} {a0 a1 a2 : Option Value} {x : Int32} : Wp d 173 922 [a0, a1, a2, some (.int x)] (st) w Q = Wp d 173 923 [a0, a1, a2, some (.int x)] (.int x :: st) w Q := Wp.loc e173_922 rfl rfl rfl
theorem e173_923 : decode (j_co 173) 923 = .ok (.iconst 2, 1) := by decide +kernel
set_option maxRecDepth 20000 in
theorem w173_923 {d : Nat} {st : List Value} {Q : Option Value × jW → Prop} {ls : jL} {w : jW} : Wp d 173 923 ls (st) w Q = Wp d 173 924 ls (.int (nI 2) :: st) w Q := Wp.alu e173_923 rfl rfl
theorem e173_924 : decode (j_co 173) 924 = .ok (.iadd, 1) := by decide +kernel
set_option maxRecDepth 20000 in
theorem w173_924 {d : Nat} {st : List Value} {Q : Option Value × jW → Prop} {ls : jL} {w : jW} {a b : Int32} : Wp d 173 924 ls (.int b :: .int a :: st) w Q = Wp d 173 925 ls (.int (a + b) :: st) w Q := Wp.alu e173_924 rfl rfl
theorem e173_925 : decode (j_co 173) 925 = .ok (.iaload, 1) := by decide +kernel
theorem w173_925 {d k : Nat} {ls : jL} {st : List Value} {I : fI} {L : fL} {Q : Option Value × jW → Prop} {g : List Int32} (hk : k < g.length) (h31 : k < 2147483648) : Wp d 173 925 ls (.int (nI k) :: .ref 0 :: st) (f_W (g.map Value.int) I L) Q = Wp d 173 926 ls (.int (g.getD k 0) :: st) (f_W (g.map Value.int) I L) Q := Wp.iald0 e173_925 hk h31
theorem e173_926 : decode (j_co 173) 926 = .ok (.aload_n 0, 1) := by decide +kernel
set_option maxRecDepth 20000 in
theorem w173_926 {d : Nat} {st : List Value} {Q : Option Value × jW → Prop} {w : jW} {a1 a2 a3 : Option Value} {x : Nat} : Wp d 173 926 [some (.ref x), a1, a2, a3] (st) w Q = Wp d 173 927 [some (.ref x), a1, a2, a3] (.ref x :: st) w Q := Wp.loc e173_926 rfl rfl rfl
theorem e173_927 : decode (j_co 173) 927 = .ok (.iload_n 3, 1) := by decide +kernel
set_option maxRecDepth 20000 in
theorem w173_927 {d : Nat} {st : List Value} {Q : Option Value × jW → Prop} {w : jW} {a0 a1 a2 : Option Value} {x : Int32} : Wp d 173 927 [a0, a1, a2, some (.int x)] (st) w Q = Wp d 173 928 [a0, a1, a2, some (.int x)] (.int x :: st) w Q := Wp.loc e173_927 rfl rfl rfl
theorem e173_928 : decode (j_co 173) 928 = .ok (.iconst 3, 1) := by decide +kernel
set_option maxRecDepth 20000 in
theorem w173_928 {d : Nat} {st : List Value} {Q : Option Value × jW → Prop} {ls : jL} {w : jW} : Wp d 173 928 ls (st) w Q = Wp d 173 929 ls (.int (nI 3) :: st) w Q := Wp.alu e173_928 rfl rfl
theorem e173_929 : decode (j_co 173) 929 = .ok (.iadd, 1) := by decide +kernel
set_option maxRecDepth 20000 in
theorem w173_929 {d : Nat} {st : List Value} {Q : Option Value × jW → Prop} {ls : jL} {w : jW} {a b : Int32} : Wp d 173 929 ls (.int b :: .int a :: st) w Q = Wp d 173 930 ls (.int (a + b) :: st) w Q := Wp.alu e173_929 rfl rfl
theorem e173_930 : decode (j_co 173) 930 = .ok (.iaload, 1) := by decide +kernel
theorem w173_930 {d k : Nat} {ls : jL} {st : List Value} {I : fI} {L : fL} {Q : Option Value × jW → Prop} {g : List Int32} (hk : k < g.length) (h31 : k < 2147483648) : Wp d 173 930 ls (.int (nI k) :: .ref 0 :: st) (f_W (g.map Value.int) I L) Q = Wp d 173 931 ls (.int (g.getD k 0) :: st) (f_W (g.map Value.int) I L) Q := Wp.iald0 e173_930 hk h31
theorem e173_931 : decode (j_co 173) 931 = .ok (.invokevirtual 104, 3) := by decide +kernel
set_option maxRecDepth 20000 in
theorem w173_931 {d : Nat} {st : List Value} {Q : Option Value × jW → Prop} {ls : jL} {xs : List Value} {I : fI} {L : fL} {r : Nat} {x0 : Int32} {x1 : Int32} {x2 : Int32} (hs : j_sumc st ≤ 8) (ht : f_tg r = 10) : Wp (d + 1) 173 931 ls (.int x2 :: .int x1 :: .int x0 :: .ref r :: st) (f_W xs I L) Q = Wp d 89 0 [some (.ref r), some (.int x0), some (.int x1), some (.int x2)] [] (f_W xs I L) (fun r1 => Wp (d + 1) 173 934 ls (r1.1.toList ++ st) r1.2 Q) := Wp.cv (y' := 89) (as := [.int x0, .int x1, .int x2]) e173_931 rfl (by decide) rfl (show 4 ≤ 4 by decide) (by decide) hs ht
theorem e173_934 : decode (j_co 173) 934 = .ok (.aload_n 2, 1) := by decide +kernel
set_option maxRecDepth 20000 in
theorem w173_934 {d : Nat} {st : List Value} {Q : Option Value × jW → Prop} {w : jW} {a0 a1 a3 : Option Value} {x : Nat} : Wp d 173 934 [a0, a1, some (.ref x), a3] (st) w Q = Wp d 173 935 [a0, a1, some (.ref x), a3] (.ref x :: st) w Q := Wp.loc e173_934 rfl rfl rfl
theorem e173_935 : decode (j_co 173) 935 = .ok (.aload_n 0, 1) := by decide +kernel
set_option maxRecDepth 20000 in
theorem w173_935 {d : Nat} {st : List Value} {Q : Option Value × jW → Prop} {w : jW} {a1 a2 a3 : Option Value} {x : Nat} : Wp d 173 935 [some (.ref x), a1, a2, a3] (st) w Q = Wp d 173 936 [some (.ref x), a1, a2, a3] (.ref x :: st) w Q := Wp.loc e173_935 rfl rfl rfl
theorem e173_936 : decode (j_co 173) 936 = .ok (.iload_n 3, 1) := by decide +kernel
set_option maxRecDepth 20000 in
theorem w173_936 {d : Nat} {st : List Value} {Q : Option Value × jW → Prop} {w : jW} {a0 a1 a2 : Option Value} {x : Int32} : Wp d 173 936 [a0, a1, a2, some (.int x)] (st) w Q = Wp d 173 937 [a0, a1, a2, some (.int x)] (.int x :: st) w Q := Wp.loc e173_936 rfl rfl rfl
theorem e173_937 : decode (j_co 173) 937 = .ok (.iconst 1, 1) := by decide +kernel
set_option maxRecDepth 20000 in
theorem w173_937 {d : Nat} {st : List Value} {Q : Option Value × jW → Prop} {ls : jL} {w : jW} : Wp d 173 937 ls (st) w Q = Wp d 173 938 ls (.int (nI 1) :: st) w Q := Wp.alu e173_937 rfl rfl
theorem e173_938 : decode (j_co 173) 938 = .ok (.iadd, 1) := by decide +kernel
set_option maxRecDepth 20000 in
theorem w173_938 {d : Nat} {st : List Value} {Q : Option Value × jW → Prop} {ls : jL} {w : jW} {a b : Int32} : Wp d 173 938 ls (.int b :: .int a :: st) w Q = Wp d 173 939 ls (.int (a + b) :: st) w Q := Wp.alu e173_938 rfl rfl
theorem e173_939 : decode (j_co 173) 939 = .ok (.iaload, 1) := by decide +kernel
theorem w173_939 {d k : Nat} {ls : jL} {st : List Value} {I : fI} {L : fL} {Q : Option Value × jW → Prop} {g : List Int32} (hk : k < g.length) (h31 : k < 2147483648) : Wp d 173 939 ls (.int (nI k) :: .ref 0 :: st) (f_W (g.map Value.int) I L) Q = Wp d 173 940 ls (.int (g.getD k 0) :: st) (f_W (g.map Value.int) I L) Q := Wp.iald0 e173_939 hk h31
theorem e173_940 : decode (j_co 173) 940 = .ok (.aload_n 0, 1) := by decide +kernel
set_option maxRecDepth 20000 in
theorem w173_940 {d : Nat} {st : List Value} {Q : Option Value × jW → Prop} {w : jW} {a1 a2 a3 : Option Value} {x : Nat} : Wp d 173 940 [some (.ref x), a1, a2, a3] (st) w Q = Wp d 173 941 [some (.ref x), a1, a2, a3] (.ref x :: st) w Q := Wp.loc e173_940 rfl rfl rfl
theorem e173_941 : decode (j_co 173) 941 = .ok (.iload_n 3, 1) := by decide +kernel
set_option maxRecDepth 20000 in
theorem w173_941 {d : Nat} {st : List Value} {Q : Option Value × jW → Prop} {w : jW} {a0 a1 a2 : Option Value} {x : Int32} : Wp d 173 941 [a0, a1, a2, some (.int x)] (st) w Q = Wp d 173 942 [a0, a1, a2, some (.int x)] (.int x :: st) w Q := Wp.loc e173_941 rfl rfl rfl
theorem e173_942 : decode (j_co 173) 942 = .ok (.iconst 2, 1) := by decide +kernel
set_option maxRecDepth 20000 in
theorem w173_942 {d : Nat} {st : List Value} {Q : Option Value × jW → Prop} {ls : jL} {w : jW} : Wp d 173 942 ls (st) w Q = Wp d 173 943 ls (.int (nI 2) :: st) w Q := Wp.alu e173_942 rfl rfl
theorem e173_943 : decode (j_co 173) 943 = .ok (.iadd, 1) := by decide +kernel
set_option maxRecDepth 20000 in
theorem w173_943 {d : Nat} {st : List Value} {Q : Option Value × jW → Prop} {ls : jL} {w : jW} {a b : Int32} : Wp d 173 943 ls (.int b :: .int a :: st) w Q = Wp d 173 944 ls (.int (a + b) :: st) w Q := Wp.alu e173_943 rfl rfl
theorem e173_944 : decode (j_co 173) 944 = .ok (.iaload, 1) := by decide +kernel
theorem w173_944 {d k : Nat} {ls : jL} {st : List Value} {I : fI} {L : fL} {Q : Option Value × jW → Prop} {g : List Int32} (hk : k < g.length) (h31 : k < 2147483648) : Wp d 173 944 ls (.int (nI k) :: .ref 0 :: st) (f_W (g.map Value.int) I L) Q = Wp d 173 945 ls (.int (g.getD k 0) :: st) (f_W (g.map Value.int) I L) Q := Wp.iald0 e173_944 hk h31
theorem e173_945 : decode (j_co 173) 945 = .ok (.aload_n 0, 1) := by decide +kernel
set_option maxRecDepth 20000 in
theorem w173_945 {d : Nat} {st : List Value} {Q : Option Value × jW → Prop} {w : jW} {a1 a2 a3 : Option Value} {x : Nat} : Wp d 173 945 [some (.ref x), a1, a2, a3] (st) w Q = Wp d 173 946 [some (.ref x), a1, a2, a3] (.ref x :: st) w Q := Wp.loc e173_945 rfl rfl rfl
theorem e173_946 : decode (j_co 173) 946 = .ok (.iload_n 3, 1) := by decide +kernel
set_option maxRecDepth 20000 in
theorem w173_946 {d : Nat} {st : List Value} {Q : Option Value × jW → Prop} {w : jW} {a0 a1 a2 : Option Value} {x : Int32} : Wp d 173 946 [a0, a1, a2, some (.int x)] (st) w Q = Wp d 173 947 [a0, a1, a2, some (.int x)] (.int x :: st) w Q := Wp.loc e173_946 rfl rfl rfl
theorem e173_947 : decode (j_co 173) 947 = .ok (.iconst 3, 1) := by decide +kernel
set_option maxRecDepth 20000 in
theorem w173_947 {d : Nat} {st : List Value} {Q : Option Value × jW → Prop} {ls : jL} {w : jW} : Wp d 173 947 ls (st) w Q = Wp d 173 948 ls (.int (nI 3) :: st) w Q := Wp.alu e173_947 rfl rfl
theorem e173_948 : decode (j_co 173) 948 = .ok (.iadd, 1) := by decide +kernel
set_option maxRecDepth 20000 in
theorem w173_948 {d : Nat} {st : List Value} {Q : Option Value × jW → Prop} {ls : jL} {w : jW} {a b : Int32} : Wp d 173 948 ls (.int b :: .int a :: st) w Q = Wp d 173 949 ls (.int (a + b) :: st) w Q := Wp.alu e173_948 rfl rfl
theorem e173_949 : decode (j_co 173) 949 = .ok (.iaload, 1) := by decide +kernel
theorem w173_949 {d k : Nat} {ls : jL} {st : List Value} {I : fI} {L : fL} {Q : Option Value × jW → Prop} {g : List Int32} (hk : k < g.length) (h31 : k < 2147483648) : Wp d 173 949 ls (.int (nI k) :: .ref 0 :: st) (f_W (g.map Value.int) I L) Q = Wp d 173 950 ls (.int (g.getD k 0) :: st) (f_W (g.map Value.int) I L) Q := Wp.iald0 e173_949 hk h31
theorem e173_950 : decode (j_co 173) 950 = .ok (.invokevirtual 107, 3) := by decide +kernel
set_option maxRecDepth 20000 in
theorem w173_950 {d : Nat} {st : List Value} {Q : Option Value × jW → Prop} {ls : jL} {xs : List Value} {I : fI} {L : fL} {r : Nat} {x0 : Int32} {x1 : Int32} {x2 : Int32} (hs : j_sumc st ≤ 8) (ht : f_tg r = 11) : Wp (d + 1) 173 950 ls (.int x2 :: .int x1 :: .int x0 :: .ref r :: st) (f_W xs I L) Q = Wp d 161 0 [some (.ref r), some (.int x0), some (.int x1), some (.int x2), none, none, none, none] [] (f_W xs I L) (fun r1 => Wp (d + 1) 173 953 ls (r1.1.toList ++ st) r1.2 Q) := Wp.cv (y' := 161) (as := [.int x0, .int x1, .int x2]) e173_950 rfl (by decide) rfl (show 4 ≤ 8 by decide) (by decide) hs ht
theorem e173_953 : decode (j_co 173) 953 = .ok (.if_icmp .eq 253, 3) := by decide +kernel
set_option maxRecDepth 20000 in
theorem w173_953 {d : Nat} {st : List Value} {Q : Option Value × jW → Prop} {ls : jL} {w : jW} {a b : Int32} : Wp d 173 953 ls (.int b :: .int a :: st) w Q = ((a = b → Wp d 173 1206 ls st w Q) ∧ (¬ a = b → Wp d 173 956 ls st w Q)) := Wp.if2 (c := a = b) (off := 253) e173_953 rfl rfl rfl rfl rfl
theorem e173_956 : decode (j_co 173) 956 = .ok (.iconst 0, 1) := by decide +kernel
set_option maxRecDepth 20000 in
theorem w173_956 {d : Nat} {st : List Value} {Q : Option Value × jW → Prop} {ls : jL} {w : jW} : Wp d 173 956 ls (st) w Q = Wp d 173 957 ls (.int (nI 0) :: st) w Q := Wp.alu e173_956 rfl rfl
theorem e173_957 : decode (j_co 173) 957 = .ok (.ireturn, 1) := by decide +kernel
set_option maxRecDepth 20000 in
theorem w173_957 {d : Nat} {Q : Option Value × jW → Prop} {ls : jL} {w : jW} {x : Int32} (hx : x = 0 ∨ x = 1) : Wp d 173 957 ls [.int x] w Q = Q (some (.int x), w) := Wp.ret e173_957 (by rcases hx with rfl | rfl <;> rfl)
theorem e173_958 : decode (j_co 173) 958 = .ok (.aload_n 1, 1) := by decide +kernel
set_option maxRecDepth 20000 in
theorem w173_958 {d : Nat} {st : List Value} {Q : Option Value × jW → Prop} {w : jW} {a0 a2 a3 : Option Value} {x : Nat} : Wp d 173 958 [a0, some (.ref x), a2, a3] (st) w Q = Wp d 173 959 [a0, some (.ref x), a2, a3] (.ref x :: st) w Q := Wp.loc e173_958 rfl rfl rfl
theorem e173_959 : decode (j_co 173) 959 = .ok (.aload_n 0, 1) := by decide +kernel
set_option maxRecDepth 20000 in
theorem w173_959 {d : Nat} {st : List Value} {Q : Option Value × jW → Prop} {w : jW} {a1 a2 a3 : Option Value} {x : Nat} : Wp d 173 959 [some (.ref x), a1, a2, a3] (st) w Q = Wp d 173 960 [some (.ref x), a1, a2, a3] (.ref x :: st) w Q := Wp.loc e173_959 rfl rfl rfl
theorem e173_960 : decode (j_co 173) 960 = .ok (.iload_n 3, 1) := by decide +kernel
set_option maxRecDepth 20000 in
theorem w173_960 {d : Nat} {st : List Value} {Q : Option Value × jW → Prop} {w : jW} {a0 a1 a2 : Option Value} {x : Int32} : Wp d 173 960 [a0, a1, a2, some (.int x)] (st) w Q = Wp d 173 961 [a0, a1, a2, some (.int x)] (.int x :: st) w Q := Wp.loc e173_960 rfl rfl rfl
theorem e173_961 : decode (j_co 173) 961 = .ok (.iconst 1, 1) := by decide +kernel
set_option maxRecDepth 20000 in
theorem w173_961 {d : Nat} {st : List Value} {Q : Option Value × jW → Prop} {ls : jL} {w : jW} : Wp d 173 961 ls (st) w Q = Wp d 173 962 ls (.int (nI 1) :: st) w Q := Wp.alu e173_961 rfl rfl
theorem e173_962 : decode (j_co 173) 962 = .ok (.iadd, 1) := by decide +kernel
set_option maxRecDepth 20000 in
theorem w173_962 {d : Nat} {st : List Value} {Q : Option Value × jW → Prop} {ls : jL} {w : jW} {a b : Int32} : Wp d 173 962 ls (.int b :: .int a :: st) w Q = Wp d 173 963 ls (.int (a + b) :: st) w Q := Wp.alu e173_962 rfl rfl
theorem e173_963 : decode (j_co 173) 963 = .ok (.iaload, 1) := by decide +kernel
theorem w173_963 {d k : Nat} {ls : jL} {st : List Value} {I : fI} {L : fL} {Q : Option Value × jW → Prop} {g : List Int32} (hk : k < g.length) (h31 : k < 2147483648) : Wp d 173 963 ls (.int (nI k) :: .ref 0 :: st) (f_W (g.map Value.int) I L) Q = Wp d 173 964 ls (.int (g.getD k 0) :: st) (f_W (g.map Value.int) I L) Q := Wp.iald0 e173_963 hk h31
theorem e173_964 : decode (j_co 173) 964 = .ok (.aload_n 0, 1) := by decide +kernel
set_option maxRecDepth 20000 in
theorem w173_964 {d : Nat} {st : List Value} {Q : Option Value × jW → Prop} {w : jW} {a1 a2 a3 : Option Value} {x : Nat} : Wp d 173 964 [some (.ref x), a1, a2, a3] (st) w Q = Wp d 173 965 [some (.ref x), a1, a2, a3] (.ref x :: st) w Q := Wp.loc e173_964 rfl rfl rfl
theorem e173_965 : decode (j_co 173) 965 = .ok (.iload_n 3, 1) := by decide +kernel
set_option maxRecDepth 20000 in
theorem w173_965 {d : Nat} {st : List Value} {Q : Option Value × jW → Prop} {w : jW} {a0 a1 a2 : Option Value} {x : Int32} : Wp d 173 965 [a0, a1, a2, some (.int x)] (st) w Q = Wp d 173 966 [a0, a1, a2, some (.int x)] (.int x :: st) w Q := Wp.loc e173_965 rfl rfl rfl
theorem e173_966 : decode (j_co 173) 966 = .ok (.iconst 2, 1) := by decide +kernel
set_option maxRecDepth 20000 in
theorem w173_966 {d : Nat} {st : List Value} {Q : Option Value × jW → Prop} {ls : jL} {w : jW} : Wp d 173 966 ls (st) w Q = Wp d 173 967 ls (.int (nI 2) :: st) w Q := Wp.alu e173_966 rfl rfl
theorem e173_967 : decode (j_co 173) 967 = .ok (.iadd, 1) := by decide +kernel
set_option maxRecDepth 20000 in
theorem w173_967 {d : Nat} {st : List Value} {Q : Option Value × jW → Prop} {ls : jL} {w : jW} {a b : Int32} : Wp d 173 967 ls (.int b :: .int a :: st) w Q = Wp d 173 968 ls (.int (a + b) :: st) w Q := Wp.alu e173_967 rfl rfl
theorem e173_968 : decode (j_co 173) 968 = .ok (.iaload, 1) := by decide +kernel
theorem w173_968 {d k : Nat} {ls : jL} {st : List Value} {I : fI} {L : fL} {Q : Option Value × jW → Prop} {g : List Int32} (hk : k < g.length) (h31 : k < 2147483648) : Wp d 173 968 ls (.int (nI k) :: .ref 0 :: st) (f_W (g.map Value.int) I L) Q = Wp d 173 969 ls (.int (g.getD k 0) :: st) (f_W (g.map Value.int) I L) Q := Wp.iald0 e173_968 hk h31
theorem e173_969 : decode (j_co 173) 969 = .ok (.aload_n 0, 1) := by decide +kernel
set_option maxRecDepth 20000 in
theorem w173_969 {d : Nat} {st : List Value} {Q : Option Value × jW → Prop} {w : jW} {a1 a2 a3 : Option Value} {x : Nat} : Wp d 173 969 [some (.ref x), a1, a2, a3] (st) w Q = Wp d 173 970 [some (.ref x), a1, a2, a3] (.ref x :: st) w Q := Wp.loc e173_969 rfl rfl rfl
theorem e173_970 : decode (j_co 173) 970 = .ok (.iload_n 3, 1) := by decide +kernel
set_option maxRecDepth 20000 in
theorem w173_970 {d : Nat} {st : List Value} {Q : Option Value × jW → Prop} {w : jW} {a0 a1 a2 : Option Value} {x : Int32} : Wp d 173 970 [a0, a1, a2, some (.int x)] (st) w Q = Wp d 173 971 [a0, a1, a2, some (.int x)] (.int x :: st) w Q := Wp.loc e173_970 rfl rfl rfl
theorem e173_971 : decode (j_co 173) 971 = .ok (.iconst 3, 1) := by decide +kernel
set_option maxRecDepth 20000 in
theorem w173_971 {d : Nat} {st : List Value} {Q : Option Value × jW → Prop} {ls : jL} {w : jW} : Wp d 173 971 ls (st) w Q = Wp d 173 972 ls (.int (nI 3) :: st) w Q := Wp.alu e173_971 rfl rfl
theorem e173_972 : decode (j_co 173) 972 = .ok (.iadd, 1) := by decide +kernel
set_option maxRecDepth 20000 in
theorem w173_972 {d : Nat} {st : List Value} {Q : Option Value × jW → Prop} {ls : jL} {w : jW} {a b : Int32} : Wp d 173 972 ls (.int b :: .int a :: st) w Q = Wp d 173 973 ls (.int (a + b) :: st) w Q := Wp.alu e173_972 rfl rfl
theorem e173_973 : decode (j_co 173) 973 = .ok (.iaload, 1) := by decide +kernel
theorem w173_973 {d k : Nat} {ls : jL} {st : List Value} {I : fI} {L : fL} {Q : Option Value × jW → Prop} {g : List Int32} (hk : k < g.length) (h31 : k < 2147483648) : Wp d 173 973 ls (.int (nI k) :: .ref 0 :: st) (f_W (g.map Value.int) I L) Q = Wp d 173 974 ls (.int (g.getD k 0) :: st) (f_W (g.map Value.int) I L) Q := Wp.iald0 e173_973 hk h31
theorem e173_974 : decode (j_co 173) 974 = .ok (.aload_n 0, 1) := by decide +kernel
set_option maxRecDepth 20000 in
theorem w173_974 {d : Nat} {st : List Value} {Q : Option Value × jW → Prop} {w : jW} {a1 a2 a3 : Option Value} {x : Nat} : Wp d 173 974 [some (.ref x), a1, a2, a3] (st) w Q = Wp d 173 975 [some (.ref x), a1, a2, a3] (.ref x :: st) w Q := Wp.loc e173_974 rfl rfl rfl
theorem e173_975 : decode (j_co 173) 975 = .ok (.iload_n 3, 1) := by decide +kernel
set_option maxRecDepth 20000 in
theorem w173_975 {d : Nat} {st : List Value} {Q : Option Value × jW → Prop} {w : jW} {a0 a1 a2 : Option Value} {x : Int32} : Wp d 173 975 [a0, a1, a2, some (.int x)] (st) w Q = Wp d 173 976 [a0, a1, a2, some (.int x)] (.int x :: st) w Q := Wp.loc e173_975 rfl rfl rfl
theorem e173_976 : decode (j_co 173) 976 = .ok (.iconst 4, 1) := by decide +kernel
set_option maxRecDepth 20000 in
theorem w173_976 {d : Nat} {st : List Value} {Q : Option Value × jW → Prop} {ls : jL} {w : jW} : Wp d 173 976 ls (st) w Q = Wp d 173 977 ls (.int (nI 4) :: st) w Q := Wp.alu e173_976 rfl rfl
theorem e173_977 : decode (j_co 173) 977 = .ok (.iadd, 1) := by decide +kernel
set_option maxRecDepth 20000 in
theorem w173_977 {d : Nat} {st : List Value} {Q : Option Value × jW → Prop} {ls : jL} {w : jW} {a b : Int32} : Wp d 173 977 ls (.int b :: .int a :: st) w Q = Wp d 173 978 ls (.int (a + b) :: st) w Q := Wp.alu e173_977 rfl rfl
theorem e173_978 : decode (j_co 173) 978 = .ok (.iaload, 1) := by decide +kernel
theorem w173_978 {d k : Nat} {ls : jL} {st : List Value} {I : fI} {L : fL} {Q : Option Value × jW → Prop} {g : List Int32} (hk : k < g.length) (h31 : k < 2147483648) : Wp d 173 978 ls (.int (nI k) :: .ref 0 :: st) (f_W (g.map Value.int) I L) Q = Wp d 173 979 ls (.int (g.getD k 0) :: st) (f_W (g.map Value.int) I L) Q := Wp.iald0 e173_978 hk h31
theorem e173_979 : decode (j_co 173) 979 = .ok (.invokevirtual 108, 3) := by decide +kernel
set_option maxRecDepth 20000 in
theorem w173_979 {d : Nat} {st : List Value} {Q : Option Value × jW → Prop} {ls : jL} {xs : List Value} {I : fI} {L : fL} {r : Nat} {x0 : Int32} {x1 : Int32} {x2 : Int32} {x3 : Int32} (hs : j_sumc st ≤ 8) (ht : f_tg r = 10) : Wp (d + 1) 173 979 ls (.int x3 :: .int x2 :: .int x1 :: .int x0 :: .ref r :: st) (f_W xs I L) Q = Wp d 92 0 [some (.ref r), some (.int x0), some (.int x1), some (.int x2), some (.int x3)] [] (f_W xs I L) (fun r1 => Wp (d + 1) 173 982 ls (r1.1.toList ++ st) r1.2 Q) := Wp.cv (y' := 92) (as := [.int x0, .int x1, .int x2, .int x3]) e173_979 rfl (by decide) rfl (show 5 ≤ 5 by decide) (by decide) hs ht
theorem e173_982 : decode (j_co 173) 982 = .ok (.aload_n 2, 1) := by decide +kernel
set_option maxRecDepth 20000 in
theorem w173_982 {d : Nat} {st : List Value} {Q : Option Value × jW → Prop} {w : jW} {a0 a1 a3 : Option Value} {x : Nat} : Wp d 173 982 [a0, a1, some (.ref x), a3] (st) w Q = Wp d 173 983 [a0, a1, some (.ref x), a3] (.ref x :: st) w Q := Wp.loc e173_982 rfl rfl rfl
theorem e173_983 : decode (j_co 173) 983 = .ok (.aload_n 0, 1) := by decide +kernel
set_option maxRecDepth 20000 in
theorem w173_983 {d : Nat} {st : List Value} {Q : Option Value × jW → Prop} {w : jW} {a1 a2 a3 : Option Value} {x : Nat} : Wp d 173 983 [some (.ref x), a1, a2, a3] (st) w Q = Wp d 173 984 [some (.ref x), a1, a2, a3] (.ref x :: st) w Q := Wp.loc e173_983 rfl rfl rfl
theorem e173_984 : decode (j_co 173) 984 = .ok (.iload_n 3, 1) := by decide +kernel
set_option maxRecDepth 20000 in
theorem w173_984 {d : Nat} {st : List Value} {Q : Option Value × jW → Prop} {w : jW} {a0 a1 a2 : Option Value} {x : Int32} : Wp d 173 984 [a0, a1, a2, some (.int x)] (st) w Q = Wp d 173 985 [a0, a1, a2, some (.int x)] (.int x :: st) w Q := Wp.loc e173_984 rfl rfl rfl
theorem e173_985 : decode (j_co 173) 985 = .ok (.iconst 1, 1) := by decide +kernel
set_option maxRecDepth 20000 in
theorem w173_985 {d : Nat} {st : List Value} {Q : Option Value × jW → Prop} {ls : jL} {w : jW} : Wp d 173 985 ls (st) w Q = Wp d 173 986 ls (.int (nI 1) :: st) w Q := Wp.alu e173_985 rfl rfl
theorem e173_986 : decode (j_co 173) 986 = .ok (.iadd, 1) := by decide +kernel
set_option maxRecDepth 20000 in
theorem w173_986 {d : Nat} {st : List Value} {Q : Option Value × jW → Prop} {ls : jL} {w : jW} {a b : Int32} : Wp d 173 986 ls (.int b :: .int a :: st) w Q = Wp d 173 987 ls (.int (a + b) :: st) w Q := Wp.alu e173_986 rfl rfl
theorem e173_987 : decode (j_co 173) 987 = .ok (.iaload, 1) := by decide +kernel
theorem w173_987 {d k : Nat} {ls : jL} {st : List Value} {I : fI} {L : fL} {Q : Option Value × jW → Prop} {g : List Int32} (hk : k < g.length) (h31 : k < 2147483648) : Wp d 173 987 ls (.int (nI k) :: .ref 0 :: st) (f_W (g.map Value.int) I L) Q = Wp d 173 988 ls (.int (g.getD k 0) :: st) (f_W (g.map Value.int) I L) Q := Wp.iald0 e173_987 hk h31
theorem e173_988 : decode (j_co 173) 988 = .ok (.aload_n 0, 1) := by decide +kernel
set_option maxRecDepth 20000 in
theorem w173_988 {d : Nat} {st : List Value} {Q : Option Value × jW → Prop} {w : jW} {a1 a2 a3 : Option Value} {x : Nat} : Wp d 173 988 [some (.ref x), a1, a2, a3] (st) w Q = Wp d 173 989 [some (.ref x), a1, a2, a3] (.ref x :: st) w Q := Wp.loc e173_988 rfl rfl rfl
theorem e173_989 : decode (j_co 173) 989 = .ok (.iload_n 3, 1) := by decide +kernel
set_option maxRecDepth 20000 in
theorem w173_989 {d : Nat} {st : List Value} {Q : Option Value × jW → Prop} {w : jW} {a0 a1 a2 : Option Value} {x : Int32} : Wp d 173 989 [a0, a1, a2, some (.int x)] (st) w Q = Wp d 173 990 [a0, a1, a2, some (.int x)] (.int x :: st) w Q := Wp.loc e173_989 rfl rfl rfl
theorem e173_990 : decode (j_co 173) 990 = .ok (.iconst 2, 1) := by decide +kernel
set_option maxRecDepth 20000 in
theorem w173_990 {d : Nat} {st : List Value} {Q : Option Value × jW → Prop} {ls : jL} {w : jW} : Wp d 173 990 ls (st) w Q = Wp d 173 991 ls (.int (nI 2) :: st) w Q := Wp.alu e173_990 rfl rfl
theorem e173_991 : decode (j_co 173) 991 = .ok (.iadd, 1) := by decide +kernel
set_option maxRecDepth 20000 in
theorem w173_991 {d : Nat} {st : List Value} {Q : Option Value × jW → Prop} {ls : jL} {w : jW} {a b : Int32} : Wp d 173 991 ls (.int b :: .int a :: st) w Q = Wp d 173 992 ls (.int (a + b) :: st) w Q := Wp.alu e173_991 rfl rfl
theorem e173_992 : decode (j_co 173) 992 = .ok (.iaload, 1) := by decide +kernel
theorem w173_992 {d k : Nat} {ls : jL} {st : List Value} {I : fI} {L : fL} {Q : Option Value × jW → Prop} {g : List Int32} (hk : k < g.length) (h31 : k < 2147483648) : Wp d 173 992 ls (.int (nI k) :: .ref 0 :: st) (f_W (g.map Value.int) I L) Q = Wp d 173 993 ls (.int (g.getD k 0) :: st) (f_W (g.map Value.int) I L) Q := Wp.iald0 e173_992 hk h31
theorem e173_993 : decode (j_co 173) 993 = .ok (.aload_n 0, 1) := by decide +kernel
set_option maxRecDepth 20000 in
theorem w173_993 {d : Nat} {st : List Value} {Q : Option Value × jW → Prop} {w : jW} {a1 a2 a3 : Option Value} {x : Nat} : Wp d 173 993 [some (.ref x), a1, a2, a3] (st) w Q = Wp d 173 994 [some (.ref x), a1, a2, a3] (.ref x :: st) w Q := Wp.loc e173_993 rfl rfl rfl
theorem e173_994 : decode (j_co 173) 994 = .ok (.iload_n 3, 1) := by decide +kernel
set_option maxRecDepth 20000 in
theorem w173_994 {d : Nat} {st : List Value} {Q : Option Value × jW → Prop} {w : jW} {a0 a1 a2 : Option Value} {x : Int32} : Wp d 173 994 [a0, a1, a2, some (.int x)] (st) w Q = Wp d 173 995 [a0, a1, a2, some (.int x)] (.int x :: st) w Q := Wp.loc e173_994 rfl rfl rfl
theorem e173_995 : decode (j_co 173) 995 = .ok (.iconst 3, 1) := by decide +kernel
set_option maxRecDepth 20000 in
theorem w173_995 {d : Nat} {st : List Value} {Q : Option Value × jW → Prop} {ls : jL} {w : jW} : Wp d 173 995 ls (st) w Q = Wp d 173 996 ls (.int (nI 3) :: st) w Q := Wp.alu e173_995 rfl rfl
theorem e173_996 : decode (j_co 173) 996 = .ok (.iadd, 1) := by decide +kernel
set_option maxRecDepth 20000 in
theorem w173_996 {d : Nat} {st : List Value} {Q : Option Value × jW → Prop} {ls : jL} {w : jW} {a b : Int32} : Wp d 173 996 ls (.int b :: .int a :: st) w Q = Wp d 173 997 ls (.int (a + b) :: st) w Q := Wp.alu e173_996 rfl rfl
theorem e173_997 : decode (j_co 173) 997 = .ok (.iaload, 1) := by decide +kernel
theorem w173_997 {d k : Nat} {ls : jL} {st : List Value} {I : fI} {L : fL} {Q : Option Value × jW → Prop} {g : List Int32} (hk : k < g.length) (h31 : k < 2147483648) : Wp d 173 997 ls (.int (nI k) :: .ref 0 :: st) (f_W (g.map Value.int) I L) Q = Wp d 173 998 ls (.int (g.getD k 0) :: st) (f_W (g.map Value.int) I L) Q := Wp.iald0 e173_997 hk h31
theorem e173_998 : decode (j_co 173) 998 = .ok (.aload_n 0, 1) := by decide +kernel
set_option maxRecDepth 20000 in
theorem w173_998 {d : Nat} {st : List Value} {Q : Option Value × jW → Prop} {w : jW} {a1 a2 a3 : Option Value} {x : Nat} : Wp d 173 998 [some (.ref x), a1, a2, a3] (st) w Q = Wp d 173 999 [some (.ref x), a1, a2, a3] (.ref x :: st) w Q := Wp.loc e173_998 rfl rfl rfl
theorem e173_999 : decode (j_co 173) 999 = .ok (.iload_n 3, 1) := by decide +kernel
set_option maxRecDepth 20000 in
theorem w173_999 {d : Nat} {st : List Value} {Q : Option Value × jW → Prop} {w : jW} {a0 a1 a2 : Option Value} {x : Int32} : Wp d 173 999 [a0, a1, a2, some (.int x)] (st) w Q = Wp d 173 1000 [a0, a1, a2, some (.int x)] (.int x :: st) w Q := Wp.loc e173_999 rfl rfl rfl
theorem e173_1000 : decode (j_co 173) 1000 = .ok (.iconst 4, 1) := by decide +kernel
set_option maxRecDepth 20000 in
theorem w173_1000 {d : Nat} {st : List Value} {Q : Option Value × jW → Prop} {ls : jL} {w : jW} : Wp d 173 1000 ls (st) w Q = Wp d 173 1001 ls (.int (nI 4) :: st) w Q := Wp.alu e173_1000 rfl rfl
theorem e173_1001 : decode (j_co 173) 1001 = .ok (.iadd, 1) := by decide +kernel
set_option maxRecDepth 20000 in
theorem w173_1001 {d : Nat} {st : List Value} {Q : Option Value × jW → Prop} {ls : jL} {w : jW} {a b : Int32} : Wp d 173 1001 ls (.int b :: .int a :: st) w Q = Wp d 173 1002 ls (.int (a + b) :: st) w Q := Wp.alu e173_1001 rfl rfl
theorem e173_1002 : decode (j_co 173) 1002 = .ok (.iaload, 1) := by decide +kernel
theorem w173_1002 {d k : Nat} {ls : jL} {st : List Value} {I : fI} {L : fL} {Q : Option Value × jW → Prop} {g : List Int32} (hk : k < g.length) (h31 : k < 2147483648) : Wp d 173 1002 ls (.int (nI k) :: .ref 0 :: st) (f_W (g.map Value.int) I L) Q = Wp d 173 1003 ls (.int (g.getD k 0) :: st) (f_W (g.map Value.int) I L) Q := Wp.iald0 e173_1002 hk h31
theorem e173_1003 : decode (j_co 173) 1003 = .ok (.invokevirtual 111, 3) := by decide +kernel
set_option maxRecDepth 20000 in
theorem w173_1003 {d : Nat} {st : List Value} {Q : Option Value × jW → Prop} {ls : jL} {xs : List Value} {I : fI} {L : fL} {r : Nat} {x0 : Int32} {x1 : Int32} {x2 : Int32} {x3 : Int32} (hs : j_sumc st ≤ 8) (ht : f_tg r = 11) : Wp (d + 1) 173 1003 ls (.int x3 :: .int x2 :: .int x1 :: .int x0 :: .ref r :: st) (f_W xs I L) Q = Wp d 163 0 [some (.ref r), some (.int x0), some (.int x1), some (.int x2), some (.int x3), none, none, none] [] (f_W xs I L) (fun r1 => Wp (d + 1) 173 1006 ls (r1.1.toList ++ st) r1.2 Q) := Wp.cv (y' := 163) (as := [.int x0, .int x1, .int x2, .int x3]) e173_1003 rfl (by decide) rfl (show 5 ≤ 8 by decide) (by decide) hs ht
theorem e173_1006 : decode (j_co 173) 1006 = .ok (.if_icmp .eq 200, 3) := by decide +kernel
set_option maxRecDepth 20000 in
theorem w173_1006 {d : Nat} {st : List Value} {Q : Option Value × jW → Prop} {ls : jL} {w : jW} {a b : Int32} : Wp d 173 1006 ls (.int b :: .int a :: st) w Q = ((a = b → Wp d 173 1206 ls st w Q) ∧ (¬ a = b → Wp d 173 1009 ls st w Q)) := Wp.if2 (c := a = b) (off := 200) e173_1006 rfl rfl rfl rfl rfl
theorem e173_1009 : decode (j_co 173) 1009 = .ok (.iconst 0, 1) := by decide +kernel
set_option maxRecDepth 20000 in
theorem w173_1009 {d : Nat} {st : List Value} {Q : Option Value × jW → Prop} {ls : jL} {w : jW} : Wp d 173 1009 ls (st) w Q = Wp d 173 1010 ls (.int (nI 0) :: st) w Q := Wp.alu e173_1009 rfl rfl
theorem e173_1010 : decode (j_co 173) 1010 = .ok (.ireturn, 1) := by decide +kernel
set_option maxRecDepth 20000 in
theorem w173_1010 {d : Nat} {Q : Option Value × jW → Prop} {ls : jL} {w : jW} {x : Int32} (hx : x = 0 ∨ x = 1) : Wp d 173 1010 ls [.int x] w Q = Q (some (.int x), w) := Wp.ret e173_1010 (by rcases hx with rfl | rfl <;> rfl)
theorem e173_1011 : decode (j_co 173) 1011 = .ok (.aload_n 1, 1) := by decide +kernel
set_option maxRecDepth 20000 in
theorem w173_1011 {d : Nat} {st : List Value} {Q : Option Value × jW → Prop} {w : jW} {a0 a2 a3 : Option Value} {x : Nat} : Wp d 173 1011 [a0, some (.ref x), a2, a3] (st) w Q = Wp d 173 1012 [a0, some (.ref x), a2, a3] (.ref x :: st) w Q := Wp.loc e173_1011 rfl rfl rfl
theorem e173_1012 : decode (j_co 173) 1012 = .ok (.aload_n 0, 1) := by decide +kernel
set_option maxRecDepth 20000 in
theorem w173_1012 {d : Nat} {st : List Value} {Q : Option Value × jW → Prop} {w : jW} {a1 a2 a3 : Option Value} {x : Nat} : Wp d 173 1012 [some (.ref x), a1, a2, a3] (st) w Q = Wp d 173 1013 [some (.ref x), a1, a2, a3] (.ref x :: st) w Q := Wp.loc e173_1012 rfl rfl rfl
theorem e173_1013 : decode (j_co 173) 1013 = .ok (.iload_n 3, 1) := by decide +kernel
set_option maxRecDepth 20000 in
theorem w173_1013 {d : Nat} {st : List Value} {Q : Option Value × jW → Prop} {w : jW} {a0 a1 a2 : Option Value} {x : Int32} : Wp d 173 1013 [a0, a1, a2, some (.int x)] (st) w Q = Wp d 173 1014 [a0, a1, a2, some (.int x)] (.int x :: st) w Q := Wp.loc e173_1013 rfl rfl rfl
theorem e173_1014 : decode (j_co 173) 1014 = .ok (.iconst 1, 1) := by decide +kernel
set_option maxRecDepth 20000 in
theorem w173_1014 {d : Nat} {st : List Value} {Q : Option Value × jW → Prop} {ls : jL} {w : jW} : Wp d 173 1014 ls (st) w Q = Wp d 173 1015 ls (.int (nI 1) :: st) w Q := Wp.alu e173_1014 rfl rfl
theorem e173_1015 : decode (j_co 173) 1015 = .ok (.iadd, 1) := by decide +kernel
set_option maxRecDepth 20000 in
theorem w173_1015 {d : Nat} {st : List Value} {Q : Option Value × jW → Prop} {ls : jL} {w : jW} {a b : Int32} : Wp d 173 1015 ls (.int b :: .int a :: st) w Q = Wp d 173 1016 ls (.int (a + b) :: st) w Q := Wp.alu e173_1015 rfl rfl
theorem e173_1016 : decode (j_co 173) 1016 = .ok (.iaload, 1) := by decide +kernel
theorem w173_1016 {d k : Nat} {ls : jL} {st : List Value} {I : fI} {L : fL} {Q : Option Value × jW → Prop} {g : List Int32} (hk : k < g.length) (h31 : k < 2147483648) : Wp d 173 1016 ls (.int (nI k) :: .ref 0 :: st) (f_W (g.map Value.int) I L) Q = Wp d 173 1017 ls (.int (g.getD k 0) :: st) (f_W (g.map Value.int) I L) Q := Wp.iald0 e173_1016 hk h31
theorem e173_1017 : decode (j_co 173) 1017 = .ok (.invokevirtual 112, 3) := by decide +kernel
set_option maxRecDepth 20000 in
theorem w173_1017 {d : Nat} {st : List Value} {Q : Option Value × jW → Prop} {ls : jL} {xs : List Value} {I : fI} {L : fL} {r : Nat} {x0 : Int32} (hs : j_sumc st ≤ 8) (ht : f_tg r = 10) : Wp (d + 1) 173 1017 ls (.int x0 :: .ref r :: st) (f_W xs I L) Q = Wp d 94 0 [some (.ref r), some (.int x0)] [] (f_W xs I L) (fun r1 => Wp (d + 1) 173 1020 ls (r1.1.toList ++ st) r1.2 Q) := Wp.cv (y' := 94) (as := [.int x0]) e173_1017 rfl (by decide) rfl (show 2 ≤ 2 by decide) (by decide) hs ht
theorem e173_1020 : decode (j_co 173) 1020 = .ok (.aload_n 2, 1) := by decide +kernel
set_option maxRecDepth 20000 in
theorem w173_1020 {d : Nat} {st : List Value} {Q : Option Value × jW → Prop} {w : jW} {a0 a1 a3 : Option Value} {x : Nat} : Wp d 173 1020 [a0, a1, some (.ref x), a3] (st) w Q = Wp d 173 1021 [a0, a1, some (.ref x), a3] (.ref x :: st) w Q := Wp.loc e173_1020 rfl rfl rfl
theorem e173_1021 : decode (j_co 173) 1021 = .ok (.aload_n 0, 1) := by decide +kernel
set_option maxRecDepth 20000 in
theorem w173_1021 {d : Nat} {st : List Value} {Q : Option Value × jW → Prop} {w : jW} {a1 a2 a3 : Option Value} {x : Nat} : Wp d 173 1021 [some (.ref x), a1, a2, a3] (st) w Q = Wp d 173 1022 [some (.ref x), a1, a2, a3] (.ref x :: st) w Q := Wp.loc e173_1021 rfl rfl rfl
theorem e173_1022 : decode (j_co 173) 1022 = .ok (.iload_n 3, 1) := by decide +kernel
set_option maxRecDepth 20000 in
theorem w173_1022 {d : Nat} {st : List Value} {Q : Option Value × jW → Prop} {w : jW} {a0 a1 a2 : Option Value} {x : Int32} : Wp d 173 1022 [a0, a1, a2, some (.int x)] (st) w Q = Wp d 173 1023 [a0, a1, a2, some (.int x)] (.int x :: st) w Q := Wp.loc e173_1022 rfl rfl rfl
theorem e173_1023 : decode (j_co 173) 1023 = .ok (.iconst 1, 1) := by decide +kernel
set_option maxRecDepth 20000 in
theorem w173_1023 {d : Nat} {st : List Value} {Q : Option Value × jW → Prop} {ls : jL} {w : jW} : Wp d 173 1023 ls (st) w Q = Wp d 173 1024 ls (.int (nI 1) :: st) w Q := Wp.alu e173_1023 rfl rfl
theorem e173_1024 : decode (j_co 173) 1024 = .ok (.iadd, 1) := by decide +kernel
set_option maxRecDepth 20000 in
theorem w173_1024 {d : Nat} {st : List Value} {Q : Option Value × jW → Prop} {ls : jL} {w : jW} {a b : Int32} : Wp d 173 1024 ls (.int b :: .int a :: st) w Q = Wp d 173 1025 ls (.int (a + b) :: st) w Q := Wp.alu e173_1024 rfl rfl
theorem e173_1025 : decode (j_co 173) 1025 = .ok (.iaload, 1) := by decide +kernel
theorem w173_1025 {d k : Nat} {ls : jL} {st : List Value} {I : fI} {L : fL} {Q : Option Value × jW → Prop} {g : List Int32} (hk : k < g.length) (h31 : k < 2147483648) : Wp d 173 1025 ls (.int (nI k) :: .ref 0 :: st) (f_W (g.map Value.int) I L) Q = Wp d 173 1026 ls (.int (g.getD k 0) :: st) (f_W (g.map Value.int) I L) Q := Wp.iald0 e173_1025 hk h31
theorem e173_1026 : decode (j_co 173) 1026 = .ok (.invokevirtual 115, 3) := by decide +kernel
set_option maxRecDepth 20000 in
theorem w173_1026 {d : Nat} {st : List Value} {Q : Option Value × jW → Prop} {ls : jL} {xs : List Value} {I : fI} {L : fL} {r : Nat} {x0 : Int32} (hs : j_sumc st ≤ 8) (ht : f_tg r = 11) : Wp (d + 1) 173 1026 ls (.int x0 :: .ref r :: st) (f_W xs I L) Q = Wp d 165 0 [some (.ref r), some (.int x0), none, none] [] (f_W xs I L) (fun r1 => Wp (d + 1) 173 1029 ls (r1.1.toList ++ st) r1.2 Q) := Wp.cv (y' := 165) (as := [.int x0]) e173_1026 rfl (by decide) rfl (show 2 ≤ 4 by decide) (by decide) hs ht
theorem e173_1029 : decode (j_co 173) 1029 = .ok (.if_icmp .eq 177, 3) := by decide +kernel
set_option maxRecDepth 20000 in
theorem w173_1029 {d : Nat} {st : List Value} {Q : Option Value × jW → Prop} {ls : jL} {w : jW} {a b : Int32} : Wp d 173 1029 ls (.int b :: .int a :: st) w Q = ((a = b → Wp d 173 1206 ls st w Q) ∧ (¬ a = b → Wp d 173 1032 ls st w Q)) := Wp.if2 (c := a = b) (off := 177) e173_1029 rfl rfl rfl rfl rfl
theorem e173_1032 : decode (j_co 173) 1032 = .ok (.iconst 0, 1) := by decide +kernel
set_option maxRecDepth 20000 in
theorem w173_1032 {d : Nat} {st : List Value} {Q : Option Value × jW → Prop} {ls : jL} {w : jW} : Wp d 173 1032 ls (st) w Q = Wp d 173 1033 ls (.int (nI 0) :: st) w Q := Wp.alu e173_1032 rfl rfl
theorem e173_1033 : decode (j_co 173) 1033 = .ok (.ireturn, 1) := by decide +kernel
set_option maxRecDepth 20000 in
theorem w173_1033 {d : Nat} {Q : Option Value × jW → Prop} {ls : jL} {w : jW} {x : Int32} (hx : x = 0 ∨ x = 1) : Wp d 173 1033 ls [.int x] w Q = Q (some (.int x), w) := Wp.ret e173_1033 (by rcases hx with rfl | rfl <;> rfl)
theorem e173_1034 : decode (j_co 173) 1034 = .ok (.aload_n 1, 1) := by decide +kernel
set_option maxRecDepth 20000 in
theorem w173_1034 {d : Nat} {st : List Value} {Q : Option Value × jW → Prop} {w : jW} {a0 a2 a3 : Option Value} {x : Nat} : Wp d 173 1034 [a0, some (.ref x), a2, a3] (st) w Q = Wp d 173 1035 [a0, some (.ref x), a2, a3] (.ref x :: st) w Q := Wp.loc e173_1034 rfl rfl rfl
theorem e173_1035 : decode (j_co 173) 1035 = .ok (.aload_n 0, 1) := by decide +kernel
set_option maxRecDepth 20000 in
theorem w173_1035 {d : Nat} {st : List Value} {Q : Option Value × jW → Prop} {w : jW} {a1 a2 a3 : Option Value} {x : Nat} : Wp d 173 1035 [some (.ref x), a1, a2, a3] (st) w Q = Wp d 173 1036 [some (.ref x), a1, a2, a3] (.ref x :: st) w Q := Wp.loc e173_1035 rfl rfl rfl
theorem e173_1036 : decode (j_co 173) 1036 = .ok (.iload_n 3, 1) := by decide +kernel
set_option maxRecDepth 20000 in
theorem w173_1036 {d : Nat} {st : List Value} {Q : Option Value × jW → Prop} {w : jW} {a0 a1 a2 : Option Value} {x : Int32} : Wp d 173 1036 [a0, a1, a2, some (.int x)] (st) w Q = Wp d 173 1037 [a0, a1, a2, some (.int x)] (.int x :: st) w Q := Wp.loc e173_1036 rfl rfl rfl
theorem e173_1037 : decode (j_co 173) 1037 = .ok (.iconst 1, 1) := by decide +kernel
set_option maxRecDepth 20000 in
theorem w173_1037 {d : Nat} {st : List Value} {Q : Option Value × jW → Prop} {ls : jL} {w : jW} : Wp d 173 1037 ls (st) w Q = Wp d 173 1038 ls (.int (nI 1) :: st) w Q := Wp.alu e173_1037 rfl rfl
theorem e173_1038 : decode (j_co 173) 1038 = .ok (.iadd, 1) := by decide +kernel
set_option maxRecDepth 20000 in
theorem w173_1038 {d : Nat} {st : List Value} {Q : Option Value × jW → Prop} {ls : jL} {w : jW} {a b : Int32} : Wp d 173 1038 ls (.int b :: .int a :: st) w Q = Wp d 173 1039 ls (.int (a + b) :: st) w Q := Wp.alu e173_1038 rfl rfl
theorem e173_1039 : decode (j_co 173) 1039 = .ok (.iaload, 1) := by decide +kernel
theorem w173_1039 {d k : Nat} {ls : jL} {st : List Value} {I : fI} {L : fL} {Q : Option Value × jW → Prop} {g : List Int32} (hk : k < g.length) (h31 : k < 2147483648) : Wp d 173 1039 ls (.int (nI k) :: .ref 0 :: st) (f_W (g.map Value.int) I L) Q = Wp d 173 1040 ls (.int (g.getD k 0) :: st) (f_W (g.map Value.int) I L) Q := Wp.iald0 e173_1039 hk h31
theorem e173_1040 : decode (j_co 173) 1040 = .ok (.aload_n 0, 1) := by decide +kernel
set_option maxRecDepth 20000 in
theorem w173_1040 {d : Nat} {st : List Value} {Q : Option Value × jW → Prop} {w : jW} {a1 a2 a3 : Option Value} {x : Nat} : Wp d 173 1040 [some (.ref x), a1, a2, a3] (st) w Q = Wp d 173 1041 [some (.ref x), a1, a2, a3] (.ref x :: st) w Q := Wp.loc e173_1040 rfl rfl rfl
theorem e173_1041 : decode (j_co 173) 1041 = .ok (.iload_n 3, 1) := by decide +kernel
set_option maxRecDepth 20000 in
theorem w173_1041 {d : Nat} {st : List Value} {Q : Option Value × jW → Prop} {w : jW} {a0 a1 a2 : Option Value} {x : Int32} : Wp d 173 1041 [a0, a1, a2, some (.int x)] (st) w Q = Wp d 173 1042 [a0, a1, a2, some (.int x)] (.int x :: st) w Q := Wp.loc e173_1041 rfl rfl rfl
theorem e173_1042 : decode (j_co 173) 1042 = .ok (.iconst 2, 1) := by decide +kernel
set_option maxRecDepth 20000 in
theorem w173_1042 {d : Nat} {st : List Value} {Q : Option Value × jW → Prop} {ls : jL} {w : jW} : Wp d 173 1042 ls (st) w Q = Wp d 173 1043 ls (.int (nI 2) :: st) w Q := Wp.alu e173_1042 rfl rfl
theorem e173_1043 : decode (j_co 173) 1043 = .ok (.iadd, 1) := by decide +kernel
set_option maxRecDepth 20000 in
theorem w173_1043 {d : Nat} {st : List Value} {Q : Option Value × jW → Prop} {ls : jL} {w : jW} {a b : Int32} : Wp d 173 1043 ls (.int b :: .int a :: st) w Q = Wp d 173 1044 ls (.int (a + b) :: st) w Q := Wp.alu e173_1043 rfl rfl
theorem e173_1044 : decode (j_co 173) 1044 = .ok (.iaload, 1) := by decide +kernel
theorem w173_1044 {d k : Nat} {ls : jL} {st : List Value} {I : fI} {L : fL} {Q : Option Value × jW → Prop} {g : List Int32} (hk : k < g.length) (h31 : k < 2147483648) : Wp d 173 1044 ls (.int (nI k) :: .ref 0 :: st) (f_W (g.map Value.int) I L) Q = Wp d 173 1045 ls (.int (g.getD k 0) :: st) (f_W (g.map Value.int) I L) Q := Wp.iald0 e173_1044 hk h31
theorem e173_1045 : decode (j_co 173) 1045 = .ok (.aload_n 0, 1) := by decide +kernel
set_option maxRecDepth 20000 in
theorem w173_1045 {d : Nat} {st : List Value} {Q : Option Value × jW → Prop} {w : jW} {a1 a2 a3 : Option Value} {x : Nat} : Wp d 173 1045 [some (.ref x), a1, a2, a3] (st) w Q = Wp d 173 1046 [some (.ref x), a1, a2, a3] (.ref x :: st) w Q := Wp.loc e173_1045 rfl rfl rfl
theorem e173_1046 : decode (j_co 173) 1046 = .ok (.iload_n 3, 1) := by decide +kernel
set_option maxRecDepth 20000 in
theorem w173_1046 {d : Nat} {st : List Value} {Q : Option Value × jW → Prop} {w : jW} {a0 a1 a2 : Option Value} {x : Int32} : Wp d 173 1046 [a0, a1, a2, some (.int x)] (st) w Q = Wp d 173 1047 [a0, a1, a2, some (.int x)] (.int x :: st) w Q := Wp.loc e173_1046 rfl rfl rfl
theorem e173_1047 : decode (j_co 173) 1047 = .ok (.iconst 3, 1) := by decide +kernel
set_option maxRecDepth 20000 in
theorem w173_1047 {d : Nat} {st : List Value} {Q : Option Value × jW → Prop} {ls : jL} {w : jW} : Wp d 173 1047 ls (st) w Q = Wp d 173 1048 ls (.int (nI 3) :: st) w Q := Wp.alu e173_1047 rfl rfl
theorem e173_1048 : decode (j_co 173) 1048 = .ok (.iadd, 1) := by decide +kernel
set_option maxRecDepth 20000 in
theorem w173_1048 {d : Nat} {st : List Value} {Q : Option Value × jW → Prop} {ls : jL} {w : jW} {a b : Int32} : Wp d 173 1048 ls (.int b :: .int a :: st) w Q = Wp d 173 1049 ls (.int (a + b) :: st) w Q := Wp.alu e173_1048 rfl rfl
theorem e173_1049 : decode (j_co 173) 1049 = .ok (.iaload, 1) := by decide +kernel
theorem w173_1049 {d k : Nat} {ls : jL} {st : List Value} {I : fI} {L : fL} {Q : Option Value × jW → Prop} {g : List Int32} (hk : k < g.length) (h31 : k < 2147483648) : Wp d 173 1049 ls (.int (nI k) :: .ref 0 :: st) (f_W (g.map Value.int) I L) Q = Wp d 173 1050 ls (.int (g.getD k 0) :: st) (f_W (g.map Value.int) I L) Q := Wp.iald0 e173_1049 hk h31
theorem e173_1050 : decode (j_co 173) 1050 = .ok (.invokevirtual 116, 3) := by decide +kernel
set_option maxRecDepth 20000 in
theorem w173_1050 {d : Nat} {st : List Value} {Q : Option Value × jW → Prop} {ls : jL} {xs : List Value} {I : fI} {L : fL} {r : Nat} {x0 : Int32} {x1 : Int32} {x2 : Int32} (hs : j_sumc st ≤ 8) (ht : f_tg r = 10) : Wp (d + 1) 173 1050 ls (.int x2 :: .int x1 :: .int x0 :: .ref r :: st) (f_W xs I L) Q = Wp d 97 0 [some (.ref r), some (.int x0), some (.int x1), some (.int x2)] [] (f_W xs I L) (fun r1 => Wp (d + 1) 173 1053 ls (r1.1.toList ++ st) r1.2 Q) := Wp.cv (y' := 97) (as := [.int x0, .int x1, .int x2]) e173_1050 rfl (by decide) rfl (show 4 ≤ 4 by decide) (by decide) hs ht
theorem e173_1053 : decode (j_co 173) 1053 = .ok (.aload_n 2, 1) := by decide +kernel
set_option maxRecDepth 20000 in
theorem w173_1053 {d : Nat} {st : List Value} {Q : Option Value × jW → Prop} {w : jW} {a0 a1 a3 : Option Value} {x : Nat} : Wp d 173 1053 [a0, a1, some (.ref x), a3] (st) w Q = Wp d 173 1054 [a0, a1, some (.ref x), a3] (.ref x :: st) w Q := Wp.loc e173_1053 rfl rfl rfl
theorem e173_1054 : decode (j_co 173) 1054 = .ok (.aload_n 0, 1) := by decide +kernel
set_option maxRecDepth 20000 in
theorem w173_1054 {d : Nat} {st : List Value} {Q : Option Value × jW → Prop} {w : jW} {a1 a2 a3 : Option Value} {x : Nat} : Wp d 173 1054 [some (.ref x), a1, a2, a3] (st) w Q = Wp d 173 1055 [some (.ref x), a1, a2, a3] (.ref x :: st) w Q := Wp.loc e173_1054 rfl rfl rfl
theorem e173_1055 : decode (j_co 173) 1055 = .ok (.iload_n 3, 1) := by decide +kernel
set_option maxRecDepth 20000 in
theorem w173_1055 {d : Nat} {st : List Value} {Q : Option Value × jW → Prop} {w : jW} {a0 a1 a2 : Option Value} {x : Int32} : Wp d 173 1055 [a0, a1, a2, some (.int x)] (st) w Q = Wp d 173 1056 [a0, a1, a2, some (.int x)] (.int x :: st) w Q := Wp.loc e173_1055 rfl rfl rfl
theorem e173_1056 : decode (j_co 173) 1056 = .ok (.iconst 1, 1) := by decide +kernel
set_option maxRecDepth 20000 in
theorem w173_1056 {d : Nat} {st : List Value} {Q : Option Value × jW → Prop} {ls : jL} {w : jW} : Wp d 173 1056 ls (st) w Q = Wp d 173 1057 ls (.int (nI 1) :: st) w Q := Wp.alu e173_1056 rfl rfl
theorem e173_1057 : decode (j_co 173) 1057 = .ok (.iadd, 1) := by decide +kernel
set_option maxRecDepth 20000 in
theorem w173_1057 {d : Nat} {st : List Value} {Q : Option Value × jW → Prop} {ls : jL} {w : jW} {a b : Int32} : Wp d 173 1057 ls (.int b :: .int a :: st) w Q = Wp d 173 1058 ls (.int (a + b) :: st) w Q := Wp.alu e173_1057 rfl rfl
theorem e173_1058 : decode (j_co 173) 1058 = .ok (.iaload, 1) := by decide +kernel
theorem w173_1058 {d k : Nat} {ls : jL} {st : List Value} {I : fI} {L : fL} {Q : Option Value × jW → Prop} {g : List Int32} (hk : k < g.length) (h31 : k < 2147483648) : Wp d 173 1058 ls (.int (nI k) :: .ref 0 :: st) (f_W (g.map Value.int) I L) Q = Wp d 173 1059 ls (.int (g.getD k 0) :: st) (f_W (g.map Value.int) I L) Q := Wp.iald0 e173_1058 hk h31
theorem e173_1059 : decode (j_co 173) 1059 = .ok (.aload_n 0, 1) := by decide +kernel
set_option maxRecDepth 20000 in
theorem w173_1059 {d : Nat} {st : List Value} {Q : Option Value × jW → Prop} {w : jW} {a1 a2 a3 : Option Value} {x : Nat} : Wp d 173 1059 [some (.ref x), a1, a2, a3] (st) w Q = Wp d 173 1060 [some (.ref x), a1, a2, a3] (.ref x :: st) w Q := Wp.loc e173_1059 rfl rfl rfl
theorem e173_1060 : decode (j_co 173) 1060 = .ok (.iload_n 3, 1) := by decide +kernel
set_option maxRecDepth 20000 in
theorem w173_1060 {d : Nat} {st : List Value} {Q : Option Value × jW → Prop} {w : jW} {a0 a1 a2 : Option Value} {x : Int32} : Wp d 173 1060 [a0, a1, a2, some (.int x)] (st) w Q = Wp d 173 1061 [a0, a1, a2, some (.int x)] (.int x :: st) w Q := Wp.loc e173_1060 rfl rfl rfl
theorem e173_1061 : decode (j_co 173) 1061 = .ok (.iconst 2, 1) := by decide +kernel
set_option maxRecDepth 20000 in
theorem w173_1061 {d : Nat} {st : List Value} {Q : Option Value × jW → Prop} {ls : jL} {w : jW} : Wp d 173 1061 ls (st) w Q = Wp d 173 1062 ls (.int (nI 2) :: st) w Q := Wp.alu e173_1061 rfl rfl
theorem e173_1062 : decode (j_co 173) 1062 = .ok (.iadd, 1) := by decide +kernel
set_option maxRecDepth 20000 in
theorem w173_1062 {d : Nat} {st : List Value} {Q : Option Value × jW → Prop} {ls : jL} {w : jW} {a b : Int32} : Wp d 173 1062 ls (.int b :: .int a :: st) w Q = Wp d 173 1063 ls (.int (a + b) :: st) w Q := Wp.alu e173_1062 rfl rfl
theorem e173_1063 : decode (j_co 173) 1063 = .ok (.iaload, 1) := by decide +kernel
theorem w173_1063 {d k : Nat} {ls : jL} {st : List Value} {I : fI} {L : fL} {Q : Option Value × jW → Prop} {g : List Int32} (hk : k < g.length) (h31 : k < 2147483648) : Wp d 173 1063 ls (.int (nI k) :: .ref 0 :: st) (f_W (g.map Value.int) I L) Q = Wp d 173 1064 ls (.int (g.getD k 0) :: st) (f_W (g.map Value.int) I L) Q := Wp.iald0 e173_1063 hk h31
theorem e173_1064 : decode (j_co 173) 1064 = .ok (.aload_n 0, 1) := by decide +kernel
set_option maxRecDepth 20000 in
theorem w173_1064 {d : Nat} {st : List Value} {Q : Option Value × jW → Prop} {w : jW} {a1 a2 a3 : Option Value} {x : Nat} : Wp d 173 1064 [some (.ref x), a1, a2, a3] (st) w Q = Wp d 173 1065 [some (.ref x), a1, a2, a3] (.ref x :: st) w Q := Wp.loc e173_1064 rfl rfl rfl
theorem e173_1065 : decode (j_co 173) 1065 = .ok (.iload_n 3, 1) := by decide +kernel
set_option maxRecDepth 20000 in
theorem w173_1065 {d : Nat} {st : List Value} {Q : Option Value × jW → Prop} {w : jW} {a0 a1 a2 : Option Value} {x : Int32} : Wp d 173 1065 [a0, a1, a2, some (.int x)] (st) w Q = Wp d 173 1066 [a0, a1, a2, some (.int x)] (.int x :: st) w Q := Wp.loc e173_1065 rfl rfl rfl
theorem e173_1066 : decode (j_co 173) 1066 = .ok (.iconst 3, 1) := by decide +kernel
set_option maxRecDepth 20000 in
theorem w173_1066 {d : Nat} {st : List Value} {Q : Option Value × jW → Prop} {ls : jL} {w : jW} : Wp d 173 1066 ls (st) w Q = Wp d 173 1067 ls (.int (nI 3) :: st) w Q := Wp.alu e173_1066 rfl rfl
theorem e173_1067 : decode (j_co 173) 1067 = .ok (.iadd, 1) := by decide +kernel
set_option maxRecDepth 20000 in
theorem w173_1067 {d : Nat} {st : List Value} {Q : Option Value × jW → Prop} {ls : jL} {w : jW} {a b : Int32} : Wp d 173 1067 ls (.int b :: .int a :: st) w Q = Wp d 173 1068 ls (.int (a + b) :: st) w Q := Wp.alu e173_1067 rfl rfl
theorem e173_1068 : decode (j_co 173) 1068 = .ok (.iaload, 1) := by decide +kernel
theorem w173_1068 {d k : Nat} {ls : jL} {st : List Value} {I : fI} {L : fL} {Q : Option Value × jW → Prop} {g : List Int32} (hk : k < g.length) (h31 : k < 2147483648) : Wp d 173 1068 ls (.int (nI k) :: .ref 0 :: st) (f_W (g.map Value.int) I L) Q = Wp d 173 1069 ls (.int (g.getD k 0) :: st) (f_W (g.map Value.int) I L) Q := Wp.iald0 e173_1068 hk h31
theorem e173_1069 : decode (j_co 173) 1069 = .ok (.invokevirtual 119, 3) := by decide +kernel
set_option maxRecDepth 20000 in
theorem w173_1069 {d : Nat} {st : List Value} {Q : Option Value × jW → Prop} {ls : jL} {xs : List Value} {I : fI} {L : fL} {r : Nat} {x0 : Int32} {x1 : Int32} {x2 : Int32} (hs : j_sumc st ≤ 8) (ht : f_tg r = 11) : Wp (d + 1) 173 1069 ls (.int x2 :: .int x1 :: .int x0 :: .ref r :: st) (f_W xs I L) Q = Wp d 166 0 [some (.ref r), some (.int x0), some (.int x1), some (.int x2), none] [] (f_W xs I L) (fun r1 => Wp (d + 1) 173 1072 ls (r1.1.toList ++ st) r1.2 Q) := Wp.cv (y' := 166) (as := [.int x0, .int x1, .int x2]) e173_1069 rfl (by decide) rfl (show 4 ≤ 5 by decide) (by decide) hs ht
theorem e173_1072 : decode (j_co 173) 1072 = .ok (.if_icmp .eq 134, 3) := by decide +kernel
set_option maxRecDepth 20000 in
theorem w173_1072 {d : Nat} {st : List Value} {Q : Option Value × jW → Prop} {ls : jL} {w : jW} {a b : Int32} : Wp d 173 1072 ls (.int b :: .int a :: st) w Q = ((a = b → Wp d 173 1206 ls st w Q) ∧ (¬ a = b → Wp d 173 1075 ls st w Q)) := Wp.if2 (c := a = b) (off := 134) e173_1072 rfl rfl rfl rfl rfl
theorem e173_1075 : decode (j_co 173) 1075 = .ok (.iconst 0, 1) := by decide +kernel
set_option maxRecDepth 20000 in
theorem w173_1075 {d : Nat} {st : List Value} {Q : Option Value × jW → Prop} {ls : jL} {w : jW} : Wp d 173 1075 ls (st) w Q = Wp d 173 1076 ls (.int (nI 0) :: st) w Q := Wp.alu e173_1075 rfl rfl
theorem e173_1076 : decode (j_co 173) 1076 = .ok (.ireturn, 1) := by decide +kernel
set_option maxRecDepth 20000 in
theorem w173_1076 {d : Nat} {Q : Option Value × jW → Prop} {ls : jL} {w : jW} {x : Int32} (hx : x = 0 ∨ x = 1) : Wp d 173 1076 ls [.int x] w Q = Q (some (.int x), w) := Wp.ret e173_1076 (by rcases hx with rfl | rfl <;> rfl)
theorem e173_1077 : decode (j_co 173) 1077 = .ok (.aload_n 1, 1) := by decide +kernel
set_option maxRecDepth 20000 in
theorem w173_1077 {d : Nat} {st : List Value} {Q : Option Value × jW → Prop} {w : jW} {a0 a2 a3 : Option Value} {x : Nat} : Wp d 173 1077 [a0, some (.ref x), a2, a3] (st) w Q = Wp d 173 1078 [a0, some (.ref x), a2, a3] (.ref x :: st) w Q := Wp.loc e173_1077 rfl rfl rfl
theorem e173_1078 : decode (j_co 173) 1078 = .ok (.aload_n 0, 1) := by decide +kernel
set_option maxRecDepth 20000 in
theorem w173_1078 {d : Nat} {st : List Value} {Q : Option Value × jW → Prop} {w : jW} {a1 a2 a3 : Option Value} {x : Nat} : Wp d 173 1078 [some (.ref x), a1, a2, a3] (st) w Q = Wp d 173 1079 [some (.ref x), a1, a2, a3] (.ref x :: st) w Q := Wp.loc e173_1078 rfl rfl rfl
theorem e173_1079 : decode (j_co 173) 1079 = .ok (.iload_n 3, 1) := by decide +kernel
set_option maxRecDepth 20000 in
theorem w173_1079 {d : Nat} {st : List Value} {Q : Option Value × jW → Prop} {w : jW} {a0 a1 a2 : Option Value} {x : Int32} : Wp d 173 1079 [a0, a1, a2, some (.int x)] (st) w Q = Wp d 173 1080 [a0, a1, a2, some (.int x)] (.int x :: st) w Q := Wp.loc e173_1079 rfl rfl rfl
theorem e173_1080 : decode (j_co 173) 1080 = .ok (.iconst 1, 1) := by decide +kernel
set_option maxRecDepth 20000 in
theorem w173_1080 {d : Nat} {st : List Value} {Q : Option Value × jW → Prop} {ls : jL} {w : jW} : Wp d 173 1080 ls (st) w Q = Wp d 173 1081 ls (.int (nI 1) :: st) w Q := Wp.alu e173_1080 rfl rfl
theorem e173_1081 : decode (j_co 173) 1081 = .ok (.iadd, 1) := by decide +kernel
set_option maxRecDepth 20000 in
theorem w173_1081 {d : Nat} {st : List Value} {Q : Option Value × jW → Prop} {ls : jL} {w : jW} {a b : Int32} : Wp d 173 1081 ls (.int b :: .int a :: st) w Q = Wp d 173 1082 ls (.int (a + b) :: st) w Q := Wp.alu e173_1081 rfl rfl
theorem e173_1082 : decode (j_co 173) 1082 = .ok (.iaload, 1) := by decide +kernel
theorem w173_1082 {d k : Nat} {ls : jL} {st : List Value} {I : fI} {L : fL} {Q : Option Value × jW → Prop} {g : List Int32} (hk : k < g.length) (h31 : k < 2147483648) : Wp d 173 1082 ls (.int (nI k) :: .ref 0 :: st) (f_W (g.map Value.int) I L) Q = Wp d 173 1083 ls (.int (g.getD k 0) :: st) (f_W (g.map Value.int) I L) Q := Wp.iald0 e173_1082 hk h31
theorem e173_1083 : decode (j_co 173) 1083 = .ok (.aload_n 0, 1) := by decide +kernel
set_option maxRecDepth 20000 in
theorem w173_1083 {d : Nat} {st : List Value} {Q : Option Value × jW → Prop} {w : jW} {a1 a2 a3 : Option Value} {x : Nat} : Wp d 173 1083 [some (.ref x), a1, a2, a3] (st) w Q = Wp d 173 1084 [some (.ref x), a1, a2, a3] (.ref x :: st) w Q := Wp.loc e173_1083 rfl rfl rfl
theorem e173_1084 : decode (j_co 173) 1084 = .ok (.iload_n 3, 1) := by decide +kernel
set_option maxRecDepth 20000 in
theorem w173_1084 {d : Nat} {st : List Value} {Q : Option Value × jW → Prop} {w : jW} {a0 a1 a2 : Option Value} {x : Int32} : Wp d 173 1084 [a0, a1, a2, some (.int x)] (st) w Q = Wp d 173 1085 [a0, a1, a2, some (.int x)] (.int x :: st) w Q := Wp.loc e173_1084 rfl rfl rfl
theorem e173_1085 : decode (j_co 173) 1085 = .ok (.iconst 2, 1) := by decide +kernel
set_option maxRecDepth 20000 in
theorem w173_1085 {d : Nat} {st : List Value} {Q : Option Value × jW → Prop} {ls : jL} {w : jW} : Wp d 173 1085 ls (st) w Q = Wp d 173 1086 ls (.int (nI 2) :: st) w Q := Wp.alu e173_1085 rfl rfl
theorem e173_1086 : decode (j_co 173) 1086 = .ok (.iadd, 1) := by decide +kernel
set_option maxRecDepth 20000 in
theorem w173_1086 {d : Nat} {st : List Value} {Q : Option Value × jW → Prop} {ls : jL} {w : jW} {a b : Int32} : Wp d 173 1086 ls (.int b :: .int a :: st) w Q = Wp d 173 1087 ls (.int (a + b) :: st) w Q := Wp.alu e173_1086 rfl rfl
theorem e173_1087 : decode (j_co 173) 1087 = .ok (.iaload, 1) := by decide +kernel
theorem w173_1087 {d k : Nat} {ls : jL} {st : List Value} {I : fI} {L : fL} {Q : Option Value × jW → Prop} {g : List Int32} (hk : k < g.length) (h31 : k < 2147483648) : Wp d 173 1087 ls (.int (nI k) :: .ref 0 :: st) (f_W (g.map Value.int) I L) Q = Wp d 173 1088 ls (.int (g.getD k 0) :: st) (f_W (g.map Value.int) I L) Q := Wp.iald0 e173_1087 hk h31
theorem e173_1088 : decode (j_co 173) 1088 = .ok (.aload_n 0, 1) := by decide +kernel
set_option maxRecDepth 20000 in
theorem w173_1088 {d : Nat} {st : List Value} {Q : Option Value × jW → Prop} {w : jW} {a1 a2 a3 : Option Value} {x : Nat} : Wp d 173 1088 [some (.ref x), a1, a2, a3] (st) w Q = Wp d 173 1089 [some (.ref x), a1, a2, a3] (.ref x :: st) w Q := Wp.loc e173_1088 rfl rfl rfl
theorem e173_1089 : decode (j_co 173) 1089 = .ok (.iload_n 3, 1) := by decide +kernel
set_option maxRecDepth 20000 in
theorem w173_1089 {d : Nat} {st : List Value} {Q : Option Value × jW → Prop} {w : jW} {a0 a1 a2 : Option Value} {x : Int32} : Wp d 173 1089 [a0, a1, a2, some (.int x)] (st) w Q = Wp d 173 1090 [a0, a1, a2, some (.int x)] (.int x :: st) w Q := Wp.loc e173_1089 rfl rfl rfl
theorem e173_1090 : decode (j_co 173) 1090 = .ok (.iconst 3, 1) := by decide +kernel
set_option maxRecDepth 20000 in
theorem w173_1090 {d : Nat} {st : List Value} {Q : Option Value × jW → Prop} {ls : jL} {w : jW} : Wp d 173 1090 ls (st) w Q = Wp d 173 1091 ls (.int (nI 3) :: st) w Q := Wp.alu e173_1090 rfl rfl
theorem e173_1091 : decode (j_co 173) 1091 = .ok (.iadd, 1) := by decide +kernel
set_option maxRecDepth 20000 in
theorem w173_1091 {d : Nat} {st : List Value} {Q : Option Value × jW → Prop} {ls : jL} {w : jW} {a b : Int32} : Wp d 173 1091 ls (.int b :: .int a :: st) w Q = Wp d 173 1092 ls (.int (a + b) :: st) w Q := Wp.alu e173_1091 rfl rfl
theorem e173_1092 : decode (j_co 173) 1092 = .ok (.iaload, 1) := by decide +kernel
theorem w173_1092 {d k : Nat} {ls : jL} {st : List Value} {I : fI} {L : fL} {Q : Option Value × jW → Prop} {g : List Int32} (hk : k < g.length) (h31 : k < 2147483648) : Wp d 173 1092 ls (.int (nI k) :: .ref 0 :: st) (f_W (g.map Value.int) I L) Q = Wp d 173 1093 ls (.int (g.getD k 0) :: st) (f_W (g.map Value.int) I L) Q := Wp.iald0 e173_1092 hk h31
theorem e173_1093 : decode (j_co 173) 1093 = .ok (.invokevirtual 120, 3) := by decide +kernel
set_option maxRecDepth 20000 in
theorem w173_1093 {d : Nat} {st : List Value} {Q : Option Value × jW → Prop} {ls : jL} {xs : List Value} {I : fI} {L : fL} {r : Nat} {x0 : Int32} {x1 : Int32} {x2 : Int32} (hs : j_sumc st ≤ 8) (ht : f_tg r = 10) : Wp (d + 1) 173 1093 ls (.int x2 :: .int x1 :: .int x0 :: .ref r :: st) (f_W xs I L) Q = Wp d 101 0 [some (.ref r), some (.int x0), some (.int x1), some (.int x2)] [] (f_W xs I L) (fun r1 => Wp (d + 1) 173 1096 ls (r1.1.toList ++ st) r1.2 Q) := Wp.cv (y' := 101) (as := [.int x0, .int x1, .int x2]) e173_1093 rfl (by decide) rfl (show 4 ≤ 4 by decide) (by decide) hs ht
theorem e173_1096 : decode (j_co 173) 1096 = .ok (.aload_n 2, 1) := by decide +kernel
set_option maxRecDepth 20000 in
theorem w173_1096 {d : Nat} {st : List Value} {Q : Option Value × jW → Prop} {w : jW} {a0 a1 a3 : Option Value} {x : Nat} : Wp d 173 1096 [a0, a1, some (.ref x), a3] (st) w Q = Wp d 173 1097 [a0, a1, some (.ref x), a3] (.ref x :: st) w Q := Wp.loc e173_1096 rfl rfl rfl
theorem e173_1097 : decode (j_co 173) 1097 = .ok (.aload_n 0, 1) := by decide +kernel
set_option maxRecDepth 20000 in
theorem w173_1097 {d : Nat} {st : List Value} {Q : Option Value × jW → Prop} {w : jW} {a1 a2 a3 : Option Value} {x : Nat} : Wp d 173 1097 [some (.ref x), a1, a2, a3] (st) w Q = Wp d 173 1098 [some (.ref x), a1, a2, a3] (.ref x :: st) w Q := Wp.loc e173_1097 rfl rfl rfl
theorem e173_1098 : decode (j_co 173) 1098 = .ok (.iload_n 3, 1) := by decide +kernel
set_option maxRecDepth 20000 in
theorem w173_1098 {d : Nat} {st : List Value} {Q : Option Value × jW → Prop} {w : jW} {a0 a1 a2 : Option Value} {x : Int32} : Wp d 173 1098 [a0, a1, a2, some (.int x)] (st) w Q = Wp d 173 1099 [a0, a1, a2, some (.int x)] (.int x :: st) w Q := Wp.loc e173_1098 rfl rfl rfl
theorem e173_1099 : decode (j_co 173) 1099 = .ok (.iconst 1, 1) := by decide +kernel
set_option maxRecDepth 20000 in
theorem w173_1099 {d : Nat} {st : List Value} {Q : Option Value × jW → Prop} {ls : jL} {w : jW} : Wp d 173 1099 ls (st) w Q = Wp d 173 1100 ls (.int (nI 1) :: st) w Q := Wp.alu e173_1099 rfl rfl
theorem e173_1100 : decode (j_co 173) 1100 = .ok (.iadd, 1) := by decide +kernel
set_option maxRecDepth 20000 in
theorem w173_1100 {d : Nat} {st : List Value} {Q : Option Value × jW → Prop} {ls : jL} {w : jW} {a b : Int32} : Wp d 173 1100 ls (.int b :: .int a :: st) w Q = Wp d 173 1101 ls (.int (a + b) :: st) w Q := Wp.alu e173_1100 rfl rfl
theorem e173_1101 : decode (j_co 173) 1101 = .ok (.iaload, 1) := by decide +kernel
theorem w173_1101 {d k : Nat} {ls : jL} {st : List Value} {I : fI} {L : fL} {Q : Option Value × jW → Prop} {g : List Int32} (hk : k < g.length) (h31 : k < 2147483648) : Wp d 173 1101 ls (.int (nI k) :: .ref 0 :: st) (f_W (g.map Value.int) I L) Q = Wp d 173 1102 ls (.int (g.getD k 0) :: st) (f_W (g.map Value.int) I L) Q := Wp.iald0 e173_1101 hk h31
theorem e173_1102 : decode (j_co 173) 1102 = .ok (.aload_n 0, 1) := by decide +kernel
set_option maxRecDepth 20000 in
theorem w173_1102 {d : Nat} {st : List Value} {Q : Option Value × jW → Prop} {w : jW} {a1 a2 a3 : Option Value} {x : Nat} : Wp d 173 1102 [some (.ref x), a1, a2, a3] (st) w Q = Wp d 173 1103 [some (.ref x), a1, a2, a3] (.ref x :: st) w Q := Wp.loc e173_1102 rfl rfl rfl
theorem e173_1103 : decode (j_co 173) 1103 = .ok (.iload_n 3, 1) := by decide +kernel
set_option maxRecDepth 20000 in
theorem w173_1103 {d : Nat} {st : List Value} {Q : Option Value × jW → Prop} {w : jW} {a0 a1 a2 : Option Value} {x : Int32} : Wp d 173 1103 [a0, a1, a2, some (.int x)] (st) w Q = Wp d 173 1104 [a0, a1, a2, some (.int x)] (.int x :: st) w Q := Wp.loc e173_1103 rfl rfl rfl
theorem e173_1104 : decode (j_co 173) 1104 = .ok (.iconst 2, 1) := by decide +kernel
set_option maxRecDepth 20000 in
theorem w173_1104 {d : Nat} {st : List Value} {Q : Option Value × jW → Prop} {ls : jL} {w : jW} : Wp d 173 1104 ls (st) w Q = Wp d 173 1105 ls (.int (nI 2) :: st) w Q := Wp.alu e173_1104 rfl rfl
theorem e173_1105 : decode (j_co 173) 1105 = .ok (.iadd, 1) := by decide +kernel
set_option maxRecDepth 20000 in
theorem w173_1105 {d : Nat} {st : List Value} {Q : Option Value × jW → Prop} {ls : jL} {w : jW} {a b : Int32} : Wp d 173 1105 ls (.int b :: .int a :: st) w Q = Wp d 173 1106 ls (.int (a + b) :: st) w Q := Wp.alu e173_1105 rfl rfl
theorem e173_1106 : decode (j_co 173) 1106 = .ok (.iaload, 1) := by decide +kernel
theorem w173_1106 {d k : Nat} {ls : jL} {st : List Value} {I : fI} {L : fL} {Q : Option Value × jW → Prop} {g : List Int32} (hk : k < g.length) (h31 : k < 2147483648) : Wp d 173 1106 ls (.int (nI k) :: .ref 0 :: st) (f_W (g.map Value.int) I L) Q = Wp d 173 1107 ls (.int (g.getD k 0) :: st) (f_W (g.map Value.int) I L) Q := Wp.iald0 e173_1106 hk h31
theorem e173_1107 : decode (j_co 173) 1107 = .ok (.aload_n 0, 1) := by decide +kernel
set_option maxRecDepth 20000 in
theorem w173_1107 {d : Nat} {st : List Value} {Q : Option Value × jW → Prop} {w : jW} {a1 a2 a3 : Option Value} {x : Nat} : Wp d 173 1107 [some (.ref x), a1, a2, a3] (st) w Q = Wp d 173 1108 [some (.ref x), a1, a2, a3] (.ref x :: st) w Q := Wp.loc e173_1107 rfl rfl rfl
theorem e173_1108 : decode (j_co 173) 1108 = .ok (.iload_n 3, 1) := by decide +kernel
set_option maxRecDepth 20000 in
theorem w173_1108 {d : Nat} {st : List Value} {Q : Option Value × jW → Prop} {w : jW} {a0 a1 a2 : Option Value} {x : Int32} : Wp d 173 1108 [a0, a1, a2, some (.int x)] (st) w Q = Wp d 173 1109 [a0, a1, a2, some (.int x)] (.int x :: st) w Q := Wp.loc e173_1108 rfl rfl rfl
theorem e173_1109 : decode (j_co 173) 1109 = .ok (.iconst 3, 1) := by decide +kernel
set_option maxRecDepth 20000 in
theorem w173_1109 {d : Nat} {st : List Value} {Q : Option Value × jW → Prop} {ls : jL} {w : jW} : Wp d 173 1109 ls (st) w Q = Wp d 173 1110 ls (.int (nI 3) :: st) w Q := Wp.alu e173_1109 rfl rfl
theorem e173_1110 : decode (j_co 173) 1110 = .ok (.iadd, 1) := by decide +kernel
set_option maxRecDepth 20000 in
theorem w173_1110 {d : Nat} {st : List Value} {Q : Option Value × jW → Prop} {ls : jL} {w : jW} {a b : Int32} : Wp d 173 1110 ls (.int b :: .int a :: st) w Q = Wp d 173 1111 ls (.int (a + b) :: st) w Q := Wp.alu e173_1110 rfl rfl
theorem e173_1111 : decode (j_co 173) 1111 = .ok (.iaload, 1) := by decide +kernel
theorem w173_1111 {d k : Nat} {ls : jL} {st : List Value} {I : fI} {L : fL} {Q : Option Value × jW → Prop} {g : List Int32} (hk : k < g.length) (h31 : k < 2147483648) : Wp d 173 1111 ls (.int (nI k) :: .ref 0 :: st) (f_W (g.map Value.int) I L) Q = Wp d 173 1112 ls (.int (g.getD k 0) :: st) (f_W (g.map Value.int) I L) Q := Wp.iald0 e173_1111 hk h31
theorem e173_1112 : decode (j_co 173) 1112 = .ok (.invokevirtual 123, 3) := by decide +kernel
set_option maxRecDepth 20000 in
theorem w173_1112 {d : Nat} {st : List Value} {Q : Option Value × jW → Prop} {ls : jL} {xs : List Value} {I : fI} {L : fL} {r : Nat} {x0 : Int32} {x1 : Int32} {x2 : Int32} (hs : j_sumc st ≤ 8) (ht : f_tg r = 11) : Wp (d + 1) 173 1112 ls (.int x2 :: .int x1 :: .int x0 :: .ref r :: st) (f_W xs I L) Q = Wp d 167 0 [some (.ref r), some (.int x0), some (.int x1), some (.int x2)] [] (f_W xs I L) (fun r1 => Wp (d + 1) 173 1115 ls (r1.1.toList ++ st) r1.2 Q) := Wp.cv (y' := 167) (as := [.int x0, .int x1, .int x2]) e173_1112 rfl (by decide) rfl (show 4 ≤ 4 by decide) (by decide) hs ht
theorem e173_1115 : decode (j_co 173) 1115 = .ok (.if_icmp .eq 91, 3) := by decide +kernel
set_option maxRecDepth 20000 in
theorem w173_1115 {d : Nat} {st : List Value} {Q : Option Value × jW → Prop} {ls : jL} {w : jW} {a b : Int32} : Wp d 173 1115 ls (.int b :: .int a :: st) w Q = ((a = b → Wp d 173 1206 ls st w Q) ∧ (¬ a = b → Wp d 173 1118 ls st w Q)) := Wp.if2 (c := a = b) (off := 91) e173_1115 rfl rfl rfl rfl rfl
theorem e173_1118 : decode (j_co 173) 1118 = .ok (.iconst 0, 1) := by decide +kernel
set_option maxRecDepth 20000 in
theorem w173_1118 {d : Nat} {st : List Value} {Q : Option Value × jW → Prop} {ls : jL} {w : jW} : Wp d 173 1118 ls (st) w Q = Wp d 173 1119 ls (.int (nI 0) :: st) w Q := Wp.alu e173_1118 rfl rfl
theorem e173_1119 : decode (j_co 173) 1119 = .ok (.ireturn, 1) := by decide +kernel
set_option maxRecDepth 20000 in
theorem w173_1119 {d : Nat} {Q : Option Value × jW → Prop} {ls : jL} {w : jW} {x : Int32} (hx : x = 0 ∨ x = 1) : Wp d 173 1119 ls [.int x] w Q = Q (some (.int x), w) := Wp.ret e173_1119 (by rcases hx with rfl | rfl <;> rfl)
theorem e173_1120 : decode (j_co 173) 1120 = .ok (.aload_n 1, 1) := by decide +kernel
set_option maxRecDepth 20000 in
theorem w173_1120 {d : Nat} {st : List Value} {Q : Option Value × jW → Prop} {w : jW} {a0 a2 a3 : Option Value} {x : Nat} : Wp d 173 1120 [a0, some (.ref x), a2, a3] (st) w Q = Wp d 173 1121 [a0, some (.ref x), a2, a3] (.ref x :: st) w Q := Wp.loc e173_1120 rfl rfl rfl
theorem e173_1121 : decode (j_co 173) 1121 = .ok (.aload_n 0, 1) := by decide +kernel
set_option maxRecDepth 20000 in
theorem w173_1121 {d : Nat} {st : List Value} {Q : Option Value × jW → Prop} {w : jW} {a1 a2 a3 : Option Value} {x : Nat} : Wp d 173 1121 [some (.ref x), a1, a2, a3] (st) w Q = Wp d 173 1122 [some (.ref x), a1, a2, a3] (.ref x :: st) w Q := Wp.loc e173_1121 rfl rfl rfl
theorem e173_1122 : decode (j_co 173) 1122 = .ok (.iload_n 3, 1) := by decide +kernel
set_option maxRecDepth 20000 in
theorem w173_1122 {d : Nat} {st : List Value} {Q : Option Value × jW → Prop} {w : jW} {a0 a1 a2 : Option Value} {x : Int32} : Wp d 173 1122 [a0, a1, a2, some (.int x)] (st) w Q = Wp d 173 1123 [a0, a1, a2, some (.int x)] (.int x :: st) w Q := Wp.loc e173_1122 rfl rfl rfl
theorem e173_1123 : decode (j_co 173) 1123 = .ok (.iconst 1, 1) := by decide +kernel
set_option maxRecDepth 20000 in
theorem w173_1123 {d : Nat} {st : List Value} {Q : Option Value × jW → Prop} {ls : jL} {w : jW} : Wp d 173 1123 ls (st) w Q = Wp d 173 1124 ls (.int (nI 1) :: st) w Q := Wp.alu e173_1123 rfl rfl
theorem e173_1124 : decode (j_co 173) 1124 = .ok (.iadd, 1) := by decide +kernel
set_option maxRecDepth 20000 in
theorem w173_1124 {d : Nat} {st : List Value} {Q : Option Value × jW → Prop} {ls : jL} {w : jW} {a b : Int32} : Wp d 173 1124 ls (.int b :: .int a :: st) w Q = Wp d 173 1125 ls (.int (a + b) :: st) w Q := Wp.alu e173_1124 rfl rfl
theorem e173_1125 : decode (j_co 173) 1125 = .ok (.iaload, 1) := by decide +kernel
theorem w173_1125 {d k : Nat} {ls : jL} {st : List Value} {I : fI} {L : fL} {Q : Option Value × jW → Prop} {g : List Int32} (hk : k < g.length) (h31 : k < 2147483648) : Wp d 173 1125 ls (.int (nI k) :: .ref 0 :: st) (f_W (g.map Value.int) I L) Q = Wp d 173 1126 ls (.int (g.getD k 0) :: st) (f_W (g.map Value.int) I L) Q := Wp.iald0 e173_1125 hk h31
theorem e173_1126 : decode (j_co 173) 1126 = .ok (.aload_n 0, 1) := by decide +kernel
set_option maxRecDepth 20000 in
theorem w173_1126 {d : Nat} {st : List Value} {Q : Option Value × jW → Prop} {w : jW} {a1 a2 a3 : Option Value} {x : Nat} : Wp d 173 1126 [some (.ref x), a1, a2, a3] (st) w Q = Wp d 173 1127 [some (.ref x), a1, a2, a3] (.ref x :: st) w Q := Wp.loc e173_1126 rfl rfl rfl
theorem e173_1127 : decode (j_co 173) 1127 = .ok (.iload_n 3, 1) := by decide +kernel
set_option maxRecDepth 20000 in
theorem w173_1127 {d : Nat} {st : List Value} {Q : Option Value × jW → Prop} {w : jW} {a0 a1 a2 : Option Value} {x : Int32} : Wp d 173 1127 [a0, a1, a2, some (.int x)] (st) w Q = Wp d 173 1128 [a0, a1, a2, some (.int x)] (.int x :: st) w Q := Wp.loc e173_1127 rfl rfl rfl
theorem e173_1128 : decode (j_co 173) 1128 = .ok (.iconst 2, 1) := by decide +kernel
set_option maxRecDepth 20000 in
theorem w173_1128 {d : Nat} {st : List Value} {Q : Option Value × jW → Prop} {ls : jL} {w : jW} : Wp d 173 1128 ls (st) w Q = Wp d 173 1129 ls (.int (nI 2) :: st) w Q := Wp.alu e173_1128 rfl rfl
theorem e173_1129 : decode (j_co 173) 1129 = .ok (.iadd, 1) := by decide +kernel
set_option maxRecDepth 20000 in
theorem w173_1129 {d : Nat} {st : List Value} {Q : Option Value × jW → Prop} {ls : jL} {w : jW} {a b : Int32} : Wp d 173 1129 ls (.int b :: .int a :: st) w Q = Wp d 173 1130 ls (.int (a + b) :: st) w Q := Wp.alu e173_1129 rfl rfl
theorem e173_1130 : decode (j_co 173) 1130 = .ok (.iaload, 1) := by decide +kernel
theorem w173_1130 {d k : Nat} {ls : jL} {st : List Value} {I : fI} {L : fL} {Q : Option Value × jW → Prop} {g : List Int32} (hk : k < g.length) (h31 : k < 2147483648) : Wp d 173 1130 ls (.int (nI k) :: .ref 0 :: st) (f_W (g.map Value.int) I L) Q = Wp d 173 1131 ls (.int (g.getD k 0) :: st) (f_W (g.map Value.int) I L) Q := Wp.iald0 e173_1130 hk h31
theorem e173_1131 : decode (j_co 173) 1131 = .ok (.aload_n 0, 1) := by decide +kernel
set_option maxRecDepth 20000 in
theorem w173_1131 {d : Nat} {st : List Value} {Q : Option Value × jW → Prop} {w : jW} {a1 a2 a3 : Option Value} {x : Nat} : Wp d 173 1131 [some (.ref x), a1, a2, a3] (st) w Q = Wp d 173 1132 [some (.ref x), a1, a2, a3] (.ref x :: st) w Q := Wp.loc e173_1131 rfl rfl rfl
theorem e173_1132 : decode (j_co 173) 1132 = .ok (.iload_n 3, 1) := by decide +kernel
set_option maxRecDepth 20000 in
theorem w173_1132 {d : Nat} {st : List Value} {Q : Option Value × jW → Prop} {w : jW} {a0 a1 a2 : Option Value} {x : Int32} : Wp d 173 1132 [a0, a1, a2, some (.int x)] (st) w Q = Wp d 173 1133 [a0, a1, a2, some (.int x)] (.int x :: st) w Q := Wp.loc e173_1132 rfl rfl rfl
theorem e173_1133 : decode (j_co 173) 1133 = .ok (.iconst 3, 1) := by decide +kernel
set_option maxRecDepth 20000 in
theorem w173_1133 {d : Nat} {st : List Value} {Q : Option Value × jW → Prop} {ls : jL} {w : jW} : Wp d 173 1133 ls (st) w Q = Wp d 173 1134 ls (.int (nI 3) :: st) w Q := Wp.alu e173_1133 rfl rfl
theorem e173_1134 : decode (j_co 173) 1134 = .ok (.iadd, 1) := by decide +kernel
set_option maxRecDepth 20000 in
theorem w173_1134 {d : Nat} {st : List Value} {Q : Option Value × jW → Prop} {ls : jL} {w : jW} {a b : Int32} : Wp d 173 1134 ls (.int b :: .int a :: st) w Q = Wp d 173 1135 ls (.int (a + b) :: st) w Q := Wp.alu e173_1134 rfl rfl
theorem e173_1135 : decode (j_co 173) 1135 = .ok (.iaload, 1) := by decide +kernel
theorem w173_1135 {d k : Nat} {ls : jL} {st : List Value} {I : fI} {L : fL} {Q : Option Value × jW → Prop} {g : List Int32} (hk : k < g.length) (h31 : k < 2147483648) : Wp d 173 1135 ls (.int (nI k) :: .ref 0 :: st) (f_W (g.map Value.int) I L) Q = Wp d 173 1136 ls (.int (g.getD k 0) :: st) (f_W (g.map Value.int) I L) Q := Wp.iald0 e173_1135 hk h31
theorem e173_1136 : decode (j_co 173) 1136 = .ok (.aload_n 0, 1) := by decide +kernel
set_option maxRecDepth 20000 in
theorem w173_1136 {d : Nat} {st : List Value} {Q : Option Value × jW → Prop} {w : jW} {a1 a2 a3 : Option Value} {x : Nat} : Wp d 173 1136 [some (.ref x), a1, a2, a3] (st) w Q = Wp d 173 1137 [some (.ref x), a1, a2, a3] (.ref x :: st) w Q := Wp.loc e173_1136 rfl rfl rfl
theorem e173_1137 : decode (j_co 173) 1137 = .ok (.iload_n 3, 1) := by decide +kernel
set_option maxRecDepth 20000 in
theorem w173_1137 {d : Nat} {st : List Value} {Q : Option Value × jW → Prop} {w : jW} {a0 a1 a2 : Option Value} {x : Int32} : Wp d 173 1137 [a0, a1, a2, some (.int x)] (st) w Q = Wp d 173 1138 [a0, a1, a2, some (.int x)] (.int x :: st) w Q := Wp.loc e173_1137 rfl rfl rfl
theorem e173_1138 : decode (j_co 173) 1138 = .ok (.iconst 4, 1) := by decide +kernel
set_option maxRecDepth 20000 in
theorem w173_1138 {d : Nat} {st : List Value} {Q : Option Value × jW → Prop} {ls : jL} {w : jW} : Wp d 173 1138 ls (st) w Q = Wp d 173 1139 ls (.int (nI 4) :: st) w Q := Wp.alu e173_1138 rfl rfl
theorem e173_1139 : decode (j_co 173) 1139 = .ok (.iadd, 1) := by decide +kernel
set_option maxRecDepth 20000 in
theorem w173_1139 {d : Nat} {st : List Value} {Q : Option Value × jW → Prop} {ls : jL} {w : jW} {a b : Int32} : Wp d 173 1139 ls (.int b :: .int a :: st) w Q = Wp d 173 1140 ls (.int (a + b) :: st) w Q := Wp.alu e173_1139 rfl rfl
theorem e173_1140 : decode (j_co 173) 1140 = .ok (.iaload, 1) := by decide +kernel
theorem w173_1140 {d k : Nat} {ls : jL} {st : List Value} {I : fI} {L : fL} {Q : Option Value × jW → Prop} {g : List Int32} (hk : k < g.length) (h31 : k < 2147483648) : Wp d 173 1140 ls (.int (nI k) :: .ref 0 :: st) (f_W (g.map Value.int) I L) Q = Wp d 173 1141 ls (.int (g.getD k 0) :: st) (f_W (g.map Value.int) I L) Q := Wp.iald0 e173_1140 hk h31
theorem e173_1141 : decode (j_co 173) 1141 = .ok (.aload_n 0, 1) := by decide +kernel
set_option maxRecDepth 20000 in
theorem w173_1141 {d : Nat} {st : List Value} {Q : Option Value × jW → Prop} {w : jW} {a1 a2 a3 : Option Value} {x : Nat} : Wp d 173 1141 [some (.ref x), a1, a2, a3] (st) w Q = Wp d 173 1142 [some (.ref x), a1, a2, a3] (.ref x :: st) w Q := Wp.loc e173_1141 rfl rfl rfl
theorem e173_1142 : decode (j_co 173) 1142 = .ok (.iload_n 3, 1) := by decide +kernel
set_option maxRecDepth 20000 in
theorem w173_1142 {d : Nat} {st : List Value} {Q : Option Value × jW → Prop} {w : jW} {a0 a1 a2 : Option Value} {x : Int32} : Wp d 173 1142 [a0, a1, a2, some (.int x)] (st) w Q = Wp d 173 1143 [a0, a1, a2, some (.int x)] (.int x :: st) w Q := Wp.loc e173_1142 rfl rfl rfl
theorem e173_1143 : decode (j_co 173) 1143 = .ok (.iconst 5, 1) := by decide +kernel
set_option maxRecDepth 20000 in
theorem w173_1143 {d : Nat} {st : List Value} {Q : Option Value × jW → Prop} {ls : jL} {w : jW} : Wp d 173 1143 ls (st) w Q = Wp d 173 1144 ls (.int (nI 5) :: st) w Q := Wp.alu e173_1143 rfl rfl
theorem e173_1144 : decode (j_co 173) 1144 = .ok (.iadd, 1) := by decide +kernel
set_option maxRecDepth 20000 in
theorem w173_1144 {d : Nat} {st : List Value} {Q : Option Value × jW → Prop} {ls : jL} {w : jW} {a b : Int32} : Wp d 173 1144 ls (.int b :: .int a :: st) w Q = Wp d 173 1145 ls (.int (a + b) :: st) w Q := Wp.alu e173_1144 rfl rfl
theorem e173_1145 : decode (j_co 173) 1145 = .ok (.iaload, 1) := by decide +kernel
theorem w173_1145 {d k : Nat} {ls : jL} {st : List Value} {I : fI} {L : fL} {Q : Option Value × jW → Prop} {g : List Int32} (hk : k < g.length) (h31 : k < 2147483648) : Wp d 173 1145 ls (.int (nI k) :: .ref 0 :: st) (f_W (g.map Value.int) I L) Q = Wp d 173 1146 ls (.int (g.getD k 0) :: st) (f_W (g.map Value.int) I L) Q := Wp.iald0 e173_1145 hk h31
theorem e173_1146 : decode (j_co 173) 1146 = .ok (.invokevirtual 124, 3) := by decide +kernel
set_option maxRecDepth 20000 in
theorem w173_1146 {d : Nat} {st : List Value} {Q : Option Value × jW → Prop} {ls : jL} {xs : List Value} {I : fI} {L : fL} {r : Nat} {x0 : Int32} {x1 : Int32} {x2 : Int32} {x3 : Int32} {x4 : Int32} (hs : j_sumc st ≤ 8) (ht : f_tg r = 10) : Wp (d + 1) 173 1146 ls (.int x4 :: .int x3 :: .int x2 :: .int x1 :: .int x0 :: .ref r :: st) (f_W xs I L) Q = Wp d 105 0 [some (.ref r), some (.int x0), some (.int x1), some (.int x2), some (.int x3), some (.int x4), none, none] [] (f_W xs I L) (fun r1 => Wp (d + 1) 173 1149 ls (r1.1.toList ++ st) r1.2 Q) := Wp.cv (y' := 105) (as := [.int x0, .int x1, .int x2, .int x3, .int x4]) e173_1146 rfl (by decide) rfl (show 6 ≤ 8 by decide) (by decide) hs ht
theorem e173_1149 : decode (j_co 173) 1149 = .ok (.aload_n 2, 1) := by decide +kernel
set_option maxRecDepth 20000 in
theorem w173_1149 {d : Nat} {st : List Value} {Q : Option Value × jW → Prop} {w : jW} {a0 a1 a3 : Option Value} {x : Nat} : Wp d 173 1149 [a0, a1, some (.ref x), a3] (st) w Q = Wp d 173 1150 [a0, a1, some (.ref x), a3] (.ref x :: st) w Q := Wp.loc e173_1149 rfl rfl rfl
theorem e173_1150 : decode (j_co 173) 1150 = .ok (.aload_n 0, 1) := by decide +kernel
set_option maxRecDepth 20000 in
theorem w173_1150 {d : Nat} {st : List Value} {Q : Option Value × jW → Prop} {w : jW} {a1 a2 a3 : Option Value} {x : Nat} : Wp d 173 1150 [some (.ref x), a1, a2, a3] (st) w Q = Wp d 173 1151 [some (.ref x), a1, a2, a3] (.ref x :: st) w Q := Wp.loc e173_1150 rfl rfl rfl
theorem e173_1151 : decode (j_co 173) 1151 = .ok (.iload_n 3, 1) := by decide +kernel
set_option maxRecDepth 20000 in
theorem w173_1151 {d : Nat} {st : List Value} {Q : Option Value × jW → Prop} {w : jW} {a0 a1 a2 : Option Value} {x : Int32} : Wp d 173 1151 [a0, a1, a2, some (.int x)] (st) w Q = Wp d 173 1152 [a0, a1, a2, some (.int x)] (.int x :: st) w Q := Wp.loc e173_1151 rfl rfl rfl
theorem e173_1152 : decode (j_co 173) 1152 = .ok (.iconst 1, 1) := by decide +kernel
set_option maxRecDepth 20000 in
theorem w173_1152 {d : Nat} {st : List Value} {Q : Option Value × jW → Prop} {ls : jL} {w : jW} : Wp d 173 1152 ls (st) w Q = Wp d 173 1153 ls (.int (nI 1) :: st) w Q := Wp.alu e173_1152 rfl rfl
theorem e173_1153 : decode (j_co 173) 1153 = .ok (.iadd, 1) := by decide +kernel
set_option maxRecDepth 20000 in
theorem w173_1153 {d : Nat} {st : List Value} {Q : Option Value × jW → Prop} {ls : jL} {w : jW} {a b : Int32} : Wp d 173 1153 ls (.int b :: .int a :: st) w Q = Wp d 173 1154 ls (.int (a + b) :: st) w Q := Wp.alu e173_1153 rfl rfl
theorem e173_1154 : decode (j_co 173) 1154 = .ok (.iaload, 1) := by decide +kernel
theorem w173_1154 {d k : Nat} {ls : jL} {st : List Value} {I : fI} {L : fL} {Q : Option Value × jW → Prop} {g : List Int32} (hk : k < g.length) (h31 : k < 2147483648) : Wp d 173 1154 ls (.int (nI k) :: .ref 0 :: st) (f_W (g.map Value.int) I L) Q = Wp d 173 1155 ls (.int (g.getD k 0) :: st) (f_W (g.map Value.int) I L) Q := Wp.iald0 e173_1154 hk h31
theorem e173_1155 : decode (j_co 173) 1155 = .ok (.aload_n 0, 1) := by decide +kernel
set_option maxRecDepth 20000 in
theorem w173_1155 {d : Nat} {st : List Value} {Q : Option Value × jW → Prop} {w : jW} {a1 a2 a3 : Option Value} {x : Nat} : Wp d 173 1155 [some (.ref x), a1, a2, a3] (st) w Q = Wp d 173 1156 [some (.ref x), a1, a2, a3] (.ref x :: st) w Q := Wp.loc e173_1155 rfl rfl rfl
theorem e173_1156 : decode (j_co 173) 1156 = .ok (.iload_n 3, 1) := by decide +kernel
set_option maxRecDepth 20000 in
theorem w173_1156 {d : Nat} {st : List Value} {Q : Option Value × jW → Prop} {w : jW} {a0 a1 a2 : Option Value} {x : Int32} : Wp d 173 1156 [a0, a1, a2, some (.int x)] (st) w Q = Wp d 173 1157 [a0, a1, a2, some (.int x)] (.int x :: st) w Q := Wp.loc e173_1156 rfl rfl rfl
theorem e173_1157 : decode (j_co 173) 1157 = .ok (.iconst 2, 1) := by decide +kernel
set_option maxRecDepth 20000 in
theorem w173_1157 {d : Nat} {st : List Value} {Q : Option Value × jW → Prop} {ls : jL} {w : jW} : Wp d 173 1157 ls (st) w Q = Wp d 173 1158 ls (.int (nI 2) :: st) w Q := Wp.alu e173_1157 rfl rfl
theorem e173_1158 : decode (j_co 173) 1158 = .ok (.iadd, 1) := by decide +kernel
set_option maxRecDepth 20000 in
theorem w173_1158 {d : Nat} {st : List Value} {Q : Option Value × jW → Prop} {ls : jL} {w : jW} {a b : Int32} : Wp d 173 1158 ls (.int b :: .int a :: st) w Q = Wp d 173 1159 ls (.int (a + b) :: st) w Q := Wp.alu e173_1158 rfl rfl
theorem e173_1159 : decode (j_co 173) 1159 = .ok (.iaload, 1) := by decide +kernel
theorem w173_1159 {d k : Nat} {ls : jL} {st : List Value} {I : fI} {L : fL} {Q : Option Value × jW → Prop} {g : List Int32} (hk : k < g.length) (h31 : k < 2147483648) : Wp d 173 1159 ls (.int (nI k) :: .ref 0 :: st) (f_W (g.map Value.int) I L) Q = Wp d 173 1160 ls (.int (g.getD k 0) :: st) (f_W (g.map Value.int) I L) Q := Wp.iald0 e173_1159 hk h31
theorem e173_1160 : decode (j_co 173) 1160 = .ok (.aload_n 0, 1) := by decide +kernel
set_option maxRecDepth 20000 in
theorem w173_1160 {d : Nat} {st : List Value} {Q : Option Value × jW → Prop} {w : jW} {a1 a2 a3 : Option Value} {x : Nat} : Wp d 173 1160 [some (.ref x), a1, a2, a3] (st) w Q = Wp d 173 1161 [some (.ref x), a1, a2, a3] (.ref x :: st) w Q := Wp.loc e173_1160 rfl rfl rfl
theorem e173_1161 : decode (j_co 173) 1161 = .ok (.iload_n 3, 1) := by decide +kernel
set_option maxRecDepth 20000 in
theorem w173_1161 {d : Nat} {st : List Value} {Q : Option Value × jW → Prop} {w : jW} {a0 a1 a2 : Option Value} {x : Int32} : Wp d 173 1161 [a0, a1, a2, some (.int x)] (st) w Q = Wp d 173 1162 [a0, a1, a2, some (.int x)] (.int x :: st) w Q := Wp.loc e173_1161 rfl rfl rfl
theorem e173_1162 : decode (j_co 173) 1162 = .ok (.iconst 3, 1) := by decide +kernel
set_option maxRecDepth 20000 in
theorem w173_1162 {d : Nat} {st : List Value} {Q : Option Value × jW → Prop} {ls : jL} {w : jW} : Wp d 173 1162 ls (st) w Q = Wp d 173 1163 ls (.int (nI 3) :: st) w Q := Wp.alu e173_1162 rfl rfl
theorem e173_1163 : decode (j_co 173) 1163 = .ok (.iadd, 1) := by decide +kernel
set_option maxRecDepth 20000 in
theorem w173_1163 {d : Nat} {st : List Value} {Q : Option Value × jW → Prop} {ls : jL} {w : jW} {a b : Int32} : Wp d 173 1163 ls (.int b :: .int a :: st) w Q = Wp d 173 1164 ls (.int (a + b) :: st) w Q := Wp.alu e173_1163 rfl rfl
theorem e173_1164 : decode (j_co 173) 1164 = .ok (.iaload, 1) := by decide +kernel
theorem w173_1164 {d k : Nat} {ls : jL} {st : List Value} {I : fI} {L : fL} {Q : Option Value × jW → Prop} {g : List Int32} (hk : k < g.length) (h31 : k < 2147483648) : Wp d 173 1164 ls (.int (nI k) :: .ref 0 :: st) (f_W (g.map Value.int) I L) Q = Wp d 173 1165 ls (.int (g.getD k 0) :: st) (f_W (g.map Value.int) I L) Q := Wp.iald0 e173_1164 hk h31
theorem e173_1165 : decode (j_co 173) 1165 = .ok (.aload_n 0, 1) := by decide +kernel
set_option maxRecDepth 20000 in
theorem w173_1165 {d : Nat} {st : List Value} {Q : Option Value × jW → Prop} {w : jW} {a1 a2 a3 : Option Value} {x : Nat} : Wp d 173 1165 [some (.ref x), a1, a2, a3] (st) w Q = Wp d 173 1166 [some (.ref x), a1, a2, a3] (.ref x :: st) w Q := Wp.loc e173_1165 rfl rfl rfl
theorem e173_1166 : decode (j_co 173) 1166 = .ok (.iload_n 3, 1) := by decide +kernel
set_option maxRecDepth 20000 in
theorem w173_1166 {d : Nat} {st : List Value} {Q : Option Value × jW → Prop} {w : jW} {a0 a1 a2 : Option Value} {x : Int32} : Wp d 173 1166 [a0, a1, a2, some (.int x)] (st) w Q = Wp d 173 1167 [a0, a1, a2, some (.int x)] (.int x :: st) w Q := Wp.loc e173_1166 rfl rfl rfl
theorem e173_1167 : decode (j_co 173) 1167 = .ok (.iconst 4, 1) := by decide +kernel
set_option maxRecDepth 20000 in
theorem w173_1167 {d : Nat} {st : List Value} {Q : Option Value × jW → Prop} {ls : jL} {w : jW} : Wp d 173 1167 ls (st) w Q = Wp d 173 1168 ls (.int (nI 4) :: st) w Q := Wp.alu e173_1167 rfl rfl
theorem e173_1168 : decode (j_co 173) 1168 = .ok (.iadd, 1) := by decide +kernel
set_option maxRecDepth 20000 in
theorem w173_1168 {d : Nat} {st : List Value} {Q : Option Value × jW → Prop} {ls : jL} {w : jW} {a b : Int32} : Wp d 173 1168 ls (.int b :: .int a :: st) w Q = Wp d 173 1169 ls (.int (a + b) :: st) w Q := Wp.alu e173_1168 rfl rfl
theorem e173_1169 : decode (j_co 173) 1169 = .ok (.iaload, 1) := by decide +kernel
theorem w173_1169 {d k : Nat} {ls : jL} {st : List Value} {I : fI} {L : fL} {Q : Option Value × jW → Prop} {g : List Int32} (hk : k < g.length) (h31 : k < 2147483648) : Wp d 173 1169 ls (.int (nI k) :: .ref 0 :: st) (f_W (g.map Value.int) I L) Q = Wp d 173 1170 ls (.int (g.getD k 0) :: st) (f_W (g.map Value.int) I L) Q := Wp.iald0 e173_1169 hk h31
theorem e173_1170 : decode (j_co 173) 1170 = .ok (.aload_n 0, 1) := by decide +kernel
set_option maxRecDepth 20000 in
theorem w173_1170 {d : Nat} {st : List Value} {Q : Option Value × jW → Prop} {w : jW} {a1 a2 a3 : Option Value} {x : Nat} : Wp d 173 1170 [some (.ref x), a1, a2, a3] (st) w Q = Wp d 173 1171 [some (.ref x), a1, a2, a3] (.ref x :: st) w Q := Wp.loc e173_1170 rfl rfl rfl
theorem e173_1171 : decode (j_co 173) 1171 = .ok (.iload_n 3, 1) := by decide +kernel
set_option maxRecDepth 20000 in
theorem w173_1171 {d : Nat} {st : List Value} {Q : Option Value × jW → Prop} {w : jW} {a0 a1 a2 : Option Value} {x : Int32} : Wp d 173 1171 [a0, a1, a2, some (.int x)] (st) w Q = Wp d 173 1172 [a0, a1, a2, some (.int x)] (.int x :: st) w Q := Wp.loc e173_1171 rfl rfl rfl
theorem e173_1172 : decode (j_co 173) 1172 = .ok (.iconst 5, 1) := by decide +kernel
set_option maxRecDepth 20000 in
theorem w173_1172 {d : Nat} {st : List Value} {Q : Option Value × jW → Prop} {ls : jL} {w : jW} : Wp d 173 1172 ls (st) w Q = Wp d 173 1173 ls (.int (nI 5) :: st) w Q := Wp.alu e173_1172 rfl rfl
theorem e173_1173 : decode (j_co 173) 1173 = .ok (.iadd, 1) := by decide +kernel
set_option maxRecDepth 20000 in
theorem w173_1173 {d : Nat} {st : List Value} {Q : Option Value × jW → Prop} {ls : jL} {w : jW} {a b : Int32} : Wp d 173 1173 ls (.int b :: .int a :: st) w Q = Wp d 173 1174 ls (.int (a + b) :: st) w Q := Wp.alu e173_1173 rfl rfl
theorem e173_1174 : decode (j_co 173) 1174 = .ok (.iaload, 1) := by decide +kernel
theorem w173_1174 {d k : Nat} {ls : jL} {st : List Value} {I : fI} {L : fL} {Q : Option Value × jW → Prop} {g : List Int32} (hk : k < g.length) (h31 : k < 2147483648) : Wp d 173 1174 ls (.int (nI k) :: .ref 0 :: st) (f_W (g.map Value.int) I L) Q = Wp d 173 1175 ls (.int (g.getD k 0) :: st) (f_W (g.map Value.int) I L) Q := Wp.iald0 e173_1174 hk h31
theorem e173_1175 : decode (j_co 173) 1175 = .ok (.invokevirtual 128, 3) := by decide +kernel
set_option maxRecDepth 20000 in
theorem w173_1175 {d : Nat} {st : List Value} {Q : Option Value × jW → Prop} {ls : jL} {xs : List Value} {I : fI} {L : fL} {r : Nat} {x0 : Int32} {x1 : Int32} {x2 : Int32} {x3 : Int32} {x4 : Int32} (hs : j_sumc st ≤ 8) (ht : f_tg r = 11) : Wp (d + 1) 173 1175 ls (.int x4 :: .int x3 :: .int x2 :: .int x1 :: .int x0 :: .ref r :: st) (f_W xs I L) Q = Wp d 168 0 [some (.ref r), some (.int x0), some (.int x1), some (.int x2), some (.int x3), some (.int x4), none, none, none] [] (f_W xs I L) (fun r1 => Wp (d + 1) 173 1178 ls (r1.1.toList ++ st) r1.2 Q) := Wp.cv (y' := 168) (as := [.int x0, .int x1, .int x2, .int x3, .int x4]) e173_1175 rfl (by decide) rfl (show 6 ≤ 9 by decide) (by decide) hs ht
theorem e173_1178 : decode (j_co 173) 1178 = .ok (.if_icmp .eq 28, 3) := by decide +kernel
set_option maxRecDepth 20000 in
theorem w173_1178 {d : Nat} {st : List Value} {Q : Option Value × jW → Prop} {ls : jL} {w : jW} {a b : Int32} : Wp d 173 1178 ls (.int b :: .int a :: st) w Q = ((a = b → Wp d 173 1206 ls st w Q) ∧ (¬ a = b → Wp d 173 1181 ls st w Q)) := Wp.if2 (c := a = b) (off := 28) e173_1178 rfl rfl rfl rfl rfl
theorem e173_1181 : decode (j_co 173) 1181 = .ok (.iconst 0, 1) := by decide +kernel
set_option maxRecDepth 20000 in
theorem w173_1181 {d : Nat} {st : List Value} {Q : Option Value × jW → Prop} {ls : jL} {w : jW} : Wp d 173 1181 ls (st) w Q = Wp d 173 1182 ls (.int (nI 0) :: st) w Q := Wp.alu e173_1181 rfl rfl
theorem e173_1182 : decode (j_co 173) 1182 = .ok (.ireturn, 1) := by decide +kernel
set_option maxRecDepth 20000 in
theorem w173_1182 {d : Nat} {Q : Option Value × jW → Prop} {ls : jL} {w : jW} {x : Int32} (hx : x = 0 ∨ x = 1) : Wp d 173 1182 ls [.int x] w Q = Q (some (.int x), w) := Wp.ret e173_1182 (by rcases hx with rfl | rfl <;> rfl)
theorem e173_1183 : decode (j_co 173) 1183 = .ok (.aload_n 1, 1) := by decide +kernel
set_option maxRecDepth 20000 in
theorem w173_1183 {d : Nat} {st : List Value} {Q : Option Value × jW → Prop} {w : jW} {a0 a2 a3 : Option Value} {x : Nat} : Wp d 173 1183 [a0, some (.ref x), a2, a3] (st) w Q = Wp d 173 1184 [a0, some (.ref x), a2, a3] (.ref x :: st) w Q := Wp.loc e173_1183 rfl rfl rfl
theorem e173_1184 : decode (j_co 173) 1184 = .ok (.aload_n 0, 1) := by decide +kernel
set_option maxRecDepth 20000 in
theorem w173_1184 {d : Nat} {st : List Value} {Q : Option Value × jW → Prop} {w : jW} {a1 a2 a3 : Option Value} {x : Nat} : Wp d 173 1184 [some (.ref x), a1, a2, a3] (st) w Q = Wp d 173 1185 [some (.ref x), a1, a2, a3] (.ref x :: st) w Q := Wp.loc e173_1184 rfl rfl rfl
theorem e173_1185 : decode (j_co 173) 1185 = .ok (.iload_n 3, 1) := by decide +kernel
set_option maxRecDepth 20000 in
theorem w173_1185 {d : Nat} {st : List Value} {Q : Option Value × jW → Prop} {w : jW} {a0 a1 a2 : Option Value} {x : Int32} : Wp d 173 1185 [a0, a1, a2, some (.int x)] (st) w Q = Wp d 173 1186 [a0, a1, a2, some (.int x)] (.int x :: st) w Q := Wp.loc e173_1185 rfl rfl rfl
theorem e173_1186 : decode (j_co 173) 1186 = .ok (.iconst 1, 1) := by decide +kernel
set_option maxRecDepth 20000 in
theorem w173_1186 {d : Nat} {st : List Value} {Q : Option Value × jW → Prop} {ls : jL} {w : jW} : Wp d 173 1186 ls (st) w Q = Wp d 173 1187 ls (.int (nI 1) :: st) w Q := Wp.alu e173_1186 rfl rfl
theorem e173_1187 : decode (j_co 173) 1187 = .ok (.iadd, 1) := by decide +kernel
set_option maxRecDepth 20000 in
theorem w173_1187 {d : Nat} {st : List Value} {Q : Option Value × jW → Prop} {ls : jL} {w : jW} {a b : Int32} : Wp d 173 1187 ls (.int b :: .int a :: st) w Q = Wp d 173 1188 ls (.int (a + b) :: st) w Q := Wp.alu e173_1187 rfl rfl
theorem e173_1188 : decode (j_co 173) 1188 = .ok (.iaload, 1) := by decide +kernel
theorem w173_1188 {d k : Nat} {ls : jL} {st : List Value} {I : fI} {L : fL} {Q : Option Value × jW → Prop} {g : List Int32} (hk : k < g.length) (h31 : k < 2147483648) : Wp d 173 1188 ls (.int (nI k) :: .ref 0 :: st) (f_W (g.map Value.int) I L) Q = Wp d 173 1189 ls (.int (g.getD k 0) :: st) (f_W (g.map Value.int) I L) Q := Wp.iald0 e173_1188 hk h31
theorem e173_1189 : decode (j_co 173) 1189 = .ok (.invokevirtual 129, 3) := by decide +kernel
set_option maxRecDepth 20000 in
theorem w173_1189 {d : Nat} {st : List Value} {Q : Option Value × jW → Prop} {ls : jL} {xs : List Value} {I : fI} {L : fL} {r : Nat} {x0 : Int32} (hs : j_sumc st ≤ 8) (ht : f_tg r = 10) : Wp (d + 1) 173 1189 ls (.int x0 :: .ref r :: st) (f_W xs I L) Q = Wp d 109 0 [some (.ref r), some (.int x0)] [] (f_W xs I L) (fun r1 => Wp (d + 1) 173 1192 ls (r1.1.toList ++ st) r1.2 Q) := Wp.cv (y' := 109) (as := [.int x0]) e173_1189 rfl (by decide) rfl (show 2 ≤ 2 by decide) (by decide) hs ht
theorem e173_1192 : decode (j_co 173) 1192 = .ok (.aload_n 2, 1) := by decide +kernel
set_option maxRecDepth 20000 in
theorem w173_1192 {d : Nat} {st : List Value} {Q : Option Value × jW → Prop} {w : jW} {a0 a1 a3 : Option Value} {x : Nat} : Wp d 173 1192 [a0, a1, some (.ref x), a3] (st) w Q = Wp d 173 1193 [a0, a1, some (.ref x), a3] (.ref x :: st) w Q := Wp.loc e173_1192 rfl rfl rfl
theorem e173_1193 : decode (j_co 173) 1193 = .ok (.aload_n 0, 1) := by decide +kernel
set_option maxRecDepth 20000 in
theorem w173_1193 {d : Nat} {st : List Value} {Q : Option Value × jW → Prop} {w : jW} {a1 a2 a3 : Option Value} {x : Nat} : Wp d 173 1193 [some (.ref x), a1, a2, a3] (st) w Q = Wp d 173 1194 [some (.ref x), a1, a2, a3] (.ref x :: st) w Q := Wp.loc e173_1193 rfl rfl rfl
theorem e173_1194 : decode (j_co 173) 1194 = .ok (.iload_n 3, 1) := by decide +kernel
set_option maxRecDepth 20000 in
theorem w173_1194 {d : Nat} {st : List Value} {Q : Option Value × jW → Prop} {w : jW} {a0 a1 a2 : Option Value} {x : Int32} : Wp d 173 1194 [a0, a1, a2, some (.int x)] (st) w Q = Wp d 173 1195 [a0, a1, a2, some (.int x)] (.int x :: st) w Q := Wp.loc e173_1194 rfl rfl rfl
theorem e173_1195 : decode (j_co 173) 1195 = .ok (.iconst 1, 1) := by decide +kernel
set_option maxRecDepth 20000 in
theorem w173_1195 {d : Nat} {st : List Value} {Q : Option Value × jW → Prop} {ls : jL} {w : jW} : Wp d 173 1195 ls (st) w Q = Wp d 173 1196 ls (.int (nI 1) :: st) w Q := Wp.alu e173_1195 rfl rfl
theorem e173_1196 : decode (j_co 173) 1196 = .ok (.iadd, 1) := by decide +kernel
set_option maxRecDepth 20000 in
theorem w173_1196 {d : Nat} {st : List Value} {Q : Option Value × jW → Prop} {ls : jL} {w : jW} {a b : Int32} : Wp d 173 1196 ls (.int b :: .int a :: st) w Q = Wp d 173 1197 ls (.int (a + b) :: st) w Q := Wp.alu e173_1196 rfl rfl
theorem e173_1197 : decode (j_co 173) 1197 = .ok (.iaload, 1) := by decide +kernel
theorem w173_1197 {d k : Nat} {ls : jL} {st : List Value} {I : fI} {L : fL} {Q : Option Value × jW → Prop} {g : List Int32} (hk : k < g.length) (h31 : k < 2147483648) : Wp d 173 1197 ls (.int (nI k) :: .ref 0 :: st) (f_W (g.map Value.int) I L) Q = Wp d 173 1198 ls (.int (g.getD k 0) :: st) (f_W (g.map Value.int) I L) Q := Wp.iald0 e173_1197 hk h31
theorem e173_1198 : decode (j_co 173) 1198 = .ok (.invokevirtual 132, 3) := by decide +kernel
set_option maxRecDepth 20000 in
theorem w173_1198 {d : Nat} {st : List Value} {Q : Option Value × jW → Prop} {ls : jL} {xs : List Value} {I : fI} {L : fL} {r : Nat} {x0 : Int32} (hs : j_sumc st ≤ 8) (ht : f_tg r = 11) : Wp (d + 1) 173 1198 ls (.int x0 :: .ref r :: st) (f_W xs I L) Q = Wp d 169 0 [some (.ref r), some (.int x0)] [] (f_W xs I L) (fun r1 => Wp (d + 1) 173 1201 ls (r1.1.toList ++ st) r1.2 Q) := Wp.cv (y' := 169) (as := [.int x0]) e173_1198 rfl (by decide) rfl (show 2 ≤ 2 by decide) (by decide) hs ht
theorem e173_1201 : decode (j_co 173) 1201 = .ok (.if_icmp .eq 5, 3) := by decide +kernel
set_option maxRecDepth 20000 in
theorem w173_1201 {d : Nat} {st : List Value} {Q : Option Value × jW → Prop} {ls : jL} {w : jW} {a b : Int32} : Wp d 173 1201 ls (.int b :: .int a :: st) w Q = ((a = b → Wp d 173 1206 ls st w Q) ∧ (¬ a = b → Wp d 173 1204 ls st w Q)) := Wp.if2 (c := a = b) (off := 5) e173_1201 rfl rfl rfl rfl rfl
theorem e173_1204 : decode (j_co 173) 1204 = .ok (.iconst 0, 1) := by decide +kernel
set_option maxRecDepth 20000 in
theorem w173_1204 {d : Nat} {st : List Value} {Q : Option Value × jW → Prop} {ls : jL} {w : jW} : Wp d 173 1204 ls (st) w Q = Wp d 173 1205 ls (.int (nI 0) :: st) w Q := Wp.alu e173_1204 rfl rfl
theorem e173_1205 : decode (j_co 173) 1205 = .ok (.ireturn, 1) := by decide +kernel
set_option maxRecDepth 20000 in
theorem w173_1205 {d : Nat} {Q : Option Value × jW → Prop} {ls : jL} {w : jW} {x : Int32} (hx : x = 0 ∨ x = 1) : Wp d 173 1205 ls [.int x] w Q = Q (some (.int x), w) := Wp.ret e173_1205 (by rcases hx with rfl | rfl <;> rfl)
theorem e173_1206 : decode (j_co 173) 1206 = .ok (.iinc 3 6, 3) := by decide +kernel
set_option maxRecDepth 20000 in
theorem w173_1206 {d : Nat} {st : List Value} {Q : Option Value × jW → Prop} {w : jW} {a0 a1 a2 : Option Value} {x : Int32} (h : j_cp a2) : Wp d 173 1206 [a0, a1, a2, some (.int x)] (st) w Q = Wp d 173 1209 [a0, a1, a2, some (.int (x + nI 6))] (st) w Q := Wp.loc e173_1206 rfl rfl (v_inc (ls := [a0, a1, a2, some (.int x)]) (k := 3) (n := 6) rfl (show 3 < 4 by decide) h)
theorem e173_1209 : decode (j_co 173) 1209 = .ok (.goto (-1191), 3) := by decide +kernel
set_option maxRecDepth 20000 in
theorem w173_1209 {d : Nat} {st : List Value} {Q : Option Value × jW → Prop} {ls : jL} {w : jW} : Wp d 173 1209 ls (st) w Q = Wp d 173 18 ls (st) w Q := Wp.br e173_1209 (Or.inl rfl) rfl rfl rfl rfl
theorem e173_1212 : decode (j_co 173) 1212 = .ok (.iconst 1, 1) := by decide +kernel
set_option maxRecDepth 20000 in
theorem w173_1212 {d : Nat} {st : List Value} {Q : Option Value × jW → Prop} {ls : jL} {w : jW} : Wp d 173 1212 ls (st) w Q = Wp d 173 1213 ls (.int (nI 1) :: st) w Q := Wp.alu e173_1212 rfl rfl
theorem e173_1213 : decode (j_co 173) 1213 = .ok (.ireturn, 1) := by decide +kernel
set_option maxRecDepth 20000 in
theorem w173_1213 {d : Nat} {Q : Option Value × jW → Prop} {ls : jL} {w : jW} {x : Int32} (hx : x = 0 ∨ x = 1) : Wp d 173 1213 ls [.int x] w Q = Q (some (.int x), w) := Wp.ret e173_1213 (by rcases hx with rfl | rfl <;> rfl)
