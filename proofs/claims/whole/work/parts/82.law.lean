/-! THE LAW: a row for each place (wip/whole/gen/law.py) -/
theorem Wp.iald0 {d y pc k : Nat} {ls : jL} {st : List Value} {I : fI} {L : fL} {Q : Option Value × jW → Prop} {g : List Int32} (hd : decode (j_co y) pc = .ok (.iaload, 1)) (hk : k < g.length) (h31 : k < 2147483648) : Wp d y pc ls (.int (nI k) :: .ref 0 :: st) (f_W (g.map Value.int) I L) Q = Wp d y (pc + 1) ls (.int (g.getD k 0) :: st) (f_W (g.map Value.int) I L) Q := by
  refine Wp.hp (i := .iaload) hd rfl rfl rfl rfl ?_
  have hw : (f_W (g.map Value.int) I L)[0]? = some (107, g.map Value.int) := rfl
  have hc : (nI k).toNatClampNeg = k := nI_clamp h31
  have hv : (g.map Value.int)[k]? = some (.int (g.getD k 0)) := by simp [hk]
  unfold j_hp
  simp only [hw]
  have h8 : (107 = 100 ∨ (True ∧ True)) ∧ ¬ (nI k < 0 ∨ (g.map Value.int).length ≤ (nI k).toNatClampNeg) := by
    refine ⟨Or.inr ⟨trivial, trivial⟩, ?_⟩
    rw [hc, List.length_map]
    intro r
    rcases r with r | r
    · exact nI_pos h31 r
    · omega
  rw [if_pos h8, hc]
  simp only [hv]
theorem Wp.alen0 {d y pc : Nat} {ls : jL} {st : List Value} {I : fI} {L : fL} {Q : Option Value × jW → Prop} {g : List Int32} (hd : decode (j_co y) pc = .ok (.arraylength, 1)) : Wp d y pc ls (.ref 0 :: st) (f_W (g.map Value.int) I L) Q = Wp d y (pc + 1) ls (.int (nI g.length) :: st) (f_W (g.map Value.int) I L) Q := by
  refine Wp.hp (i := .arraylength) hd rfl rfl rfl rfl ?_
  have hw : (f_W (g.map Value.int) I L)[0]? = some (107, g.map Value.int) := rfl
  unfold j_hp
  simp only [hw]
  have h8 : 100 ≤ 107 ∧ (107 ≤ 106 ∨ (True ∧ True)) := by decide
  rw [if_pos h8, List.length_map]
  rfl
theorem e170_0 : decode (j_co 170) 0 = .ok (.new 7, 3) := by decide +kernel
theorem e170_3 : decode (j_co 170) 3 = .ok (.dup, 1) := by decide +kernel
set_option maxRecDepth 20000 in
theorem w170_3 {d : Nat} {st : List Value} {Q : Option Value × jW → Prop} {ls : jL} {w : jW} {a : Int32} : Wp d 170 3 ls (.int a :: st) w Q = Wp d 170 4 ls (.int a :: .int a :: st) w Q := Wp.alu e170_3 rfl rfl
set_option maxRecDepth 20000 in
theorem w170_3r {d : Nat} {st : List Value} {Q : Option Value × jW → Prop} {ls : jL} {w : jW} {a : Nat} : Wp d 170 3 ls (.ref a :: st) w Q = Wp d 170 4 ls (.ref a :: .ref a :: st) w Q := Wp.alu e170_3 rfl rfl
theorem e170_4 : decode (j_co 170) 4 = .ok (.invokespecial 9, 3) := by decide +kernel
theorem e170_7 : decode (j_co 170) 7 = .ok (.astore_n 1, 1) := by decide +kernel
set_option maxRecDepth 20000 in
theorem w170_7 {d : Nat} {st : List Value} {Q : Option Value × jW → Prop} {w : jW} {a0 a1 a2 a3 : Option Value} {x : Nat} (h : j_cp a0) : Wp d 170 7 [a0, a1, a2, a3] (.ref x :: st) w Q = Wp d 170 8 [a0, some (.ref x), a2, a3] (st) w Q := Wp.loc e170_7 rfl rfl (v_stA (ls := [a0, a1, a2, a3]) (k := 1) (show 1 < 4 by decide) h)
theorem e170_8 : decode (j_co 170) 8 = .ok (.new 10, 3) := by decide +kernel
theorem e170_11 : decode (j_co 170) 11 = .ok (.dup, 1) := by decide +kernel
set_option maxRecDepth 20000 in
theorem w170_11 {d : Nat} {st : List Value} {Q : Option Value × jW → Prop} {ls : jL} {w : jW} {a : Int32} : Wp d 170 11 ls (.int a :: st) w Q = Wp d 170 12 ls (.int a :: .int a :: st) w Q := Wp.alu e170_11 rfl rfl
set_option maxRecDepth 20000 in
theorem w170_11r {d : Nat} {st : List Value} {Q : Option Value × jW → Prop} {ls : jL} {w : jW} {a : Nat} : Wp d 170 11 ls (.ref a :: st) w Q = Wp d 170 12 ls (.ref a :: .ref a :: st) w Q := Wp.alu e170_11 rfl rfl
theorem e170_12 : decode (j_co 170) 12 = .ok (.invokespecial 12, 3) := by decide +kernel
theorem e170_15 : decode (j_co 170) 15 = .ok (.astore_n 2, 1) := by decide +kernel
set_option maxRecDepth 20000 in
theorem w170_15 {d : Nat} {st : List Value} {Q : Option Value × jW → Prop} {w : jW} {a0 a1 a2 a3 : Option Value} {x : Nat} (h : j_cp a1) : Wp d 170 15 [a0, a1, a2, a3] (.ref x :: st) w Q = Wp d 170 16 [a0, a1, some (.ref x), a3] (st) w Q := Wp.loc e170_15 rfl rfl (v_stA (ls := [a0, a1, a2, a3]) (k := 2) (show 2 < 4 by decide) h)
theorem e170_16 : decode (j_co 170) 16 = .ok (.iconst 0, 1) := by decide +kernel
set_option maxRecDepth 20000 in
theorem w170_16 {d : Nat} {st : List Value} {Q : Option Value × jW → Prop} {ls : jL} {w : jW} : Wp d 170 16 ls (st) w Q = Wp d 170 17 ls (.int (nI 0) :: st) w Q := Wp.alu e170_16 rfl rfl
theorem e170_17 : decode (j_co 170) 17 = .ok (.istore_n 3, 1) := by decide +kernel
set_option maxRecDepth 20000 in
theorem w170_17 {d : Nat} {st : List Value} {Q : Option Value × jW → Prop} {w : jW} {a0 a1 a2 a3 : Option Value} {x : Int32} (h : j_cp a2) : Wp d 170 17 [a0, a1, a2, a3] (.int x :: st) w Q = Wp d 170 18 [a0, a1, a2, some (.int x)] (st) w Q := Wp.loc e170_17 rfl rfl (v_stI (ls := [a0, a1, a2, a3]) (k := 3) (show 3 < 4 by decide) h)
theorem e170_18 : decode (j_co 170) 18 = .ok (.iload_n 3, 1) := by decide +kernel
set_option maxRecDepth 20000 in
theorem w170_18 {d : Nat} {st : List Value} {Q : Option Value × jW → Prop} {w : jW} {a0 a1 a2 : Option Value} {x : Int32} : Wp d 170 18 [a0, a1, a2, some (.int x)] (st) w Q = Wp d 170 19 [a0, a1, a2, some (.int x)] (.int x :: st) w Q := Wp.loc e170_18 rfl rfl rfl
theorem e170_19 : decode (j_co 170) 19 = .ok (.aload_n 0, 1) := by decide +kernel
set_option maxRecDepth 20000 in
theorem w170_19 {d : Nat} {st : List Value} {Q : Option Value × jW → Prop} {w : jW} {a1 a2 a3 : Option Value} {x : Nat} : Wp d 170 19 [some (.ref x), a1, a2, a3] (st) w Q = Wp d 170 20 [some (.ref x), a1, a2, a3] (.ref x :: st) w Q := Wp.loc e170_19 rfl rfl rfl
theorem e170_20 : decode (j_co 170) 20 = .ok (.arraylength, 1) := by decide +kernel
theorem w170_20 {d : Nat} {ls : jL} {st : List Value} {I : fI} {L : fL} {Q : Option Value × jW → Prop} {g : List Int32} : Wp d 170 20 ls (.ref 0 :: st) (f_W (g.map Value.int) I L) Q = Wp d 170 21 ls (.int (nI g.length) :: st) (f_W (g.map Value.int) I L) Q := Wp.alen0 e170_20
theorem e170_21 : decode (j_co 170) 21 = .ok (.bipush 6, 2) := by decide +kernel
set_option maxRecDepth 20000 in
theorem w170_21 {d : Nat} {st : List Value} {Q : Option Value × jW → Prop} {ls : jL} {w : jW} : Wp d 170 21 ls (st) w Q = Wp d 170 23 ls (.int (nI 6) :: st) w Q := Wp.alu e170_21 rfl rfl
theorem e170_23 : decode (j_co 170) 23 = .ok (.isub, 1) := by decide +kernel
set_option maxRecDepth 20000 in
theorem w170_23 {d : Nat} {st : List Value} {Q : Option Value × jW → Prop} {ls : jL} {w : jW} {a b : Int32} : Wp d 170 23 ls (.int b :: .int a :: st) w Q = Wp d 170 24 ls (.int (a - b) :: st) w Q := Wp.alu e170_23 rfl rfl
theorem e170_24 : decode (j_co 170) 24 = .ok (.if_icmp .gt 1188, 3) := by decide +kernel
set_option maxRecDepth 20000 in
theorem w170_24 {d : Nat} {st : List Value} {Q : Option Value × jW → Prop} {ls : jL} {w : jW} {a b : Int32} : Wp d 170 24 ls (.int b :: .int a :: st) w Q = ((b < a → Wp d 170 1212 ls st w Q) ∧ (¬ b < a → Wp d 170 27 ls st w Q)) := Wp.if2 (c := b < a) (off := 1188) e170_24 rfl rfl rfl rfl rfl
theorem e170_27 : decode (j_co 170) 27 = .ok (.aload_n 0, 1) := by decide +kernel
set_option maxRecDepth 20000 in
theorem w170_27 {d : Nat} {st : List Value} {Q : Option Value × jW → Prop} {w : jW} {a1 a2 a3 : Option Value} {x : Nat} : Wp d 170 27 [some (.ref x), a1, a2, a3] (st) w Q = Wp d 170 28 [some (.ref x), a1, a2, a3] (.ref x :: st) w Q := Wp.loc e170_27 rfl rfl rfl
theorem e170_28 : decode (j_co 170) 28 = .ok (.iload_n 3, 1) := by decide +kernel
set_option maxRecDepth 20000 in
theorem w170_28 {d : Nat} {st : List Value} {Q : Option Value × jW → Prop} {w : jW} {a0 a1 a2 : Option Value} {x : Int32} : Wp d 170 28 [a0, a1, a2, some (.int x)] (st) w Q = Wp d 170 29 [a0, a1, a2, some (.int x)] (.int x :: st) w Q := Wp.loc e170_28 rfl rfl rfl
theorem e170_29 : decode (j_co 170) 29 = .ok (.iaload, 1) := by decide +kernel
theorem w170_29 {d k : Nat} {ls : jL} {st : List Value} {I : fI} {L : fL} {Q : Option Value × jW → Prop} {g : List Int32} (hk : k < g.length) (h31 : k < 2147483648) : Wp d 170 29 ls (.int (nI k) :: .ref 0 :: st) (f_W (g.map Value.int) I L) Q = Wp d 170 30 ls (.int (g.getD k 0) :: st) (f_W (g.map Value.int) I L) Q := Wp.iald0 e170_29 hk h31
theorem e170_30 : decode (j_co 170) 30 = .ok (.bipush 31, 2) := by decide +kernel
set_option maxRecDepth 20000 in
theorem w170_30 {d : Nat} {st : List Value} {Q : Option Value × jW → Prop} {ls : jL} {w : jW} : Wp d 170 30 ls (st) w Q = Wp d 170 32 ls (.int (nI 31) :: st) w Q := Wp.alu e170_30 rfl rfl
theorem e170_32 : decode (j_co 170) 32 = .ok (.iand, 1) := by decide +kernel
set_option maxRecDepth 20000 in
theorem w170_32 {d : Nat} {st : List Value} {Q : Option Value × jW → Prop} {ls : jL} {w : jW} {a b : Int32} : Wp d 170 32 ls (.int b :: .int a :: st) w Q = Wp d 170 33 ls (.int (a &&& b) :: st) w Q := Wp.alu e170_32 rfl rfl
theorem e170_33 : decode (j_co 170) 33 = .ok (.tableswitch 1173 0 27 #[127, 140, 193, 246, 279, 332, 411, 434, 487, 510, 533, 546, 579, 638, 691, 714, 727, 760, 813, 826, 839, 882, 925, 978, 1001, 1044, 1087, 1150], 127) := by decide +kernel
theorem w170_33_0 {d : Nat} {ls : jL} {st : List Value} {w : jW} {Q : Option Value × jW → Prop} : Wp d 170 33 ls (.int (nI 0) :: st) w Q = Wp d 170 160 ls st w Q := Wp.tsI e170_33 (by decide +kernel) (off := 127) (by decide +kernel) (by decide +kernel)
theorem w170_33_1 {d : Nat} {ls : jL} {st : List Value} {w : jW} {Q : Option Value × jW → Prop} : Wp d 170 33 ls (.int (nI 1) :: st) w Q = Wp d 170 173 ls st w Q := Wp.tsI e170_33 (by decide +kernel) (off := 140) (by decide +kernel) (by decide +kernel)
theorem w170_33_2 {d : Nat} {ls : jL} {st : List Value} {w : jW} {Q : Option Value × jW → Prop} : Wp d 170 33 ls (.int (nI 2) :: st) w Q = Wp d 170 226 ls st w Q := Wp.tsI e170_33 (by decide +kernel) (off := 193) (by decide +kernel) (by decide +kernel)
theorem w170_33_3 {d : Nat} {ls : jL} {st : List Value} {w : jW} {Q : Option Value × jW → Prop} : Wp d 170 33 ls (.int (nI 3) :: st) w Q = Wp d 170 279 ls st w Q := Wp.tsI e170_33 (by decide +kernel) (off := 246) (by decide +kernel) (by decide +kernel)
theorem w170_33_4 {d : Nat} {ls : jL} {st : List Value} {w : jW} {Q : Option Value × jW → Prop} : Wp d 170 33 ls (.int (nI 4) :: st) w Q = Wp d 170 312 ls st w Q := Wp.tsI e170_33 (by decide +kernel) (off := 279) (by decide +kernel) (by decide +kernel)
theorem w170_33_5 {d : Nat} {ls : jL} {st : List Value} {w : jW} {Q : Option Value × jW → Prop} : Wp d 170 33 ls (.int (nI 5) :: st) w Q = Wp d 170 365 ls st w Q := Wp.tsI e170_33 (by decide +kernel) (off := 332) (by decide +kernel) (by decide +kernel)
theorem w170_33_6 {d : Nat} {ls : jL} {st : List Value} {w : jW} {Q : Option Value × jW → Prop} : Wp d 170 33 ls (.int (nI 6) :: st) w Q = Wp d 170 444 ls st w Q := Wp.tsI e170_33 (by decide +kernel) (off := 411) (by decide +kernel) (by decide +kernel)
theorem w170_33_7 {d : Nat} {ls : jL} {st : List Value} {w : jW} {Q : Option Value × jW → Prop} : Wp d 170 33 ls (.int (nI 7) :: st) w Q = Wp d 170 467 ls st w Q := Wp.tsI e170_33 (by decide +kernel) (off := 434) (by decide +kernel) (by decide +kernel)
theorem w170_33_8 {d : Nat} {ls : jL} {st : List Value} {w : jW} {Q : Option Value × jW → Prop} : Wp d 170 33 ls (.int (nI 8) :: st) w Q = Wp d 170 520 ls st w Q := Wp.tsI e170_33 (by decide +kernel) (off := 487) (by decide +kernel) (by decide +kernel)
theorem w170_33_9 {d : Nat} {ls : jL} {st : List Value} {w : jW} {Q : Option Value × jW → Prop} : Wp d 170 33 ls (.int (nI 9) :: st) w Q = Wp d 170 543 ls st w Q := Wp.tsI e170_33 (by decide +kernel) (off := 510) (by decide +kernel) (by decide +kernel)
theorem w170_33_10 {d : Nat} {ls : jL} {st : List Value} {w : jW} {Q : Option Value × jW → Prop} : Wp d 170 33 ls (.int (nI 10) :: st) w Q = Wp d 170 566 ls st w Q := Wp.tsI e170_33 (by decide +kernel) (off := 533) (by decide +kernel) (by decide +kernel)
theorem w170_33_11 {d : Nat} {ls : jL} {st : List Value} {w : jW} {Q : Option Value × jW → Prop} : Wp d 170 33 ls (.int (nI 11) :: st) w Q = Wp d 170 579 ls st w Q := Wp.tsI e170_33 (by decide +kernel) (off := 546) (by decide +kernel) (by decide +kernel)
theorem w170_33_12 {d : Nat} {ls : jL} {st : List Value} {w : jW} {Q : Option Value × jW → Prop} : Wp d 170 33 ls (.int (nI 12) :: st) w Q = Wp d 170 612 ls st w Q := Wp.tsI e170_33 (by decide +kernel) (off := 579) (by decide +kernel) (by decide +kernel)
theorem w170_33_13 {d : Nat} {ls : jL} {st : List Value} {w : jW} {Q : Option Value × jW → Prop} : Wp d 170 33 ls (.int (nI 13) :: st) w Q = Wp d 170 671 ls st w Q := Wp.tsI e170_33 (by decide +kernel) (off := 638) (by decide +kernel) (by decide +kernel)
theorem w170_33_14 {d : Nat} {ls : jL} {st : List Value} {w : jW} {Q : Option Value × jW → Prop} : Wp d 170 33 ls (.int (nI 14) :: st) w Q = Wp d 170 724 ls st w Q := Wp.tsI e170_33 (by decide +kernel) (off := 691) (by decide +kernel) (by decide +kernel)
theorem w170_33_15 {d : Nat} {ls : jL} {st : List Value} {w : jW} {Q : Option Value × jW → Prop} : Wp d 170 33 ls (.int (nI 15) :: st) w Q = Wp d 170 747 ls st w Q := Wp.tsI e170_33 (by decide +kernel) (off := 714) (by decide +kernel) (by decide +kernel)
theorem w170_33_16 {d : Nat} {ls : jL} {st : List Value} {w : jW} {Q : Option Value × jW → Prop} : Wp d 170 33 ls (.int (nI 16) :: st) w Q = Wp d 170 760 ls st w Q := Wp.tsI e170_33 (by decide +kernel) (off := 727) (by decide +kernel) (by decide +kernel)
theorem w170_33_17 {d : Nat} {ls : jL} {st : List Value} {w : jW} {Q : Option Value × jW → Prop} : Wp d 170 33 ls (.int (nI 17) :: st) w Q = Wp d 170 793 ls st w Q := Wp.tsI e170_33 (by decide +kernel) (off := 760) (by decide +kernel) (by decide +kernel)
theorem w170_33_18 {d : Nat} {ls : jL} {st : List Value} {w : jW} {Q : Option Value × jW → Prop} : Wp d 170 33 ls (.int (nI 18) :: st) w Q = Wp d 170 846 ls st w Q := Wp.tsI e170_33 (by decide +kernel) (off := 813) (by decide +kernel) (by decide +kernel)
theorem w170_33_19 {d : Nat} {ls : jL} {st : List Value} {w : jW} {Q : Option Value × jW → Prop} : Wp d 170 33 ls (.int (nI 19) :: st) w Q = Wp d 170 859 ls st w Q := Wp.tsI e170_33 (by decide +kernel) (off := 826) (by decide +kernel) (by decide +kernel)
theorem w170_33_20 {d : Nat} {ls : jL} {st : List Value} {w : jW} {Q : Option Value × jW → Prop} : Wp d 170 33 ls (.int (nI 20) :: st) w Q = Wp d 170 872 ls st w Q := Wp.tsI e170_33 (by decide +kernel) (off := 839) (by decide +kernel) (by decide +kernel)
theorem w170_33_21 {d : Nat} {ls : jL} {st : List Value} {w : jW} {Q : Option Value × jW → Prop} : Wp d 170 33 ls (.int (nI 21) :: st) w Q = Wp d 170 915 ls st w Q := Wp.tsI e170_33 (by decide +kernel) (off := 882) (by decide +kernel) (by decide +kernel)
theorem w170_33_22 {d : Nat} {ls : jL} {st : List Value} {w : jW} {Q : Option Value × jW → Prop} : Wp d 170 33 ls (.int (nI 22) :: st) w Q = Wp d 170 958 ls st w Q := Wp.tsI e170_33 (by decide +kernel) (off := 925) (by decide +kernel) (by decide +kernel)
theorem w170_33_23 {d : Nat} {ls : jL} {st : List Value} {w : jW} {Q : Option Value × jW → Prop} : Wp d 170 33 ls (.int (nI 23) :: st) w Q = Wp d 170 1011 ls st w Q := Wp.tsI e170_33 (by decide +kernel) (off := 978) (by decide +kernel) (by decide +kernel)
theorem w170_33_24 {d : Nat} {ls : jL} {st : List Value} {w : jW} {Q : Option Value × jW → Prop} : Wp d 170 33 ls (.int (nI 24) :: st) w Q = Wp d 170 1034 ls st w Q := Wp.tsI e170_33 (by decide +kernel) (off := 1001) (by decide +kernel) (by decide +kernel)
theorem w170_33_25 {d : Nat} {ls : jL} {st : List Value} {w : jW} {Q : Option Value × jW → Prop} : Wp d 170 33 ls (.int (nI 25) :: st) w Q = Wp d 170 1077 ls st w Q := Wp.tsI e170_33 (by decide +kernel) (off := 1044) (by decide +kernel) (by decide +kernel)
theorem w170_33_26 {d : Nat} {ls : jL} {st : List Value} {w : jW} {Q : Option Value × jW → Prop} : Wp d 170 33 ls (.int (nI 26) :: st) w Q = Wp d 170 1120 ls st w Q := Wp.tsI e170_33 (by decide +kernel) (off := 1087) (by decide +kernel) (by decide +kernel)
theorem w170_33_27 {d : Nat} {ls : jL} {st : List Value} {w : jW} {Q : Option Value × jW → Prop} : Wp d 170 33 ls (.int (nI 27) :: st) w Q = Wp d 170 1183 ls st w Q := Wp.tsI e170_33 (by decide +kernel) (off := 1150) (by decide +kernel) (by decide +kernel)
theorem w170_33_d {d : Nat} {ls : jL} {st : List Value} {w : jW} {Q : Option Value × jW → Prop} {x : Int32} (h : x.toInt < 0 ∨ 27 < x.toInt) : Wp d 170 33 ls (.int x :: st) w Q = Wp d 170 1206 ls st w Q := Wp.tsD e170_33 h (by decide +kernel)
theorem e170_160 : decode (j_co 170) 160 = .ok (.aload_n 1, 1) := by decide +kernel
set_option maxRecDepth 20000 in
theorem w170_160 {d : Nat} {st : List Value} {Q : Option Value × jW → Prop} {w : jW} {a0 a2 a3 : Option Value} {x : Nat} : Wp d 170 160 [a0, some (.ref x), a2, a3] (st) w Q = Wp d 170 161 [a0, some (.ref x), a2, a3] (.ref x :: st) w Q := Wp.loc e170_160 rfl rfl rfl
theorem e170_161 : decode (j_co 170) 161 = .ok (.invokevirtual 13, 3) := by decide +kernel
set_option maxRecDepth 20000 in
theorem w170_161 {d : Nat} {st : List Value} {Q : Option Value × jW → Prop} {ls : jL} {xs : List Value} {I : fI} {L : fL} {r : Nat} (hs : j_sumc st ≤ 8) (ht : f_tg r = 10) : Wp (d + 1) 170 161 ls (.ref r :: st) (f_W xs I L) Q = Wp d 13 0 [some (.ref r)] [] (f_W xs I L) (fun r1 => Wp (d + 1) 170 164 ls (r1.1.toList ++ st) r1.2 Q) := Wp.cv (y' := 13) (as := []) e170_161 rfl (by decide) rfl (show 1 ≤ 1 by decide) (by decide) hs ht
theorem e170_164 : decode (j_co 170) 164 = .ok (.aload_n 2, 1) := by decide +kernel
set_option maxRecDepth 20000 in
theorem w170_164 {d : Nat} {st : List Value} {Q : Option Value × jW → Prop} {w : jW} {a0 a1 a3 : Option Value} {x : Nat} : Wp d 170 164 [a0, a1, some (.ref x), a3] (st) w Q = Wp d 170 165 [a0, a1, some (.ref x), a3] (.ref x :: st) w Q := Wp.loc e170_164 rfl rfl rfl
theorem e170_165 : decode (j_co 170) 165 = .ok (.invokevirtual 17, 3) := by decide +kernel
set_option maxRecDepth 20000 in
theorem w170_165 {d : Nat} {st : List Value} {Q : Option Value × jW → Prop} {ls : jL} {xs : List Value} {I : fI} {L : fL} {r : Nat} (hs : j_sumc st ≤ 8) (ht : f_tg r = 11) : Wp (d + 1) 170 165 ls (.ref r :: st) (f_W xs I L) Q = Wp d 111 0 [some (.ref r), none] [] (f_W xs I L) (fun r1 => Wp (d + 1) 170 168 ls (r1.1.toList ++ st) r1.2 Q) := Wp.cv (y' := 111) (as := []) e170_165 rfl (by decide) rfl (show 1 ≤ 2 by decide) (by decide) hs ht
theorem e170_168 : decode (j_co 170) 168 = .ok (.if_icmp .eq 1038, 3) := by decide +kernel
set_option maxRecDepth 20000 in
theorem w170_168 {d : Nat} {st : List Value} {Q : Option Value × jW → Prop} {ls : jL} {w : jW} {a b : Int32} : Wp d 170 168 ls (.int b :: .int a :: st) w Q = ((a = b → Wp d 170 1206 ls st w Q) ∧ (¬ a = b → Wp d 170 171 ls st w Q)) := Wp.if2 (c := a = b) (off := 1038) e170_168 rfl rfl rfl rfl rfl
theorem e170_171 : decode (j_co 170) 171 = .ok (.iconst 0, 1) := by decide +kernel
set_option maxRecDepth 20000 in
theorem w170_171 {d : Nat} {st : List Value} {Q : Option Value × jW → Prop} {ls : jL} {w : jW} : Wp d 170 171 ls (st) w Q = Wp d 170 172 ls (.int (nI 0) :: st) w Q := Wp.alu e170_171 rfl rfl
theorem e170_172 : decode (j_co 170) 172 = .ok (.ireturn, 1) := by decide +kernel
set_option maxRecDepth 20000 in
theorem w170_172 {d : Nat} {Q : Option Value × jW → Prop} {ls : jL} {w : jW} {x : Int32} (hx : x = 0 ∨ x = 1) : Wp d 170 172 ls [.int x] w Q = Q (some (.int x), w) := Wp.ret e170_172 (by rcases hx with rfl | rfl <;> rfl)
theorem e170_173 : decode (j_co 170) 173 = .ok (.aload_n 1, 1) := by decide +kernel
set_option maxRecDepth 20000 in
theorem w170_173 {d : Nat} {st : List Value} {Q : Option Value × jW → Prop} {w : jW} {a0 a2 a3 : Option Value} {x : Nat} : Wp d 170 173 [a0, some (.ref x), a2, a3] (st) w Q = Wp d 170 174 [a0, some (.ref x), a2, a3] (.ref x :: st) w Q := Wp.loc e170_173 rfl rfl rfl
theorem e170_174 : decode (j_co 170) 174 = .ok (.aload_n 0, 1) := by decide +kernel
set_option maxRecDepth 20000 in
theorem w170_174 {d : Nat} {st : List Value} {Q : Option Value × jW → Prop} {w : jW} {a1 a2 a3 : Option Value} {x : Nat} : Wp d 170 174 [some (.ref x), a1, a2, a3] (st) w Q = Wp d 170 175 [some (.ref x), a1, a2, a3] (.ref x :: st) w Q := Wp.loc e170_174 rfl rfl rfl
theorem e170_175 : decode (j_co 170) 175 = .ok (.iload_n 3, 1) := by decide +kernel
set_option maxRecDepth 20000 in
theorem w170_175 {d : Nat} {st : List Value} {Q : Option Value × jW → Prop} {w : jW} {a0 a1 a2 : Option Value} {x : Int32} : Wp d 170 175 [a0, a1, a2, some (.int x)] (st) w Q = Wp d 170 176 [a0, a1, a2, some (.int x)] (.int x :: st) w Q := Wp.loc e170_175 rfl rfl rfl
theorem e170_176 : decode (j_co 170) 176 = .ok (.iconst 1, 1) := by decide +kernel
set_option maxRecDepth 20000 in
theorem w170_176 {d : Nat} {st : List Value} {Q : Option Value × jW → Prop} {ls : jL} {w : jW} : Wp d 170 176 ls (st) w Q = Wp d 170 177 ls (.int (nI 1) :: st) w Q := Wp.alu e170_176 rfl rfl
theorem e170_177 : decode (j_co 170) 177 = .ok (.iadd, 1) := by decide +kernel
set_option maxRecDepth 20000 in
theorem w170_177 {d : Nat} {st : List Value} {Q : Option Value × jW → Prop} {ls : jL} {w : jW} {a b : Int32} : Wp d 170 177 ls (.int b :: .int a :: st) w Q = Wp d 170 178 ls (.int (a + b) :: st) w Q := Wp.alu e170_177 rfl rfl
theorem e170_178 : decode (j_co 170) 178 = .ok (.iaload, 1) := by decide +kernel
theorem w170_178 {d k : Nat} {ls : jL} {st : List Value} {I : fI} {L : fL} {Q : Option Value × jW → Prop} {g : List Int32} (hk : k < g.length) (h31 : k < 2147483648) : Wp d 170 178 ls (.int (nI k) :: .ref 0 :: st) (f_W (g.map Value.int) I L) Q = Wp d 170 179 ls (.int (g.getD k 0) :: st) (f_W (g.map Value.int) I L) Q := Wp.iald0 e170_178 hk h31
theorem e170_179 : decode (j_co 170) 179 = .ok (.aload_n 0, 1) := by decide +kernel
set_option maxRecDepth 20000 in
theorem w170_179 {d : Nat} {st : List Value} {Q : Option Value × jW → Prop} {w : jW} {a1 a2 a3 : Option Value} {x : Nat} : Wp d 170 179 [some (.ref x), a1, a2, a3] (st) w Q = Wp d 170 180 [some (.ref x), a1, a2, a3] (.ref x :: st) w Q := Wp.loc e170_179 rfl rfl rfl
theorem e170_180 : decode (j_co 170) 180 = .ok (.iload_n 3, 1) := by decide +kernel
set_option maxRecDepth 20000 in
theorem w170_180 {d : Nat} {st : List Value} {Q : Option Value × jW → Prop} {w : jW} {a0 a1 a2 : Option Value} {x : Int32} : Wp d 170 180 [a0, a1, a2, some (.int x)] (st) w Q = Wp d 170 181 [a0, a1, a2, some (.int x)] (.int x :: st) w Q := Wp.loc e170_180 rfl rfl rfl
theorem e170_181 : decode (j_co 170) 181 = .ok (.iconst 2, 1) := by decide +kernel
set_option maxRecDepth 20000 in
theorem w170_181 {d : Nat} {st : List Value} {Q : Option Value × jW → Prop} {ls : jL} {w : jW} : Wp d 170 181 ls (st) w Q = Wp d 170 182 ls (.int (nI 2) :: st) w Q := Wp.alu e170_181 rfl rfl
theorem e170_182 : decode (j_co 170) 182 = .ok (.iadd, 1) := by decide +kernel
set_option maxRecDepth 20000 in
theorem w170_182 {d : Nat} {st : List Value} {Q : Option Value × jW → Prop} {ls : jL} {w : jW} {a b : Int32} : Wp d 170 182 ls (.int b :: .int a :: st) w Q = Wp d 170 183 ls (.int (a + b) :: st) w Q := Wp.alu e170_182 rfl rfl
theorem e170_183 : decode (j_co 170) 183 = .ok (.iaload, 1) := by decide +kernel
theorem w170_183 {d k : Nat} {ls : jL} {st : List Value} {I : fI} {L : fL} {Q : Option Value × jW → Prop} {g : List Int32} (hk : k < g.length) (h31 : k < 2147483648) : Wp d 170 183 ls (.int (nI k) :: .ref 0 :: st) (f_W (g.map Value.int) I L) Q = Wp d 170 184 ls (.int (g.getD k 0) :: st) (f_W (g.map Value.int) I L) Q := Wp.iald0 e170_183 hk h31
theorem e170_184 : decode (j_co 170) 184 = .ok (.aload_n 0, 1) := by decide +kernel
set_option maxRecDepth 20000 in
theorem w170_184 {d : Nat} {st : List Value} {Q : Option Value × jW → Prop} {w : jW} {a1 a2 a3 : Option Value} {x : Nat} : Wp d 170 184 [some (.ref x), a1, a2, a3] (st) w Q = Wp d 170 185 [some (.ref x), a1, a2, a3] (.ref x :: st) w Q := Wp.loc e170_184 rfl rfl rfl
theorem e170_185 : decode (j_co 170) 185 = .ok (.iload_n 3, 1) := by decide +kernel
set_option maxRecDepth 20000 in
theorem w170_185 {d : Nat} {st : List Value} {Q : Option Value × jW → Prop} {w : jW} {a0 a1 a2 : Option Value} {x : Int32} : Wp d 170 185 [a0, a1, a2, some (.int x)] (st) w Q = Wp d 170 186 [a0, a1, a2, some (.int x)] (.int x :: st) w Q := Wp.loc e170_185 rfl rfl rfl
theorem e170_186 : decode (j_co 170) 186 = .ok (.iconst 3, 1) := by decide +kernel
set_option maxRecDepth 20000 in
theorem w170_186 {d : Nat} {st : List Value} {Q : Option Value × jW → Prop} {ls : jL} {w : jW} : Wp d 170 186 ls (st) w Q = Wp d 170 187 ls (.int (nI 3) :: st) w Q := Wp.alu e170_186 rfl rfl
theorem e170_187 : decode (j_co 170) 187 = .ok (.iadd, 1) := by decide +kernel
set_option maxRecDepth 20000 in
theorem w170_187 {d : Nat} {st : List Value} {Q : Option Value × jW → Prop} {ls : jL} {w : jW} {a b : Int32} : Wp d 170 187 ls (.int b :: .int a :: st) w Q = Wp d 170 188 ls (.int (a + b) :: st) w Q := Wp.alu e170_187 rfl rfl
theorem e170_188 : decode (j_co 170) 188 = .ok (.iaload, 1) := by decide +kernel
theorem w170_188 {d k : Nat} {ls : jL} {st : List Value} {I : fI} {L : fL} {Q : Option Value × jW → Prop} {g : List Int32} (hk : k < g.length) (h31 : k < 2147483648) : Wp d 170 188 ls (.int (nI k) :: .ref 0 :: st) (f_W (g.map Value.int) I L) Q = Wp d 170 189 ls (.int (g.getD k 0) :: st) (f_W (g.map Value.int) I L) Q := Wp.iald0 e170_188 hk h31
theorem e170_189 : decode (j_co 170) 189 = .ok (.aload_n 0, 1) := by decide +kernel
set_option maxRecDepth 20000 in
theorem w170_189 {d : Nat} {st : List Value} {Q : Option Value × jW → Prop} {w : jW} {a1 a2 a3 : Option Value} {x : Nat} : Wp d 170 189 [some (.ref x), a1, a2, a3] (st) w Q = Wp d 170 190 [some (.ref x), a1, a2, a3] (.ref x :: st) w Q := Wp.loc e170_189 rfl rfl rfl
theorem e170_190 : decode (j_co 170) 190 = .ok (.iload_n 3, 1) := by decide +kernel
set_option maxRecDepth 20000 in
theorem w170_190 {d : Nat} {st : List Value} {Q : Option Value × jW → Prop} {w : jW} {a0 a1 a2 : Option Value} {x : Int32} : Wp d 170 190 [a0, a1, a2, some (.int x)] (st) w Q = Wp d 170 191 [a0, a1, a2, some (.int x)] (.int x :: st) w Q := Wp.loc e170_190 rfl rfl rfl
theorem e170_191 : decode (j_co 170) 191 = .ok (.iconst 4, 1) := by decide +kernel
set_option maxRecDepth 20000 in
theorem w170_191 {d : Nat} {st : List Value} {Q : Option Value × jW → Prop} {ls : jL} {w : jW} : Wp d 170 191 ls (st) w Q = Wp d 170 192 ls (.int (nI 4) :: st) w Q := Wp.alu e170_191 rfl rfl
theorem e170_192 : decode (j_co 170) 192 = .ok (.iadd, 1) := by decide +kernel
set_option maxRecDepth 20000 in
theorem w170_192 {d : Nat} {st : List Value} {Q : Option Value × jW → Prop} {ls : jL} {w : jW} {a b : Int32} : Wp d 170 192 ls (.int b :: .int a :: st) w Q = Wp d 170 193 ls (.int (a + b) :: st) w Q := Wp.alu e170_192 rfl rfl
theorem e170_193 : decode (j_co 170) 193 = .ok (.iaload, 1) := by decide +kernel
theorem w170_193 {d k : Nat} {ls : jL} {st : List Value} {I : fI} {L : fL} {Q : Option Value × jW → Prop} {g : List Int32} (hk : k < g.length) (h31 : k < 2147483648) : Wp d 170 193 ls (.int (nI k) :: .ref 0 :: st) (f_W (g.map Value.int) I L) Q = Wp d 170 194 ls (.int (g.getD k 0) :: st) (f_W (g.map Value.int) I L) Q := Wp.iald0 e170_193 hk h31
theorem e170_194 : decode (j_co 170) 194 = .ok (.invokevirtual 18, 3) := by decide +kernel
set_option maxRecDepth 20000 in
theorem w170_194 {d : Nat} {st : List Value} {Q : Option Value × jW → Prop} {ls : jL} {xs : List Value} {I : fI} {L : fL} {r : Nat} {x0 : Int32} {x1 : Int32} {x2 : Int32} {x3 : Int32} (hs : j_sumc st ≤ 8) (ht : f_tg r = 10) : Wp (d + 1) 170 194 ls (.int x3 :: .int x2 :: .int x1 :: .int x0 :: .ref r :: st) (f_W xs I L) Q = Wp d 15 0 [some (.ref r), some (.int x0), some (.int x1), some (.int x2), some (.int x3)] [] (f_W xs I L) (fun r1 => Wp (d + 1) 170 197 ls (r1.1.toList ++ st) r1.2 Q) := Wp.cv (y' := 15) (as := [.int x0, .int x1, .int x2, .int x3]) e170_194 rfl (by decide) rfl (show 5 ≤ 5 by decide) (by decide) hs ht
theorem e170_197 : decode (j_co 170) 197 = .ok (.aload_n 2, 1) := by decide +kernel
set_option maxRecDepth 20000 in
theorem w170_197 {d : Nat} {st : List Value} {Q : Option Value × jW → Prop} {w : jW} {a0 a1 a3 : Option Value} {x : Nat} : Wp d 170 197 [a0, a1, some (.ref x), a3] (st) w Q = Wp d 170 198 [a0, a1, some (.ref x), a3] (.ref x :: st) w Q := Wp.loc e170_197 rfl rfl rfl
theorem e170_198 : decode (j_co 170) 198 = .ok (.aload_n 0, 1) := by decide +kernel
set_option maxRecDepth 20000 in
theorem w170_198 {d : Nat} {st : List Value} {Q : Option Value × jW → Prop} {w : jW} {a1 a2 a3 : Option Value} {x : Nat} : Wp d 170 198 [some (.ref x), a1, a2, a3] (st) w Q = Wp d 170 199 [some (.ref x), a1, a2, a3] (.ref x :: st) w Q := Wp.loc e170_198 rfl rfl rfl
theorem e170_199 : decode (j_co 170) 199 = .ok (.iload_n 3, 1) := by decide +kernel
set_option maxRecDepth 20000 in
theorem w170_199 {d : Nat} {st : List Value} {Q : Option Value × jW → Prop} {w : jW} {a0 a1 a2 : Option Value} {x : Int32} : Wp d 170 199 [a0, a1, a2, some (.int x)] (st) w Q = Wp d 170 200 [a0, a1, a2, some (.int x)] (.int x :: st) w Q := Wp.loc e170_199 rfl rfl rfl
theorem e170_200 : decode (j_co 170) 200 = .ok (.iconst 1, 1) := by decide +kernel
set_option maxRecDepth 20000 in
theorem w170_200 {d : Nat} {st : List Value} {Q : Option Value × jW → Prop} {ls : jL} {w : jW} : Wp d 170 200 ls (st) w Q = Wp d 170 201 ls (.int (nI 1) :: st) w Q := Wp.alu e170_200 rfl rfl
theorem e170_201 : decode (j_co 170) 201 = .ok (.iadd, 1) := by decide +kernel
set_option maxRecDepth 20000 in
theorem w170_201 {d : Nat} {st : List Value} {Q : Option Value × jW → Prop} {ls : jL} {w : jW} {a b : Int32} : Wp d 170 201 ls (.int b :: .int a :: st) w Q = Wp d 170 202 ls (.int (a + b) :: st) w Q := Wp.alu e170_201 rfl rfl
theorem e170_202 : decode (j_co 170) 202 = .ok (.iaload, 1) := by decide +kernel
theorem w170_202 {d k : Nat} {ls : jL} {st : List Value} {I : fI} {L : fL} {Q : Option Value × jW → Prop} {g : List Int32} (hk : k < g.length) (h31 : k < 2147483648) : Wp d 170 202 ls (.int (nI k) :: .ref 0 :: st) (f_W (g.map Value.int) I L) Q = Wp d 170 203 ls (.int (g.getD k 0) :: st) (f_W (g.map Value.int) I L) Q := Wp.iald0 e170_202 hk h31
theorem e170_203 : decode (j_co 170) 203 = .ok (.aload_n 0, 1) := by decide +kernel
set_option maxRecDepth 20000 in
theorem w170_203 {d : Nat} {st : List Value} {Q : Option Value × jW → Prop} {w : jW} {a1 a2 a3 : Option Value} {x : Nat} : Wp d 170 203 [some (.ref x), a1, a2, a3] (st) w Q = Wp d 170 204 [some (.ref x), a1, a2, a3] (.ref x :: st) w Q := Wp.loc e170_203 rfl rfl rfl
theorem e170_204 : decode (j_co 170) 204 = .ok (.iload_n 3, 1) := by decide +kernel
set_option maxRecDepth 20000 in
theorem w170_204 {d : Nat} {st : List Value} {Q : Option Value × jW → Prop} {w : jW} {a0 a1 a2 : Option Value} {x : Int32} : Wp d 170 204 [a0, a1, a2, some (.int x)] (st) w Q = Wp d 170 205 [a0, a1, a2, some (.int x)] (.int x :: st) w Q := Wp.loc e170_204 rfl rfl rfl
theorem e170_205 : decode (j_co 170) 205 = .ok (.iconst 2, 1) := by decide +kernel
set_option maxRecDepth 20000 in
theorem w170_205 {d : Nat} {st : List Value} {Q : Option Value × jW → Prop} {ls : jL} {w : jW} : Wp d 170 205 ls (st) w Q = Wp d 170 206 ls (.int (nI 2) :: st) w Q := Wp.alu e170_205 rfl rfl
theorem e170_206 : decode (j_co 170) 206 = .ok (.iadd, 1) := by decide +kernel
set_option maxRecDepth 20000 in
theorem w170_206 {d : Nat} {st : List Value} {Q : Option Value × jW → Prop} {ls : jL} {w : jW} {a b : Int32} : Wp d 170 206 ls (.int b :: .int a :: st) w Q = Wp d 170 207 ls (.int (a + b) :: st) w Q := Wp.alu e170_206 rfl rfl
theorem e170_207 : decode (j_co 170) 207 = .ok (.iaload, 1) := by decide +kernel
theorem w170_207 {d k : Nat} {ls : jL} {st : List Value} {I : fI} {L : fL} {Q : Option Value × jW → Prop} {g : List Int32} (hk : k < g.length) (h31 : k < 2147483648) : Wp d 170 207 ls (.int (nI k) :: .ref 0 :: st) (f_W (g.map Value.int) I L) Q = Wp d 170 208 ls (.int (g.getD k 0) :: st) (f_W (g.map Value.int) I L) Q := Wp.iald0 e170_207 hk h31
theorem e170_208 : decode (j_co 170) 208 = .ok (.aload_n 0, 1) := by decide +kernel
set_option maxRecDepth 20000 in
theorem w170_208 {d : Nat} {st : List Value} {Q : Option Value × jW → Prop} {w : jW} {a1 a2 a3 : Option Value} {x : Nat} : Wp d 170 208 [some (.ref x), a1, a2, a3] (st) w Q = Wp d 170 209 [some (.ref x), a1, a2, a3] (.ref x :: st) w Q := Wp.loc e170_208 rfl rfl rfl
theorem e170_209 : decode (j_co 170) 209 = .ok (.iload_n 3, 1) := by decide +kernel
set_option maxRecDepth 20000 in
theorem w170_209 {d : Nat} {st : List Value} {Q : Option Value × jW → Prop} {w : jW} {a0 a1 a2 : Option Value} {x : Int32} : Wp d 170 209 [a0, a1, a2, some (.int x)] (st) w Q = Wp d 170 210 [a0, a1, a2, some (.int x)] (.int x :: st) w Q := Wp.loc e170_209 rfl rfl rfl
theorem e170_210 : decode (j_co 170) 210 = .ok (.iconst 3, 1) := by decide +kernel
set_option maxRecDepth 20000 in
theorem w170_210 {d : Nat} {st : List Value} {Q : Option Value × jW → Prop} {ls : jL} {w : jW} : Wp d 170 210 ls (st) w Q = Wp d 170 211 ls (.int (nI 3) :: st) w Q := Wp.alu e170_210 rfl rfl
theorem e170_211 : decode (j_co 170) 211 = .ok (.iadd, 1) := by decide +kernel
set_option maxRecDepth 20000 in
theorem w170_211 {d : Nat} {st : List Value} {Q : Option Value × jW → Prop} {ls : jL} {w : jW} {a b : Int32} : Wp d 170 211 ls (.int b :: .int a :: st) w Q = Wp d 170 212 ls (.int (a + b) :: st) w Q := Wp.alu e170_211 rfl rfl
theorem e170_212 : decode (j_co 170) 212 = .ok (.iaload, 1) := by decide +kernel
theorem w170_212 {d k : Nat} {ls : jL} {st : List Value} {I : fI} {L : fL} {Q : Option Value × jW → Prop} {g : List Int32} (hk : k < g.length) (h31 : k < 2147483648) : Wp d 170 212 ls (.int (nI k) :: .ref 0 :: st) (f_W (g.map Value.int) I L) Q = Wp d 170 213 ls (.int (g.getD k 0) :: st) (f_W (g.map Value.int) I L) Q := Wp.iald0 e170_212 hk h31
theorem e170_213 : decode (j_co 170) 213 = .ok (.aload_n 0, 1) := by decide +kernel
set_option maxRecDepth 20000 in
theorem w170_213 {d : Nat} {st : List Value} {Q : Option Value × jW → Prop} {w : jW} {a1 a2 a3 : Option Value} {x : Nat} : Wp d 170 213 [some (.ref x), a1, a2, a3] (st) w Q = Wp d 170 214 [some (.ref x), a1, a2, a3] (.ref x :: st) w Q := Wp.loc e170_213 rfl rfl rfl
theorem e170_214 : decode (j_co 170) 214 = .ok (.iload_n 3, 1) := by decide +kernel
set_option maxRecDepth 20000 in
theorem w170_214 {d : Nat} {st : List Value} {Q : Option Value × jW → Prop} {w : jW} {a0 a1 a2 : Option Value} {x : Int32} : Wp d 170 214 [a0, a1, a2, some (.int x)] (st) w Q = Wp d 170 215 [a0, a1, a2, some (.int x)] (.int x :: st) w Q := Wp.loc e170_214 rfl rfl rfl
theorem e170_215 : decode (j_co 170) 215 = .ok (.iconst 4, 1) := by decide +kernel
set_option maxRecDepth 20000 in
theorem w170_215 {d : Nat} {st : List Value} {Q : Option Value × jW → Prop} {ls : jL} {w : jW} : Wp d 170 215 ls (st) w Q = Wp d 170 216 ls (.int (nI 4) :: st) w Q := Wp.alu e170_215 rfl rfl
theorem e170_216 : decode (j_co 170) 216 = .ok (.iadd, 1) := by decide +kernel
set_option maxRecDepth 20000 in
theorem w170_216 {d : Nat} {st : List Value} {Q : Option Value × jW → Prop} {ls : jL} {w : jW} {a b : Int32} : Wp d 170 216 ls (.int b :: .int a :: st) w Q = Wp d 170 217 ls (.int (a + b) :: st) w Q := Wp.alu e170_216 rfl rfl
theorem e170_217 : decode (j_co 170) 217 = .ok (.iaload, 1) := by decide +kernel
theorem w170_217 {d k : Nat} {ls : jL} {st : List Value} {I : fI} {L : fL} {Q : Option Value × jW → Prop} {g : List Int32} (hk : k < g.length) (h31 : k < 2147483648) : Wp d 170 217 ls (.int (nI k) :: .ref 0 :: st) (f_W (g.map Value.int) I L) Q = Wp d 170 218 ls (.int (g.getD k 0) :: st) (f_W (g.map Value.int) I L) Q := Wp.iald0 e170_217 hk h31
theorem e170_218 : decode (j_co 170) 218 = .ok (.invokevirtual 22, 3) := by decide +kernel
set_option maxRecDepth 20000 in
theorem w170_218 {d : Nat} {st : List Value} {Q : Option Value × jW → Prop} {ls : jL} {xs : List Value} {I : fI} {L : fL} {r : Nat} {x0 : Int32} {x1 : Int32} {x2 : Int32} {x3 : Int32} (hs : j_sumc st ≤ 8) (ht : f_tg r = 11) : Wp (d + 1) 170 218 ls (.int x3 :: .int x2 :: .int x1 :: .int x0 :: .ref r :: st) (f_W xs I L) Q = Wp d 113 0 [some (.ref r), some (.int x0), some (.int x1), some (.int x2), some (.int x3)] [] (f_W xs I L) (fun r1 => Wp (d + 1) 170 221 ls (r1.1.toList ++ st) r1.2 Q) := Wp.cv (y' := 113) (as := [.int x0, .int x1, .int x2, .int x3]) e170_218 rfl (by decide) rfl (show 5 ≤ 5 by decide) (by decide) hs ht
theorem e170_221 : decode (j_co 170) 221 = .ok (.if_icmp .eq 985, 3) := by decide +kernel
set_option maxRecDepth 20000 in
theorem w170_221 {d : Nat} {st : List Value} {Q : Option Value × jW → Prop} {ls : jL} {w : jW} {a b : Int32} : Wp d 170 221 ls (.int b :: .int a :: st) w Q = ((a = b → Wp d 170 1206 ls st w Q) ∧ (¬ a = b → Wp d 170 224 ls st w Q)) := Wp.if2 (c := a = b) (off := 985) e170_221 rfl rfl rfl rfl rfl
theorem e170_224 : decode (j_co 170) 224 = .ok (.iconst 0, 1) := by decide +kernel
set_option maxRecDepth 20000 in
theorem w170_224 {d : Nat} {st : List Value} {Q : Option Value × jW → Prop} {ls : jL} {w : jW} : Wp d 170 224 ls (st) w Q = Wp d 170 225 ls (.int (nI 0) :: st) w Q := Wp.alu e170_224 rfl rfl
theorem e170_225 : decode (j_co 170) 225 = .ok (.ireturn, 1) := by decide +kernel
set_option maxRecDepth 20000 in
theorem w170_225 {d : Nat} {Q : Option Value × jW → Prop} {ls : jL} {w : jW} {x : Int32} (hx : x = 0 ∨ x = 1) : Wp d 170 225 ls [.int x] w Q = Q (some (.int x), w) := Wp.ret e170_225 (by rcases hx with rfl | rfl <;> rfl)
theorem e170_226 : decode (j_co 170) 226 = .ok (.aload_n 1, 1) := by decide +kernel
set_option maxRecDepth 20000 in
theorem w170_226 {d : Nat} {st : List Value} {Q : Option Value × jW → Prop} {w : jW} {a0 a2 a3 : Option Value} {x : Nat} : Wp d 170 226 [a0, some (.ref x), a2, a3] (st) w Q = Wp d 170 227 [a0, some (.ref x), a2, a3] (.ref x :: st) w Q := Wp.loc e170_226 rfl rfl rfl
theorem e170_227 : decode (j_co 170) 227 = .ok (.aload_n 0, 1) := by decide +kernel
set_option maxRecDepth 20000 in
theorem w170_227 {d : Nat} {st : List Value} {Q : Option Value × jW → Prop} {w : jW} {a1 a2 a3 : Option Value} {x : Nat} : Wp d 170 227 [some (.ref x), a1, a2, a3] (st) w Q = Wp d 170 228 [some (.ref x), a1, a2, a3] (.ref x :: st) w Q := Wp.loc e170_227 rfl rfl rfl
theorem e170_228 : decode (j_co 170) 228 = .ok (.iload_n 3, 1) := by decide +kernel
set_option maxRecDepth 20000 in
theorem w170_228 {d : Nat} {st : List Value} {Q : Option Value × jW → Prop} {w : jW} {a0 a1 a2 : Option Value} {x : Int32} : Wp d 170 228 [a0, a1, a2, some (.int x)] (st) w Q = Wp d 170 229 [a0, a1, a2, some (.int x)] (.int x :: st) w Q := Wp.loc e170_228 rfl rfl rfl
theorem e170_229 : decode (j_co 170) 229 = .ok (.iconst 1, 1) := by decide +kernel
set_option maxRecDepth 20000 in
theorem w170_229 {d : Nat} {st : List Value} {Q : Option Value × jW → Prop} {ls : jL} {w : jW} : Wp d 170 229 ls (st) w Q = Wp d 170 230 ls (.int (nI 1) :: st) w Q := Wp.alu e170_229 rfl rfl
theorem e170_230 : decode (j_co 170) 230 = .ok (.iadd, 1) := by decide +kernel
set_option maxRecDepth 20000 in
theorem w170_230 {d : Nat} {st : List Value} {Q : Option Value × jW → Prop} {ls : jL} {w : jW} {a b : Int32} : Wp d 170 230 ls (.int b :: .int a :: st) w Q = Wp d 170 231 ls (.int (a + b) :: st) w Q := Wp.alu e170_230 rfl rfl
theorem e170_231 : decode (j_co 170) 231 = .ok (.iaload, 1) := by decide +kernel
theorem w170_231 {d k : Nat} {ls : jL} {st : List Value} {I : fI} {L : fL} {Q : Option Value × jW → Prop} {g : List Int32} (hk : k < g.length) (h31 : k < 2147483648) : Wp d 170 231 ls (.int (nI k) :: .ref 0 :: st) (f_W (g.map Value.int) I L) Q = Wp d 170 232 ls (.int (g.getD k 0) :: st) (f_W (g.map Value.int) I L) Q := Wp.iald0 e170_231 hk h31
theorem e170_232 : decode (j_co 170) 232 = .ok (.aload_n 0, 1) := by decide +kernel
set_option maxRecDepth 20000 in
theorem w170_232 {d : Nat} {st : List Value} {Q : Option Value × jW → Prop} {w : jW} {a1 a2 a3 : Option Value} {x : Nat} : Wp d 170 232 [some (.ref x), a1, a2, a3] (st) w Q = Wp d 170 233 [some (.ref x), a1, a2, a3] (.ref x :: st) w Q := Wp.loc e170_232 rfl rfl rfl
theorem e170_233 : decode (j_co 170) 233 = .ok (.iload_n 3, 1) := by decide +kernel
set_option maxRecDepth 20000 in
theorem w170_233 {d : Nat} {st : List Value} {Q : Option Value × jW → Prop} {w : jW} {a0 a1 a2 : Option Value} {x : Int32} : Wp d 170 233 [a0, a1, a2, some (.int x)] (st) w Q = Wp d 170 234 [a0, a1, a2, some (.int x)] (.int x :: st) w Q := Wp.loc e170_233 rfl rfl rfl
theorem e170_234 : decode (j_co 170) 234 = .ok (.iconst 2, 1) := by decide +kernel
set_option maxRecDepth 20000 in
theorem w170_234 {d : Nat} {st : List Value} {Q : Option Value × jW → Prop} {ls : jL} {w : jW} : Wp d 170 234 ls (st) w Q = Wp d 170 235 ls (.int (nI 2) :: st) w Q := Wp.alu e170_234 rfl rfl
theorem e170_235 : decode (j_co 170) 235 = .ok (.iadd, 1) := by decide +kernel
set_option maxRecDepth 20000 in
theorem w170_235 {d : Nat} {st : List Value} {Q : Option Value × jW → Prop} {ls : jL} {w : jW} {a b : Int32} : Wp d 170 235 ls (.int b :: .int a :: st) w Q = Wp d 170 236 ls (.int (a + b) :: st) w Q := Wp.alu e170_235 rfl rfl
theorem e170_236 : decode (j_co 170) 236 = .ok (.iaload, 1) := by decide +kernel
theorem w170_236 {d k : Nat} {ls : jL} {st : List Value} {I : fI} {L : fL} {Q : Option Value × jW → Prop} {g : List Int32} (hk : k < g.length) (h31 : k < 2147483648) : Wp d 170 236 ls (.int (nI k) :: .ref 0 :: st) (f_W (g.map Value.int) I L) Q = Wp d 170 237 ls (.int (g.getD k 0) :: st) (f_W (g.map Value.int) I L) Q := Wp.iald0 e170_236 hk h31
theorem e170_237 : decode (j_co 170) 237 = .ok (.aload_n 0, 1) := by decide +kernel
set_option maxRecDepth 20000 in
theorem w170_237 {d : Nat} {st : List Value} {Q : Option Value × jW → Prop} {w : jW} {a1 a2 a3 : Option Value} {x : Nat} : Wp d 170 237 [some (.ref x), a1, a2, a3] (st) w Q = Wp d 170 238 [some (.ref x), a1, a2, a3] (.ref x :: st) w Q := Wp.loc e170_237 rfl rfl rfl
theorem e170_238 : decode (j_co 170) 238 = .ok (.iload_n 3, 1) := by decide +kernel
set_option maxRecDepth 20000 in
theorem w170_238 {d : Nat} {st : List Value} {Q : Option Value × jW → Prop} {w : jW} {a0 a1 a2 : Option Value} {x : Int32} : Wp d 170 238 [a0, a1, a2, some (.int x)] (st) w Q = Wp d 170 239 [a0, a1, a2, some (.int x)] (.int x :: st) w Q := Wp.loc e170_238 rfl rfl rfl
theorem e170_239 : decode (j_co 170) 239 = .ok (.iconst 3, 1) := by decide +kernel
set_option maxRecDepth 20000 in
theorem w170_239 {d : Nat} {st : List Value} {Q : Option Value × jW → Prop} {ls : jL} {w : jW} : Wp d 170 239 ls (st) w Q = Wp d 170 240 ls (.int (nI 3) :: st) w Q := Wp.alu e170_239 rfl rfl
theorem e170_240 : decode (j_co 170) 240 = .ok (.iadd, 1) := by decide +kernel
set_option maxRecDepth 20000 in
theorem w170_240 {d : Nat} {st : List Value} {Q : Option Value × jW → Prop} {ls : jL} {w : jW} {a b : Int32} : Wp d 170 240 ls (.int b :: .int a :: st) w Q = Wp d 170 241 ls (.int (a + b) :: st) w Q := Wp.alu e170_240 rfl rfl
theorem e170_241 : decode (j_co 170) 241 = .ok (.iaload, 1) := by decide +kernel
theorem w170_241 {d k : Nat} {ls : jL} {st : List Value} {I : fI} {L : fL} {Q : Option Value × jW → Prop} {g : List Int32} (hk : k < g.length) (h31 : k < 2147483648) : Wp d 170 241 ls (.int (nI k) :: .ref 0 :: st) (f_W (g.map Value.int) I L) Q = Wp d 170 242 ls (.int (g.getD k 0) :: st) (f_W (g.map Value.int) I L) Q := Wp.iald0 e170_241 hk h31
theorem e170_242 : decode (j_co 170) 242 = .ok (.aload_n 0, 1) := by decide +kernel
set_option maxRecDepth 20000 in
theorem w170_242 {d : Nat} {st : List Value} {Q : Option Value × jW → Prop} {w : jW} {a1 a2 a3 : Option Value} {x : Nat} : Wp d 170 242 [some (.ref x), a1, a2, a3] (st) w Q = Wp d 170 243 [some (.ref x), a1, a2, a3] (.ref x :: st) w Q := Wp.loc e170_242 rfl rfl rfl
theorem e170_243 : decode (j_co 170) 243 = .ok (.iload_n 3, 1) := by decide +kernel
set_option maxRecDepth 20000 in
theorem w170_243 {d : Nat} {st : List Value} {Q : Option Value × jW → Prop} {w : jW} {a0 a1 a2 : Option Value} {x : Int32} : Wp d 170 243 [a0, a1, a2, some (.int x)] (st) w Q = Wp d 170 244 [a0, a1, a2, some (.int x)] (.int x :: st) w Q := Wp.loc e170_243 rfl rfl rfl
theorem e170_244 : decode (j_co 170) 244 = .ok (.iconst 4, 1) := by decide +kernel
set_option maxRecDepth 20000 in
theorem w170_244 {d : Nat} {st : List Value} {Q : Option Value × jW → Prop} {ls : jL} {w : jW} : Wp d 170 244 ls (st) w Q = Wp d 170 245 ls (.int (nI 4) :: st) w Q := Wp.alu e170_244 rfl rfl
theorem e170_245 : decode (j_co 170) 245 = .ok (.iadd, 1) := by decide +kernel
set_option maxRecDepth 20000 in
theorem w170_245 {d : Nat} {st : List Value} {Q : Option Value × jW → Prop} {ls : jL} {w : jW} {a b : Int32} : Wp d 170 245 ls (.int b :: .int a :: st) w Q = Wp d 170 246 ls (.int (a + b) :: st) w Q := Wp.alu e170_245 rfl rfl
theorem e170_246 : decode (j_co 170) 246 = .ok (.iaload, 1) := by decide +kernel
theorem w170_246 {d k : Nat} {ls : jL} {st : List Value} {I : fI} {L : fL} {Q : Option Value × jW → Prop} {g : List Int32} (hk : k < g.length) (h31 : k < 2147483648) : Wp d 170 246 ls (.int (nI k) :: .ref 0 :: st) (f_W (g.map Value.int) I L) Q = Wp d 170 247 ls (.int (g.getD k 0) :: st) (f_W (g.map Value.int) I L) Q := Wp.iald0 e170_246 hk h31
theorem e170_247 : decode (j_co 170) 247 = .ok (.invokevirtual 23, 3) := by decide +kernel
set_option maxRecDepth 20000 in
theorem w170_247 {d : Nat} {st : List Value} {Q : Option Value × jW → Prop} {ls : jL} {xs : List Value} {I : fI} {L : fL} {r : Nat} {x0 : Int32} {x1 : Int32} {x2 : Int32} {x3 : Int32} (hs : j_sumc st ≤ 8) (ht : f_tg r = 10) : Wp (d + 1) 170 247 ls (.int x3 :: .int x2 :: .int x1 :: .int x0 :: .ref r :: st) (f_W xs I L) Q = Wp d 19 0 [some (.ref r), some (.int x0), some (.int x1), some (.int x2), some (.int x3)] [] (f_W xs I L) (fun r1 => Wp (d + 1) 170 250 ls (r1.1.toList ++ st) r1.2 Q) := Wp.cv (y' := 19) (as := [.int x0, .int x1, .int x2, .int x3]) e170_247 rfl (by decide) rfl (show 5 ≤ 5 by decide) (by decide) hs ht
theorem e170_250 : decode (j_co 170) 250 = .ok (.aload_n 2, 1) := by decide +kernel
set_option maxRecDepth 20000 in
theorem w170_250 {d : Nat} {st : List Value} {Q : Option Value × jW → Prop} {w : jW} {a0 a1 a3 : Option Value} {x : Nat} : Wp d 170 250 [a0, a1, some (.ref x), a3] (st) w Q = Wp d 170 251 [a0, a1, some (.ref x), a3] (.ref x :: st) w Q := Wp.loc e170_250 rfl rfl rfl
theorem e170_251 : decode (j_co 170) 251 = .ok (.aload_n 0, 1) := by decide +kernel
set_option maxRecDepth 20000 in
theorem w170_251 {d : Nat} {st : List Value} {Q : Option Value × jW → Prop} {w : jW} {a1 a2 a3 : Option Value} {x : Nat} : Wp d 170 251 [some (.ref x), a1, a2, a3] (st) w Q = Wp d 170 252 [some (.ref x), a1, a2, a3] (.ref x :: st) w Q := Wp.loc e170_251 rfl rfl rfl
theorem e170_252 : decode (j_co 170) 252 = .ok (.iload_n 3, 1) := by decide +kernel
set_option maxRecDepth 20000 in
theorem w170_252 {d : Nat} {st : List Value} {Q : Option Value × jW → Prop} {w : jW} {a0 a1 a2 : Option Value} {x : Int32} : Wp d 170 252 [a0, a1, a2, some (.int x)] (st) w Q = Wp d 170 253 [a0, a1, a2, some (.int x)] (.int x :: st) w Q := Wp.loc e170_252 rfl rfl rfl
theorem e170_253 : decode (j_co 170) 253 = .ok (.iconst 1, 1) := by decide +kernel
set_option maxRecDepth 20000 in
theorem w170_253 {d : Nat} {st : List Value} {Q : Option Value × jW → Prop} {ls : jL} {w : jW} : Wp d 170 253 ls (st) w Q = Wp d 170 254 ls (.int (nI 1) :: st) w Q := Wp.alu e170_253 rfl rfl
theorem e170_254 : decode (j_co 170) 254 = .ok (.iadd, 1) := by decide +kernel
set_option maxRecDepth 20000 in
theorem w170_254 {d : Nat} {st : List Value} {Q : Option Value × jW → Prop} {ls : jL} {w : jW} {a b : Int32} : Wp d 170 254 ls (.int b :: .int a :: st) w Q = Wp d 170 255 ls (.int (a + b) :: st) w Q := Wp.alu e170_254 rfl rfl
theorem e170_255 : decode (j_co 170) 255 = .ok (.iaload, 1) := by decide +kernel
theorem w170_255 {d k : Nat} {ls : jL} {st : List Value} {I : fI} {L : fL} {Q : Option Value × jW → Prop} {g : List Int32} (hk : k < g.length) (h31 : k < 2147483648) : Wp d 170 255 ls (.int (nI k) :: .ref 0 :: st) (f_W (g.map Value.int) I L) Q = Wp d 170 256 ls (.int (g.getD k 0) :: st) (f_W (g.map Value.int) I L) Q := Wp.iald0 e170_255 hk h31
theorem e170_256 : decode (j_co 170) 256 = .ok (.aload_n 0, 1) := by decide +kernel
set_option maxRecDepth 20000 in
theorem w170_256 {d : Nat} {st : List Value} {Q : Option Value × jW → Prop} {w : jW} {a1 a2 a3 : Option Value} {x : Nat} : Wp d 170 256 [some (.ref x), a1, a2, a3] (st) w Q = Wp d 170 257 [some (.ref x), a1, a2, a3] (.ref x :: st) w Q := Wp.loc e170_256 rfl rfl rfl
theorem e170_257 : decode (j_co 170) 257 = .ok (.iload_n 3, 1) := by decide +kernel
set_option maxRecDepth 20000 in
theorem w170_257 {d : Nat} {st : List Value} {Q : Option Value × jW → Prop} {w : jW} {a0 a1 a2 : Option Value} {x : Int32} : Wp d 170 257 [a0, a1, a2, some (.int x)] (st) w Q = Wp d 170 258 [a0, a1, a2, some (.int x)] (.int x :: st) w Q := Wp.loc e170_257 rfl rfl rfl
theorem e170_258 : decode (j_co 170) 258 = .ok (.iconst 2, 1) := by decide +kernel
set_option maxRecDepth 20000 in
theorem w170_258 {d : Nat} {st : List Value} {Q : Option Value × jW → Prop} {ls : jL} {w : jW} : Wp d 170 258 ls (st) w Q = Wp d 170 259 ls (.int (nI 2) :: st) w Q := Wp.alu e170_258 rfl rfl
theorem e170_259 : decode (j_co 170) 259 = .ok (.iadd, 1) := by decide +kernel
set_option maxRecDepth 20000 in
theorem w170_259 {d : Nat} {st : List Value} {Q : Option Value × jW → Prop} {ls : jL} {w : jW} {a b : Int32} : Wp d 170 259 ls (.int b :: .int a :: st) w Q = Wp d 170 260 ls (.int (a + b) :: st) w Q := Wp.alu e170_259 rfl rfl
theorem e170_260 : decode (j_co 170) 260 = .ok (.iaload, 1) := by decide +kernel
theorem w170_260 {d k : Nat} {ls : jL} {st : List Value} {I : fI} {L : fL} {Q : Option Value × jW → Prop} {g : List Int32} (hk : k < g.length) (h31 : k < 2147483648) : Wp d 170 260 ls (.int (nI k) :: .ref 0 :: st) (f_W (g.map Value.int) I L) Q = Wp d 170 261 ls (.int (g.getD k 0) :: st) (f_W (g.map Value.int) I L) Q := Wp.iald0 e170_260 hk h31
theorem e170_261 : decode (j_co 170) 261 = .ok (.aload_n 0, 1) := by decide +kernel
set_option maxRecDepth 20000 in
theorem w170_261 {d : Nat} {st : List Value} {Q : Option Value × jW → Prop} {w : jW} {a1 a2 a3 : Option Value} {x : Nat} : Wp d 170 261 [some (.ref x), a1, a2, a3] (st) w Q = Wp d 170 262 [some (.ref x), a1, a2, a3] (.ref x :: st) w Q := Wp.loc e170_261 rfl rfl rfl
theorem e170_262 : decode (j_co 170) 262 = .ok (.iload_n 3, 1) := by decide +kernel
set_option maxRecDepth 20000 in
theorem w170_262 {d : Nat} {st : List Value} {Q : Option Value × jW → Prop} {w : jW} {a0 a1 a2 : Option Value} {x : Int32} : Wp d 170 262 [a0, a1, a2, some (.int x)] (st) w Q = Wp d 170 263 [a0, a1, a2, some (.int x)] (.int x :: st) w Q := Wp.loc e170_262 rfl rfl rfl
theorem e170_263 : decode (j_co 170) 263 = .ok (.iconst 3, 1) := by decide +kernel
set_option maxRecDepth 20000 in
theorem w170_263 {d : Nat} {st : List Value} {Q : Option Value × jW → Prop} {ls : jL} {w : jW} : Wp d 170 263 ls (st) w Q = Wp d 170 264 ls (.int (nI 3) :: st) w Q := Wp.alu e170_263 rfl rfl
theorem e170_264 : decode (j_co 170) 264 = .ok (.iadd, 1) := by decide +kernel
set_option maxRecDepth 20000 in
theorem w170_264 {d : Nat} {st : List Value} {Q : Option Value × jW → Prop} {ls : jL} {w : jW} {a b : Int32} : Wp d 170 264 ls (.int b :: .int a :: st) w Q = Wp d 170 265 ls (.int (a + b) :: st) w Q := Wp.alu e170_264 rfl rfl
theorem e170_265 : decode (j_co 170) 265 = .ok (.iaload, 1) := by decide +kernel
theorem w170_265 {d k : Nat} {ls : jL} {st : List Value} {I : fI} {L : fL} {Q : Option Value × jW → Prop} {g : List Int32} (hk : k < g.length) (h31 : k < 2147483648) : Wp d 170 265 ls (.int (nI k) :: .ref 0 :: st) (f_W (g.map Value.int) I L) Q = Wp d 170 266 ls (.int (g.getD k 0) :: st) (f_W (g.map Value.int) I L) Q := Wp.iald0 e170_265 hk h31
theorem e170_266 : decode (j_co 170) 266 = .ok (.aload_n 0, 1) := by decide +kernel
set_option maxRecDepth 20000 in
theorem w170_266 {d : Nat} {st : List Value} {Q : Option Value × jW → Prop} {w : jW} {a1 a2 a3 : Option Value} {x : Nat} : Wp d 170 266 [some (.ref x), a1, a2, a3] (st) w Q = Wp d 170 267 [some (.ref x), a1, a2, a3] (.ref x :: st) w Q := Wp.loc e170_266 rfl rfl rfl
theorem e170_267 : decode (j_co 170) 267 = .ok (.iload_n 3, 1) := by decide +kernel
set_option maxRecDepth 20000 in
theorem w170_267 {d : Nat} {st : List Value} {Q : Option Value × jW → Prop} {w : jW} {a0 a1 a2 : Option Value} {x : Int32} : Wp d 170 267 [a0, a1, a2, some (.int x)] (st) w Q = Wp d 170 268 [a0, a1, a2, some (.int x)] (.int x :: st) w Q := Wp.loc e170_267 rfl rfl rfl
theorem e170_268 : decode (j_co 170) 268 = .ok (.iconst 4, 1) := by decide +kernel
set_option maxRecDepth 20000 in
theorem w170_268 {d : Nat} {st : List Value} {Q : Option Value × jW → Prop} {ls : jL} {w : jW} : Wp d 170 268 ls (st) w Q = Wp d 170 269 ls (.int (nI 4) :: st) w Q := Wp.alu e170_268 rfl rfl
theorem e170_269 : decode (j_co 170) 269 = .ok (.iadd, 1) := by decide +kernel
set_option maxRecDepth 20000 in
theorem w170_269 {d : Nat} {st : List Value} {Q : Option Value × jW → Prop} {ls : jL} {w : jW} {a b : Int32} : Wp d 170 269 ls (.int b :: .int a :: st) w Q = Wp d 170 270 ls (.int (a + b) :: st) w Q := Wp.alu e170_269 rfl rfl
theorem e170_270 : decode (j_co 170) 270 = .ok (.iaload, 1) := by decide +kernel
theorem w170_270 {d k : Nat} {ls : jL} {st : List Value} {I : fI} {L : fL} {Q : Option Value × jW → Prop} {g : List Int32} (hk : k < g.length) (h31 : k < 2147483648) : Wp d 170 270 ls (.int (nI k) :: .ref 0 :: st) (f_W (g.map Value.int) I L) Q = Wp d 170 271 ls (.int (g.getD k 0) :: st) (f_W (g.map Value.int) I L) Q := Wp.iald0 e170_270 hk h31
theorem e170_271 : decode (j_co 170) 271 = .ok (.invokevirtual 26, 3) := by decide +kernel
set_option maxRecDepth 20000 in
theorem w170_271 {d : Nat} {st : List Value} {Q : Option Value × jW → Prop} {ls : jL} {xs : List Value} {I : fI} {L : fL} {r : Nat} {x0 : Int32} {x1 : Int32} {x2 : Int32} {x3 : Int32} (hs : j_sumc st ≤ 8) (ht : f_tg r = 11) : Wp (d + 1) 170 271 ls (.int x3 :: .int x2 :: .int x1 :: .int x0 :: .ref r :: st) (f_W xs I L) Q = Wp d 118 0 [some (.ref r), some (.int x0), some (.int x1), some (.int x2), some (.int x3)] [] (f_W xs I L) (fun r1 => Wp (d + 1) 170 274 ls (r1.1.toList ++ st) r1.2 Q) := Wp.cv (y' := 118) (as := [.int x0, .int x1, .int x2, .int x3]) e170_271 rfl (by decide) rfl (show 5 ≤ 5 by decide) (by decide) hs ht
theorem e170_274 : decode (j_co 170) 274 = .ok (.if_icmp .eq 932, 3) := by decide +kernel
set_option maxRecDepth 20000 in
theorem w170_274 {d : Nat} {st : List Value} {Q : Option Value × jW → Prop} {ls : jL} {w : jW} {a b : Int32} : Wp d 170 274 ls (.int b :: .int a :: st) w Q = ((a = b → Wp d 170 1206 ls st w Q) ∧ (¬ a = b → Wp d 170 277 ls st w Q)) := Wp.if2 (c := a = b) (off := 932) e170_274 rfl rfl rfl rfl rfl
theorem e170_277 : decode (j_co 170) 277 = .ok (.iconst 0, 1) := by decide +kernel
set_option maxRecDepth 20000 in
theorem w170_277 {d : Nat} {st : List Value} {Q : Option Value × jW → Prop} {ls : jL} {w : jW} : Wp d 170 277 ls (st) w Q = Wp d 170 278 ls (.int (nI 0) :: st) w Q := Wp.alu e170_277 rfl rfl
theorem e170_278 : decode (j_co 170) 278 = .ok (.ireturn, 1) := by decide +kernel
set_option maxRecDepth 20000 in
theorem w170_278 {d : Nat} {Q : Option Value × jW → Prop} {ls : jL} {w : jW} {x : Int32} (hx : x = 0 ∨ x = 1) : Wp d 170 278 ls [.int x] w Q = Q (some (.int x), w) := Wp.ret e170_278 (by rcases hx with rfl | rfl <;> rfl)
theorem e170_279 : decode (j_co 170) 279 = .ok (.aload_n 1, 1) := by decide +kernel
set_option maxRecDepth 20000 in
theorem w170_279 {d : Nat} {st : List Value} {Q : Option Value × jW → Prop} {w : jW} {a0 a2 a3 : Option Value} {x : Nat} : Wp d 170 279 [a0, some (.ref x), a2, a3] (st) w Q = Wp d 170 280 [a0, some (.ref x), a2, a3] (.ref x :: st) w Q := Wp.loc e170_279 rfl rfl rfl
theorem e170_280 : decode (j_co 170) 280 = .ok (.aload_n 0, 1) := by decide +kernel
set_option maxRecDepth 20000 in
theorem w170_280 {d : Nat} {st : List Value} {Q : Option Value × jW → Prop} {w : jW} {a1 a2 a3 : Option Value} {x : Nat} : Wp d 170 280 [some (.ref x), a1, a2, a3] (st) w Q = Wp d 170 281 [some (.ref x), a1, a2, a3] (.ref x :: st) w Q := Wp.loc e170_280 rfl rfl rfl
theorem e170_281 : decode (j_co 170) 281 = .ok (.iload_n 3, 1) := by decide +kernel
set_option maxRecDepth 20000 in
theorem w170_281 {d : Nat} {st : List Value} {Q : Option Value × jW → Prop} {w : jW} {a0 a1 a2 : Option Value} {x : Int32} : Wp d 170 281 [a0, a1, a2, some (.int x)] (st) w Q = Wp d 170 282 [a0, a1, a2, some (.int x)] (.int x :: st) w Q := Wp.loc e170_281 rfl rfl rfl
theorem e170_282 : decode (j_co 170) 282 = .ok (.iconst 1, 1) := by decide +kernel
set_option maxRecDepth 20000 in
theorem w170_282 {d : Nat} {st : List Value} {Q : Option Value × jW → Prop} {ls : jL} {w : jW} : Wp d 170 282 ls (st) w Q = Wp d 170 283 ls (.int (nI 1) :: st) w Q := Wp.alu e170_282 rfl rfl
theorem e170_283 : decode (j_co 170) 283 = .ok (.iadd, 1) := by decide +kernel
set_option maxRecDepth 20000 in
theorem w170_283 {d : Nat} {st : List Value} {Q : Option Value × jW → Prop} {ls : jL} {w : jW} {a b : Int32} : Wp d 170 283 ls (.int b :: .int a :: st) w Q = Wp d 170 284 ls (.int (a + b) :: st) w Q := Wp.alu e170_283 rfl rfl
theorem e170_284 : decode (j_co 170) 284 = .ok (.iaload, 1) := by decide +kernel
theorem w170_284 {d k : Nat} {ls : jL} {st : List Value} {I : fI} {L : fL} {Q : Option Value × jW → Prop} {g : List Int32} (hk : k < g.length) (h31 : k < 2147483648) : Wp d 170 284 ls (.int (nI k) :: .ref 0 :: st) (f_W (g.map Value.int) I L) Q = Wp d 170 285 ls (.int (g.getD k 0) :: st) (f_W (g.map Value.int) I L) Q := Wp.iald0 e170_284 hk h31
theorem e170_285 : decode (j_co 170) 285 = .ok (.aload_n 0, 1) := by decide +kernel
set_option maxRecDepth 20000 in
theorem w170_285 {d : Nat} {st : List Value} {Q : Option Value × jW → Prop} {w : jW} {a1 a2 a3 : Option Value} {x : Nat} : Wp d 170 285 [some (.ref x), a1, a2, a3] (st) w Q = Wp d 170 286 [some (.ref x), a1, a2, a3] (.ref x :: st) w Q := Wp.loc e170_285 rfl rfl rfl
theorem e170_286 : decode (j_co 170) 286 = .ok (.iload_n 3, 1) := by decide +kernel
set_option maxRecDepth 20000 in
theorem w170_286 {d : Nat} {st : List Value} {Q : Option Value × jW → Prop} {w : jW} {a0 a1 a2 : Option Value} {x : Int32} : Wp d 170 286 [a0, a1, a2, some (.int x)] (st) w Q = Wp d 170 287 [a0, a1, a2, some (.int x)] (.int x :: st) w Q := Wp.loc e170_286 rfl rfl rfl
theorem e170_287 : decode (j_co 170) 287 = .ok (.iconst 2, 1) := by decide +kernel
set_option maxRecDepth 20000 in
theorem w170_287 {d : Nat} {st : List Value} {Q : Option Value × jW → Prop} {ls : jL} {w : jW} : Wp d 170 287 ls (st) w Q = Wp d 170 288 ls (.int (nI 2) :: st) w Q := Wp.alu e170_287 rfl rfl
theorem e170_288 : decode (j_co 170) 288 = .ok (.iadd, 1) := by decide +kernel
set_option maxRecDepth 20000 in
theorem w170_288 {d : Nat} {st : List Value} {Q : Option Value × jW → Prop} {ls : jL} {w : jW} {a b : Int32} : Wp d 170 288 ls (.int b :: .int a :: st) w Q = Wp d 170 289 ls (.int (a + b) :: st) w Q := Wp.alu e170_288 rfl rfl
theorem e170_289 : decode (j_co 170) 289 = .ok (.iaload, 1) := by decide +kernel
theorem w170_289 {d k : Nat} {ls : jL} {st : List Value} {I : fI} {L : fL} {Q : Option Value × jW → Prop} {g : List Int32} (hk : k < g.length) (h31 : k < 2147483648) : Wp d 170 289 ls (.int (nI k) :: .ref 0 :: st) (f_W (g.map Value.int) I L) Q = Wp d 170 290 ls (.int (g.getD k 0) :: st) (f_W (g.map Value.int) I L) Q := Wp.iald0 e170_289 hk h31
theorem e170_290 : decode (j_co 170) 290 = .ok (.invokevirtual 27, 3) := by decide +kernel
set_option maxRecDepth 20000 in
theorem w170_290 {d : Nat} {st : List Value} {Q : Option Value × jW → Prop} {ls : jL} {xs : List Value} {I : fI} {L : fL} {r : Nat} {x0 : Int32} {x1 : Int32} (hs : j_sumc st ≤ 8) (ht : f_tg r = 10) : Wp (d + 1) 170 290 ls (.int x1 :: .int x0 :: .ref r :: st) (f_W xs I L) Q = Wp d 20 0 [some (.ref r), some (.int x0), some (.int x1), none] [] (f_W xs I L) (fun r1 => Wp (d + 1) 170 293 ls (r1.1.toList ++ st) r1.2 Q) := Wp.cv (y' := 20) (as := [.int x0, .int x1]) e170_290 rfl (by decide) rfl (show 3 ≤ 4 by decide) (by decide) hs ht
theorem e170_293 : decode (j_co 170) 293 = .ok (.aload_n 2, 1) := by decide +kernel
set_option maxRecDepth 20000 in
theorem w170_293 {d : Nat} {st : List Value} {Q : Option Value × jW → Prop} {w : jW} {a0 a1 a3 : Option Value} {x : Nat} : Wp d 170 293 [a0, a1, some (.ref x), a3] (st) w Q = Wp d 170 294 [a0, a1, some (.ref x), a3] (.ref x :: st) w Q := Wp.loc e170_293 rfl rfl rfl
theorem e170_294 : decode (j_co 170) 294 = .ok (.aload_n 0, 1) := by decide +kernel
set_option maxRecDepth 20000 in
theorem w170_294 {d : Nat} {st : List Value} {Q : Option Value × jW → Prop} {w : jW} {a1 a2 a3 : Option Value} {x : Nat} : Wp d 170 294 [some (.ref x), a1, a2, a3] (st) w Q = Wp d 170 295 [some (.ref x), a1, a2, a3] (.ref x :: st) w Q := Wp.loc e170_294 rfl rfl rfl
theorem e170_295 : decode (j_co 170) 295 = .ok (.iload_n 3, 1) := by decide +kernel
set_option maxRecDepth 20000 in
theorem w170_295 {d : Nat} {st : List Value} {Q : Option Value × jW → Prop} {w : jW} {a0 a1 a2 : Option Value} {x : Int32} : Wp d 170 295 [a0, a1, a2, some (.int x)] (st) w Q = Wp d 170 296 [a0, a1, a2, some (.int x)] (.int x :: st) w Q := Wp.loc e170_295 rfl rfl rfl
theorem e170_296 : decode (j_co 170) 296 = .ok (.iconst 1, 1) := by decide +kernel
set_option maxRecDepth 20000 in
theorem w170_296 {d : Nat} {st : List Value} {Q : Option Value × jW → Prop} {ls : jL} {w : jW} : Wp d 170 296 ls (st) w Q = Wp d 170 297 ls (.int (nI 1) :: st) w Q := Wp.alu e170_296 rfl rfl
theorem e170_297 : decode (j_co 170) 297 = .ok (.iadd, 1) := by decide +kernel
set_option maxRecDepth 20000 in
theorem w170_297 {d : Nat} {st : List Value} {Q : Option Value × jW → Prop} {ls : jL} {w : jW} {a b : Int32} : Wp d 170 297 ls (.int b :: .int a :: st) w Q = Wp d 170 298 ls (.int (a + b) :: st) w Q := Wp.alu e170_297 rfl rfl
theorem e170_298 : decode (j_co 170) 298 = .ok (.iaload, 1) := by decide +kernel
theorem w170_298 {d k : Nat} {ls : jL} {st : List Value} {I : fI} {L : fL} {Q : Option Value × jW → Prop} {g : List Int32} (hk : k < g.length) (h31 : k < 2147483648) : Wp d 170 298 ls (.int (nI k) :: .ref 0 :: st) (f_W (g.map Value.int) I L) Q = Wp d 170 299 ls (.int (g.getD k 0) :: st) (f_W (g.map Value.int) I L) Q := Wp.iald0 e170_298 hk h31
theorem e170_299 : decode (j_co 170) 299 = .ok (.aload_n 0, 1) := by decide +kernel
set_option maxRecDepth 20000 in
theorem w170_299 {d : Nat} {st : List Value} {Q : Option Value × jW → Prop} {w : jW} {a1 a2 a3 : Option Value} {x : Nat} : Wp d 170 299 [some (.ref x), a1, a2, a3] (st) w Q = Wp d 170 300 [some (.ref x), a1, a2, a3] (.ref x :: st) w Q := Wp.loc e170_299 rfl rfl rfl
theorem e170_300 : decode (j_co 170) 300 = .ok (.iload_n 3, 1) := by decide +kernel
set_option maxRecDepth 20000 in
theorem w170_300 {d : Nat} {st : List Value} {Q : Option Value × jW → Prop} {w : jW} {a0 a1 a2 : Option Value} {x : Int32} : Wp d 170 300 [a0, a1, a2, some (.int x)] (st) w Q = Wp d 170 301 [a0, a1, a2, some (.int x)] (.int x :: st) w Q := Wp.loc e170_300 rfl rfl rfl
theorem e170_301 : decode (j_co 170) 301 = .ok (.iconst 2, 1) := by decide +kernel
set_option maxRecDepth 20000 in
theorem w170_301 {d : Nat} {st : List Value} {Q : Option Value × jW → Prop} {ls : jL} {w : jW} : Wp d 170 301 ls (st) w Q = Wp d 170 302 ls (.int (nI 2) :: st) w Q := Wp.alu e170_301 rfl rfl
theorem e170_302 : decode (j_co 170) 302 = .ok (.iadd, 1) := by decide +kernel
set_option maxRecDepth 20000 in
theorem w170_302 {d : Nat} {st : List Value} {Q : Option Value × jW → Prop} {ls : jL} {w : jW} {a b : Int32} : Wp d 170 302 ls (.int b :: .int a :: st) w Q = Wp d 170 303 ls (.int (a + b) :: st) w Q := Wp.alu e170_302 rfl rfl
theorem e170_303 : decode (j_co 170) 303 = .ok (.iaload, 1) := by decide +kernel
theorem w170_303 {d k : Nat} {ls : jL} {st : List Value} {I : fI} {L : fL} {Q : Option Value × jW → Prop} {g : List Int32} (hk : k < g.length) (h31 : k < 2147483648) : Wp d 170 303 ls (.int (nI k) :: .ref 0 :: st) (f_W (g.map Value.int) I L) Q = Wp d 170 304 ls (.int (g.getD k 0) :: st) (f_W (g.map Value.int) I L) Q := Wp.iald0 e170_303 hk h31
theorem e170_304 : decode (j_co 170) 304 = .ok (.invokevirtual 31, 3) := by decide +kernel
set_option maxRecDepth 20000 in
theorem w170_304 {d : Nat} {st : List Value} {Q : Option Value × jW → Prop} {ls : jL} {xs : List Value} {I : fI} {L : fL} {r : Nat} {x0 : Int32} {x1 : Int32} (hs : j_sumc st ≤ 8) (ht : f_tg r = 11) : Wp (d + 1) 170 304 ls (.int x1 :: .int x0 :: .ref r :: st) (f_W xs I L) Q = Wp d 119 0 [some (.ref r), some (.int x0), some (.int x1), none] [] (f_W xs I L) (fun r1 => Wp (d + 1) 170 307 ls (r1.1.toList ++ st) r1.2 Q) := Wp.cv (y' := 119) (as := [.int x0, .int x1]) e170_304 rfl (by decide) rfl (show 3 ≤ 4 by decide) (by decide) hs ht
theorem e170_307 : decode (j_co 170) 307 = .ok (.if_icmp .eq 899, 3) := by decide +kernel
set_option maxRecDepth 20000 in
theorem w170_307 {d : Nat} {st : List Value} {Q : Option Value × jW → Prop} {ls : jL} {w : jW} {a b : Int32} : Wp d 170 307 ls (.int b :: .int a :: st) w Q = ((a = b → Wp d 170 1206 ls st w Q) ∧ (¬ a = b → Wp d 170 310 ls st w Q)) := Wp.if2 (c := a = b) (off := 899) e170_307 rfl rfl rfl rfl rfl
theorem e170_310 : decode (j_co 170) 310 = .ok (.iconst 0, 1) := by decide +kernel
set_option maxRecDepth 20000 in
theorem w170_310 {d : Nat} {st : List Value} {Q : Option Value × jW → Prop} {ls : jL} {w : jW} : Wp d 170 310 ls (st) w Q = Wp d 170 311 ls (.int (nI 0) :: st) w Q := Wp.alu e170_310 rfl rfl
theorem e170_311 : decode (j_co 170) 311 = .ok (.ireturn, 1) := by decide +kernel
set_option maxRecDepth 20000 in
theorem w170_311 {d : Nat} {Q : Option Value × jW → Prop} {ls : jL} {w : jW} {x : Int32} (hx : x = 0 ∨ x = 1) : Wp d 170 311 ls [.int x] w Q = Q (some (.int x), w) := Wp.ret e170_311 (by rcases hx with rfl | rfl <;> rfl)
theorem e170_312 : decode (j_co 170) 312 = .ok (.aload_n 1, 1) := by decide +kernel
set_option maxRecDepth 20000 in
theorem w170_312 {d : Nat} {st : List Value} {Q : Option Value × jW → Prop} {w : jW} {a0 a2 a3 : Option Value} {x : Nat} : Wp d 170 312 [a0, some (.ref x), a2, a3] (st) w Q = Wp d 170 313 [a0, some (.ref x), a2, a3] (.ref x :: st) w Q := Wp.loc e170_312 rfl rfl rfl
theorem e170_313 : decode (j_co 170) 313 = .ok (.aload_n 0, 1) := by decide +kernel
set_option maxRecDepth 20000 in
theorem w170_313 {d : Nat} {st : List Value} {Q : Option Value × jW → Prop} {w : jW} {a1 a2 a3 : Option Value} {x : Nat} : Wp d 170 313 [some (.ref x), a1, a2, a3] (st) w Q = Wp d 170 314 [some (.ref x), a1, a2, a3] (.ref x :: st) w Q := Wp.loc e170_313 rfl rfl rfl
theorem e170_314 : decode (j_co 170) 314 = .ok (.iload_n 3, 1) := by decide +kernel
set_option maxRecDepth 20000 in
theorem w170_314 {d : Nat} {st : List Value} {Q : Option Value × jW → Prop} {w : jW} {a0 a1 a2 : Option Value} {x : Int32} : Wp d 170 314 [a0, a1, a2, some (.int x)] (st) w Q = Wp d 170 315 [a0, a1, a2, some (.int x)] (.int x :: st) w Q := Wp.loc e170_314 rfl rfl rfl
theorem e170_315 : decode (j_co 170) 315 = .ok (.iconst 1, 1) := by decide +kernel
set_option maxRecDepth 20000 in
theorem w170_315 {d : Nat} {st : List Value} {Q : Option Value × jW → Prop} {ls : jL} {w : jW} : Wp d 170 315 ls (st) w Q = Wp d 170 316 ls (.int (nI 1) :: st) w Q := Wp.alu e170_315 rfl rfl
theorem e170_316 : decode (j_co 170) 316 = .ok (.iadd, 1) := by decide +kernel
set_option maxRecDepth 20000 in
theorem w170_316 {d : Nat} {st : List Value} {Q : Option Value × jW → Prop} {ls : jL} {w : jW} {a b : Int32} : Wp d 170 316 ls (.int b :: .int a :: st) w Q = Wp d 170 317 ls (.int (a + b) :: st) w Q := Wp.alu e170_316 rfl rfl
theorem e170_317 : decode (j_co 170) 317 = .ok (.iaload, 1) := by decide +kernel
theorem w170_317 {d k : Nat} {ls : jL} {st : List Value} {I : fI} {L : fL} {Q : Option Value × jW → Prop} {g : List Int32} (hk : k < g.length) (h31 : k < 2147483648) : Wp d 170 317 ls (.int (nI k) :: .ref 0 :: st) (f_W (g.map Value.int) I L) Q = Wp d 170 318 ls (.int (g.getD k 0) :: st) (f_W (g.map Value.int) I L) Q := Wp.iald0 e170_317 hk h31
theorem e170_318 : decode (j_co 170) 318 = .ok (.aload_n 0, 1) := by decide +kernel
set_option maxRecDepth 20000 in
theorem w170_318 {d : Nat} {st : List Value} {Q : Option Value × jW → Prop} {w : jW} {a1 a2 a3 : Option Value} {x : Nat} : Wp d 170 318 [some (.ref x), a1, a2, a3] (st) w Q = Wp d 170 319 [some (.ref x), a1, a2, a3] (.ref x :: st) w Q := Wp.loc e170_318 rfl rfl rfl
theorem e170_319 : decode (j_co 170) 319 = .ok (.iload_n 3, 1) := by decide +kernel
set_option maxRecDepth 20000 in
theorem w170_319 {d : Nat} {st : List Value} {Q : Option Value × jW → Prop} {w : jW} {a0 a1 a2 : Option Value} {x : Int32} : Wp d 170 319 [a0, a1, a2, some (.int x)] (st) w Q = Wp d 170 320 [a0, a1, a2, some (.int x)] (.int x :: st) w Q := Wp.loc e170_319 rfl rfl rfl
theorem e170_320 : decode (j_co 170) 320 = .ok (.iconst 2, 1) := by decide +kernel
set_option maxRecDepth 20000 in
theorem w170_320 {d : Nat} {st : List Value} {Q : Option Value × jW → Prop} {ls : jL} {w : jW} : Wp d 170 320 ls (st) w Q = Wp d 170 321 ls (.int (nI 2) :: st) w Q := Wp.alu e170_320 rfl rfl
theorem e170_321 : decode (j_co 170) 321 = .ok (.iadd, 1) := by decide +kernel
set_option maxRecDepth 20000 in
theorem w170_321 {d : Nat} {st : List Value} {Q : Option Value × jW → Prop} {ls : jL} {w : jW} {a b : Int32} : Wp d 170 321 ls (.int b :: .int a :: st) w Q = Wp d 170 322 ls (.int (a + b) :: st) w Q := Wp.alu e170_321 rfl rfl
theorem e170_322 : decode (j_co 170) 322 = .ok (.iaload, 1) := by decide +kernel
theorem w170_322 {d k : Nat} {ls : jL} {st : List Value} {I : fI} {L : fL} {Q : Option Value × jW → Prop} {g : List Int32} (hk : k < g.length) (h31 : k < 2147483648) : Wp d 170 322 ls (.int (nI k) :: .ref 0 :: st) (f_W (g.map Value.int) I L) Q = Wp d 170 323 ls (.int (g.getD k 0) :: st) (f_W (g.map Value.int) I L) Q := Wp.iald0 e170_322 hk h31
theorem e170_323 : decode (j_co 170) 323 = .ok (.aload_n 0, 1) := by decide +kernel
set_option maxRecDepth 20000 in
theorem w170_323 {d : Nat} {st : List Value} {Q : Option Value × jW → Prop} {w : jW} {a1 a2 a3 : Option Value} {x : Nat} : Wp d 170 323 [some (.ref x), a1, a2, a3] (st) w Q = Wp d 170 324 [some (.ref x), a1, a2, a3] (.ref x :: st) w Q := Wp.loc e170_323 rfl rfl rfl
theorem e170_324 : decode (j_co 170) 324 = .ok (.iload_n 3, 1) := by decide +kernel
set_option maxRecDepth 20000 in
theorem w170_324 {d : Nat} {st : List Value} {Q : Option Value × jW → Prop} {w : jW} {a0 a1 a2 : Option Value} {x : Int32} : Wp d 170 324 [a0, a1, a2, some (.int x)] (st) w Q = Wp d 170 325 [a0, a1, a2, some (.int x)] (.int x :: st) w Q := Wp.loc e170_324 rfl rfl rfl
theorem e170_325 : decode (j_co 170) 325 = .ok (.iconst 3, 1) := by decide +kernel
set_option maxRecDepth 20000 in
theorem w170_325 {d : Nat} {st : List Value} {Q : Option Value × jW → Prop} {ls : jL} {w : jW} : Wp d 170 325 ls (st) w Q = Wp d 170 326 ls (.int (nI 3) :: st) w Q := Wp.alu e170_325 rfl rfl
theorem e170_326 : decode (j_co 170) 326 = .ok (.iadd, 1) := by decide +kernel
set_option maxRecDepth 20000 in
theorem w170_326 {d : Nat} {st : List Value} {Q : Option Value × jW → Prop} {ls : jL} {w : jW} {a b : Int32} : Wp d 170 326 ls (.int b :: .int a :: st) w Q = Wp d 170 327 ls (.int (a + b) :: st) w Q := Wp.alu e170_326 rfl rfl
theorem e170_327 : decode (j_co 170) 327 = .ok (.iaload, 1) := by decide +kernel
theorem w170_327 {d k : Nat} {ls : jL} {st : List Value} {I : fI} {L : fL} {Q : Option Value × jW → Prop} {g : List Int32} (hk : k < g.length) (h31 : k < 2147483648) : Wp d 170 327 ls (.int (nI k) :: .ref 0 :: st) (f_W (g.map Value.int) I L) Q = Wp d 170 328 ls (.int (g.getD k 0) :: st) (f_W (g.map Value.int) I L) Q := Wp.iald0 e170_327 hk h31
theorem e170_328 : decode (j_co 170) 328 = .ok (.aload_n 0, 1) := by decide +kernel
set_option maxRecDepth 20000 in
theorem w170_328 {d : Nat} {st : List Value} {Q : Option Value × jW → Prop} {w : jW} {a1 a2 a3 : Option Value} {x : Nat} : Wp d 170 328 [some (.ref x), a1, a2, a3] (st) w Q = Wp d 170 329 [some (.ref x), a1, a2, a3] (.ref x :: st) w Q := Wp.loc e170_328 rfl rfl rfl
theorem e170_329 : decode (j_co 170) 329 = .ok (.iload_n 3, 1) := by decide +kernel
set_option maxRecDepth 20000 in
theorem w170_329 {d : Nat} {st : List Value} {Q : Option Value × jW → Prop} {w : jW} {a0 a1 a2 : Option Value} {x : Int32} : Wp d 170 329 [a0, a1, a2, some (.int x)] (st) w Q = Wp d 170 330 [a0, a1, a2, some (.int x)] (.int x :: st) w Q := Wp.loc e170_329 rfl rfl rfl
theorem e170_330 : decode (j_co 170) 330 = .ok (.iconst 4, 1) := by decide +kernel
set_option maxRecDepth 20000 in
theorem w170_330 {d : Nat} {st : List Value} {Q : Option Value × jW → Prop} {ls : jL} {w : jW} : Wp d 170 330 ls (st) w Q = Wp d 170 331 ls (.int (nI 4) :: st) w Q := Wp.alu e170_330 rfl rfl
theorem e170_331 : decode (j_co 170) 331 = .ok (.iadd, 1) := by decide +kernel
set_option maxRecDepth 20000 in
theorem w170_331 {d : Nat} {st : List Value} {Q : Option Value × jW → Prop} {ls : jL} {w : jW} {a b : Int32} : Wp d 170 331 ls (.int b :: .int a :: st) w Q = Wp d 170 332 ls (.int (a + b) :: st) w Q := Wp.alu e170_331 rfl rfl
theorem e170_332 : decode (j_co 170) 332 = .ok (.iaload, 1) := by decide +kernel
theorem w170_332 {d k : Nat} {ls : jL} {st : List Value} {I : fI} {L : fL} {Q : Option Value × jW → Prop} {g : List Int32} (hk : k < g.length) (h31 : k < 2147483648) : Wp d 170 332 ls (.int (nI k) :: .ref 0 :: st) (f_W (g.map Value.int) I L) Q = Wp d 170 333 ls (.int (g.getD k 0) :: st) (f_W (g.map Value.int) I L) Q := Wp.iald0 e170_332 hk h31
theorem e170_333 : decode (j_co 170) 333 = .ok (.invokevirtual 32, 3) := by decide +kernel
set_option maxRecDepth 20000 in
theorem w170_333 {d : Nat} {st : List Value} {Q : Option Value × jW → Prop} {ls : jL} {xs : List Value} {I : fI} {L : fL} {r : Nat} {x0 : Int32} {x1 : Int32} {x2 : Int32} {x3 : Int32} (hs : j_sumc st ≤ 8) (ht : f_tg r = 10) : Wp (d + 1) 170 333 ls (.int x3 :: .int x2 :: .int x1 :: .int x0 :: .ref r :: st) (f_W xs I L) Q = Wp d 21 0 [some (.ref r), some (.int x0), some (.int x1), some (.int x2), some (.int x3)] [] (f_W xs I L) (fun r1 => Wp (d + 1) 170 336 ls (r1.1.toList ++ st) r1.2 Q) := Wp.cv (y' := 21) (as := [.int x0, .int x1, .int x2, .int x3]) e170_333 rfl (by decide) rfl (show 5 ≤ 5 by decide) (by decide) hs ht
theorem e170_336 : decode (j_co 170) 336 = .ok (.aload_n 2, 1) := by decide +kernel
set_option maxRecDepth 20000 in
theorem w170_336 {d : Nat} {st : List Value} {Q : Option Value × jW → Prop} {w : jW} {a0 a1 a3 : Option Value} {x : Nat} : Wp d 170 336 [a0, a1, some (.ref x), a3] (st) w Q = Wp d 170 337 [a0, a1, some (.ref x), a3] (.ref x :: st) w Q := Wp.loc e170_336 rfl rfl rfl
theorem e170_337 : decode (j_co 170) 337 = .ok (.aload_n 0, 1) := by decide +kernel
set_option maxRecDepth 20000 in
theorem w170_337 {d : Nat} {st : List Value} {Q : Option Value × jW → Prop} {w : jW} {a1 a2 a3 : Option Value} {x : Nat} : Wp d 170 337 [some (.ref x), a1, a2, a3] (st) w Q = Wp d 170 338 [some (.ref x), a1, a2, a3] (.ref x :: st) w Q := Wp.loc e170_337 rfl rfl rfl
theorem e170_338 : decode (j_co 170) 338 = .ok (.iload_n 3, 1) := by decide +kernel
set_option maxRecDepth 20000 in
theorem w170_338 {d : Nat} {st : List Value} {Q : Option Value × jW → Prop} {w : jW} {a0 a1 a2 : Option Value} {x : Int32} : Wp d 170 338 [a0, a1, a2, some (.int x)] (st) w Q = Wp d 170 339 [a0, a1, a2, some (.int x)] (.int x :: st) w Q := Wp.loc e170_338 rfl rfl rfl
theorem e170_339 : decode (j_co 170) 339 = .ok (.iconst 1, 1) := by decide +kernel
set_option maxRecDepth 20000 in
theorem w170_339 {d : Nat} {st : List Value} {Q : Option Value × jW → Prop} {ls : jL} {w : jW} : Wp d 170 339 ls (st) w Q = Wp d 170 340 ls (.int (nI 1) :: st) w Q := Wp.alu e170_339 rfl rfl
theorem e170_340 : decode (j_co 170) 340 = .ok (.iadd, 1) := by decide +kernel
set_option maxRecDepth 20000 in
theorem w170_340 {d : Nat} {st : List Value} {Q : Option Value × jW → Prop} {ls : jL} {w : jW} {a b : Int32} : Wp d 170 340 ls (.int b :: .int a :: st) w Q = Wp d 170 341 ls (.int (a + b) :: st) w Q := Wp.alu e170_340 rfl rfl
theorem e170_341 : decode (j_co 170) 341 = .ok (.iaload, 1) := by decide +kernel
theorem w170_341 {d k : Nat} {ls : jL} {st : List Value} {I : fI} {L : fL} {Q : Option Value × jW → Prop} {g : List Int32} (hk : k < g.length) (h31 : k < 2147483648) : Wp d 170 341 ls (.int (nI k) :: .ref 0 :: st) (f_W (g.map Value.int) I L) Q = Wp d 170 342 ls (.int (g.getD k 0) :: st) (f_W (g.map Value.int) I L) Q := Wp.iald0 e170_341 hk h31
theorem e170_342 : decode (j_co 170) 342 = .ok (.aload_n 0, 1) := by decide +kernel
set_option maxRecDepth 20000 in
theorem w170_342 {d : Nat} {st : List Value} {Q : Option Value × jW → Prop} {w : jW} {a1 a2 a3 : Option Value} {x : Nat} : Wp d 170 342 [some (.ref x), a1, a2, a3] (st) w Q = Wp d 170 343 [some (.ref x), a1, a2, a3] (.ref x :: st) w Q := Wp.loc e170_342 rfl rfl rfl
theorem e170_343 : decode (j_co 170) 343 = .ok (.iload_n 3, 1) := by decide +kernel
set_option maxRecDepth 20000 in
theorem w170_343 {d : Nat} {st : List Value} {Q : Option Value × jW → Prop} {w : jW} {a0 a1 a2 : Option Value} {x : Int32} : Wp d 170 343 [a0, a1, a2, some (.int x)] (st) w Q = Wp d 170 344 [a0, a1, a2, some (.int x)] (.int x :: st) w Q := Wp.loc e170_343 rfl rfl rfl
theorem e170_344 : decode (j_co 170) 344 = .ok (.iconst 2, 1) := by decide +kernel
set_option maxRecDepth 20000 in
theorem w170_344 {d : Nat} {st : List Value} {Q : Option Value × jW → Prop} {ls : jL} {w : jW} : Wp d 170 344 ls (st) w Q = Wp d 170 345 ls (.int (nI 2) :: st) w Q := Wp.alu e170_344 rfl rfl
theorem e170_345 : decode (j_co 170) 345 = .ok (.iadd, 1) := by decide +kernel
set_option maxRecDepth 20000 in
theorem w170_345 {d : Nat} {st : List Value} {Q : Option Value × jW → Prop} {ls : jL} {w : jW} {a b : Int32} : Wp d 170 345 ls (.int b :: .int a :: st) w Q = Wp d 170 346 ls (.int (a + b) :: st) w Q := Wp.alu e170_345 rfl rfl
theorem e170_346 : decode (j_co 170) 346 = .ok (.iaload, 1) := by decide +kernel
theorem w170_346 {d k : Nat} {ls : jL} {st : List Value} {I : fI} {L : fL} {Q : Option Value × jW → Prop} {g : List Int32} (hk : k < g.length) (h31 : k < 2147483648) : Wp d 170 346 ls (.int (nI k) :: .ref 0 :: st) (f_W (g.map Value.int) I L) Q = Wp d 170 347 ls (.int (g.getD k 0) :: st) (f_W (g.map Value.int) I L) Q := Wp.iald0 e170_346 hk h31
theorem e170_347 : decode (j_co 170) 347 = .ok (.aload_n 0, 1) := by decide +kernel
set_option maxRecDepth 20000 in
theorem w170_347 {d : Nat} {st : List Value} {Q : Option Value × jW → Prop} {w : jW} {a1 a2 a3 : Option Value} {x : Nat} : Wp d 170 347 [some (.ref x), a1, a2, a3] (st) w Q = Wp d 170 348 [some (.ref x), a1, a2, a3] (.ref x :: st) w Q := Wp.loc e170_347 rfl rfl rfl
theorem e170_348 : decode (j_co 170) 348 = .ok (.iload_n 3, 1) := by decide +kernel
set_option maxRecDepth 20000 in
theorem w170_348 {d : Nat} {st : List Value} {Q : Option Value × jW → Prop} {w : jW} {a0 a1 a2 : Option Value} {x : Int32} : Wp d 170 348 [a0, a1, a2, some (.int x)] (st) w Q = Wp d 170 349 [a0, a1, a2, some (.int x)] (.int x :: st) w Q := Wp.loc e170_348 rfl rfl rfl
theorem e170_349 : decode (j_co 170) 349 = .ok (.iconst 3, 1) := by decide +kernel
set_option maxRecDepth 20000 in
theorem w170_349 {d : Nat} {st : List Value} {Q : Option Value × jW → Prop} {ls : jL} {w : jW} : Wp d 170 349 ls (st) w Q = Wp d 170 350 ls (.int (nI 3) :: st) w Q := Wp.alu e170_349 rfl rfl
theorem e170_350 : decode (j_co 170) 350 = .ok (.iadd, 1) := by decide +kernel
set_option maxRecDepth 20000 in
theorem w170_350 {d : Nat} {st : List Value} {Q : Option Value × jW → Prop} {ls : jL} {w : jW} {a b : Int32} : Wp d 170 350 ls (.int b :: .int a :: st) w Q = Wp d 170 351 ls (.int (a + b) :: st) w Q := Wp.alu e170_350 rfl rfl
theorem e170_351 : decode (j_co 170) 351 = .ok (.iaload, 1) := by decide +kernel
theorem w170_351 {d k : Nat} {ls : jL} {st : List Value} {I : fI} {L : fL} {Q : Option Value × jW → Prop} {g : List Int32} (hk : k < g.length) (h31 : k < 2147483648) : Wp d 170 351 ls (.int (nI k) :: .ref 0 :: st) (f_W (g.map Value.int) I L) Q = Wp d 170 352 ls (.int (g.getD k 0) :: st) (f_W (g.map Value.int) I L) Q := Wp.iald0 e170_351 hk h31
theorem e170_352 : decode (j_co 170) 352 = .ok (.aload_n 0, 1) := by decide +kernel
set_option maxRecDepth 20000 in
theorem w170_352 {d : Nat} {st : List Value} {Q : Option Value × jW → Prop} {w : jW} {a1 a2 a3 : Option Value} {x : Nat} : Wp d 170 352 [some (.ref x), a1, a2, a3] (st) w Q = Wp d 170 353 [some (.ref x), a1, a2, a3] (.ref x :: st) w Q := Wp.loc e170_352 rfl rfl rfl
theorem e170_353 : decode (j_co 170) 353 = .ok (.iload_n 3, 1) := by decide +kernel
set_option maxRecDepth 20000 in
theorem w170_353 {d : Nat} {st : List Value} {Q : Option Value × jW → Prop} {w : jW} {a0 a1 a2 : Option Value} {x : Int32} : Wp d 170 353 [a0, a1, a2, some (.int x)] (st) w Q = Wp d 170 354 [a0, a1, a2, some (.int x)] (.int x :: st) w Q := Wp.loc e170_353 rfl rfl rfl
theorem e170_354 : decode (j_co 170) 354 = .ok (.iconst 4, 1) := by decide +kernel
set_option maxRecDepth 20000 in
theorem w170_354 {d : Nat} {st : List Value} {Q : Option Value × jW → Prop} {ls : jL} {w : jW} : Wp d 170 354 ls (st) w Q = Wp d 170 355 ls (.int (nI 4) :: st) w Q := Wp.alu e170_354 rfl rfl
theorem e170_355 : decode (j_co 170) 355 = .ok (.iadd, 1) := by decide +kernel
set_option maxRecDepth 20000 in
theorem w170_355 {d : Nat} {st : List Value} {Q : Option Value × jW → Prop} {ls : jL} {w : jW} {a b : Int32} : Wp d 170 355 ls (.int b :: .int a :: st) w Q = Wp d 170 356 ls (.int (a + b) :: st) w Q := Wp.alu e170_355 rfl rfl
theorem e170_356 : decode (j_co 170) 356 = .ok (.iaload, 1) := by decide +kernel
theorem w170_356 {d k : Nat} {ls : jL} {st : List Value} {I : fI} {L : fL} {Q : Option Value × jW → Prop} {g : List Int32} (hk : k < g.length) (h31 : k < 2147483648) : Wp d 170 356 ls (.int (nI k) :: .ref 0 :: st) (f_W (g.map Value.int) I L) Q = Wp d 170 357 ls (.int (g.getD k 0) :: st) (f_W (g.map Value.int) I L) Q := Wp.iald0 e170_356 hk h31
theorem e170_357 : decode (j_co 170) 357 = .ok (.invokevirtual 35, 3) := by decide +kernel
set_option maxRecDepth 20000 in
theorem w170_357 {d : Nat} {st : List Value} {Q : Option Value × jW → Prop} {ls : jL} {xs : List Value} {I : fI} {L : fL} {r : Nat} {x0 : Int32} {x1 : Int32} {x2 : Int32} {x3 : Int32} (hs : j_sumc st ≤ 8) (ht : f_tg r = 11) : Wp (d + 1) 170 357 ls (.int x3 :: .int x2 :: .int x1 :: .int x0 :: .ref r :: st) (f_W xs I L) Q = Wp d 120 0 [some (.ref r), some (.int x0), some (.int x1), some (.int x2), some (.int x3)] [] (f_W xs I L) (fun r1 => Wp (d + 1) 170 360 ls (r1.1.toList ++ st) r1.2 Q) := Wp.cv (y' := 120) (as := [.int x0, .int x1, .int x2, .int x3]) e170_357 rfl (by decide) rfl (show 5 ≤ 5 by decide) (by decide) hs ht
theorem e170_360 : decode (j_co 170) 360 = .ok (.if_icmp .eq 846, 3) := by decide +kernel
set_option maxRecDepth 20000 in
theorem w170_360 {d : Nat} {st : List Value} {Q : Option Value × jW → Prop} {ls : jL} {w : jW} {a b : Int32} : Wp d 170 360 ls (.int b :: .int a :: st) w Q = ((a = b → Wp d 170 1206 ls st w Q) ∧ (¬ a = b → Wp d 170 363 ls st w Q)) := Wp.if2 (c := a = b) (off := 846) e170_360 rfl rfl rfl rfl rfl
theorem e170_363 : decode (j_co 170) 363 = .ok (.iconst 0, 1) := by decide +kernel
set_option maxRecDepth 20000 in
theorem w170_363 {d : Nat} {st : List Value} {Q : Option Value × jW → Prop} {ls : jL} {w : jW} : Wp d 170 363 ls (st) w Q = Wp d 170 364 ls (.int (nI 0) :: st) w Q := Wp.alu e170_363 rfl rfl
theorem e170_364 : decode (j_co 170) 364 = .ok (.ireturn, 1) := by decide +kernel
set_option maxRecDepth 20000 in
theorem w170_364 {d : Nat} {Q : Option Value × jW → Prop} {ls : jL} {w : jW} {x : Int32} (hx : x = 0 ∨ x = 1) : Wp d 170 364 ls [.int x] w Q = Q (some (.int x), w) := Wp.ret e170_364 (by rcases hx with rfl | rfl <;> rfl)
theorem e170_365 : decode (j_co 170) 365 = .ok (.aload_n 1, 1) := by decide +kernel
set_option maxRecDepth 20000 in
theorem w170_365 {d : Nat} {st : List Value} {Q : Option Value × jW → Prop} {w : jW} {a0 a2 a3 : Option Value} {x : Nat} : Wp d 170 365 [a0, some (.ref x), a2, a3] (st) w Q = Wp d 170 366 [a0, some (.ref x), a2, a3] (.ref x :: st) w Q := Wp.loc e170_365 rfl rfl rfl
theorem e170_366 : decode (j_co 170) 366 = .ok (.aload_n 0, 1) := by decide +kernel
set_option maxRecDepth 20000 in
theorem w170_366 {d : Nat} {st : List Value} {Q : Option Value × jW → Prop} {w : jW} {a1 a2 a3 : Option Value} {x : Nat} : Wp d 170 366 [some (.ref x), a1, a2, a3] (st) w Q = Wp d 170 367 [some (.ref x), a1, a2, a3] (.ref x :: st) w Q := Wp.loc e170_366 rfl rfl rfl
theorem e170_367 : decode (j_co 170) 367 = .ok (.iload_n 3, 1) := by decide +kernel
set_option maxRecDepth 20000 in
theorem w170_367 {d : Nat} {st : List Value} {Q : Option Value × jW → Prop} {w : jW} {a0 a1 a2 : Option Value} {x : Int32} : Wp d 170 367 [a0, a1, a2, some (.int x)] (st) w Q = Wp d 170 368 [a0, a1, a2, some (.int x)] (.int x :: st) w Q := Wp.loc e170_367 rfl rfl rfl
theorem e170_368 : decode (j_co 170) 368 = .ok (.iconst 1, 1) := by decide +kernel
set_option maxRecDepth 20000 in
theorem w170_368 {d : Nat} {st : List Value} {Q : Option Value × jW → Prop} {ls : jL} {w : jW} : Wp d 170 368 ls (st) w Q = Wp d 170 369 ls (.int (nI 1) :: st) w Q := Wp.alu e170_368 rfl rfl
theorem e170_369 : decode (j_co 170) 369 = .ok (.iadd, 1) := by decide +kernel
set_option maxRecDepth 20000 in
theorem w170_369 {d : Nat} {st : List Value} {Q : Option Value × jW → Prop} {ls : jL} {w : jW} {a b : Int32} : Wp d 170 369 ls (.int b :: .int a :: st) w Q = Wp d 170 370 ls (.int (a + b) :: st) w Q := Wp.alu e170_369 rfl rfl
theorem e170_370 : decode (j_co 170) 370 = .ok (.iaload, 1) := by decide +kernel
theorem w170_370 {d k : Nat} {ls : jL} {st : List Value} {I : fI} {L : fL} {Q : Option Value × jW → Prop} {g : List Int32} (hk : k < g.length) (h31 : k < 2147483648) : Wp d 170 370 ls (.int (nI k) :: .ref 0 :: st) (f_W (g.map Value.int) I L) Q = Wp d 170 371 ls (.int (g.getD k 0) :: st) (f_W (g.map Value.int) I L) Q := Wp.iald0 e170_370 hk h31
theorem e170_371 : decode (j_co 170) 371 = .ok (.aload_n 0, 1) := by decide +kernel
set_option maxRecDepth 20000 in
theorem w170_371 {d : Nat} {st : List Value} {Q : Option Value × jW → Prop} {w : jW} {a1 a2 a3 : Option Value} {x : Nat} : Wp d 170 371 [some (.ref x), a1, a2, a3] (st) w Q = Wp d 170 372 [some (.ref x), a1, a2, a3] (.ref x :: st) w Q := Wp.loc e170_371 rfl rfl rfl
theorem e170_372 : decode (j_co 170) 372 = .ok (.iload_n 3, 1) := by decide +kernel
set_option maxRecDepth 20000 in
theorem w170_372 {d : Nat} {st : List Value} {Q : Option Value × jW → Prop} {w : jW} {a0 a1 a2 : Option Value} {x : Int32} : Wp d 170 372 [a0, a1, a2, some (.int x)] (st) w Q = Wp d 170 373 [a0, a1, a2, some (.int x)] (.int x :: st) w Q := Wp.loc e170_372 rfl rfl rfl
theorem e170_373 : decode (j_co 170) 373 = .ok (.iconst 2, 1) := by decide +kernel
set_option maxRecDepth 20000 in
theorem w170_373 {d : Nat} {st : List Value} {Q : Option Value × jW → Prop} {ls : jL} {w : jW} : Wp d 170 373 ls (st) w Q = Wp d 170 374 ls (.int (nI 2) :: st) w Q := Wp.alu e170_373 rfl rfl
theorem e170_374 : decode (j_co 170) 374 = .ok (.iadd, 1) := by decide +kernel
set_option maxRecDepth 20000 in
theorem w170_374 {d : Nat} {st : List Value} {Q : Option Value × jW → Prop} {ls : jL} {w : jW} {a b : Int32} : Wp d 170 374 ls (.int b :: .int a :: st) w Q = Wp d 170 375 ls (.int (a + b) :: st) w Q := Wp.alu e170_374 rfl rfl
theorem e170_375 : decode (j_co 170) 375 = .ok (.iaload, 1) := by decide +kernel
theorem w170_375 {d k : Nat} {ls : jL} {st : List Value} {I : fI} {L : fL} {Q : Option Value × jW → Prop} {g : List Int32} (hk : k < g.length) (h31 : k < 2147483648) : Wp d 170 375 ls (.int (nI k) :: .ref 0 :: st) (f_W (g.map Value.int) I L) Q = Wp d 170 376 ls (.int (g.getD k 0) :: st) (f_W (g.map Value.int) I L) Q := Wp.iald0 e170_375 hk h31
theorem e170_376 : decode (j_co 170) 376 = .ok (.aload_n 0, 1) := by decide +kernel
set_option maxRecDepth 20000 in
theorem w170_376 {d : Nat} {st : List Value} {Q : Option Value × jW → Prop} {w : jW} {a1 a2 a3 : Option Value} {x : Nat} : Wp d 170 376 [some (.ref x), a1, a2, a3] (st) w Q = Wp d 170 377 [some (.ref x), a1, a2, a3] (.ref x :: st) w Q := Wp.loc e170_376 rfl rfl rfl
theorem e170_377 : decode (j_co 170) 377 = .ok (.iload_n 3, 1) := by decide +kernel
set_option maxRecDepth 20000 in
theorem w170_377 {d : Nat} {st : List Value} {Q : Option Value × jW → Prop} {w : jW} {a0 a1 a2 : Option Value} {x : Int32} : Wp d 170 377 [a0, a1, a2, some (.int x)] (st) w Q = Wp d 170 378 [a0, a1, a2, some (.int x)] (.int x :: st) w Q := Wp.loc e170_377 rfl rfl rfl
theorem e170_378 : decode (j_co 170) 378 = .ok (.iconst 3, 1) := by decide +kernel
set_option maxRecDepth 20000 in
theorem w170_378 {d : Nat} {st : List Value} {Q : Option Value × jW → Prop} {ls : jL} {w : jW} : Wp d 170 378 ls (st) w Q = Wp d 170 379 ls (.int (nI 3) :: st) w Q := Wp.alu e170_378 rfl rfl
theorem e170_379 : decode (j_co 170) 379 = .ok (.iadd, 1) := by decide +kernel
set_option maxRecDepth 20000 in
theorem w170_379 {d : Nat} {st : List Value} {Q : Option Value × jW → Prop} {ls : jL} {w : jW} {a b : Int32} : Wp d 170 379 ls (.int b :: .int a :: st) w Q = Wp d 170 380 ls (.int (a + b) :: st) w Q := Wp.alu e170_379 rfl rfl
theorem e170_380 : decode (j_co 170) 380 = .ok (.iaload, 1) := by decide +kernel
theorem w170_380 {d k : Nat} {ls : jL} {st : List Value} {I : fI} {L : fL} {Q : Option Value × jW → Prop} {g : List Int32} (hk : k < g.length) (h31 : k < 2147483648) : Wp d 170 380 ls (.int (nI k) :: .ref 0 :: st) (f_W (g.map Value.int) I L) Q = Wp d 170 381 ls (.int (g.getD k 0) :: st) (f_W (g.map Value.int) I L) Q := Wp.iald0 e170_380 hk h31
theorem e170_381 : decode (j_co 170) 381 = .ok (.ifCond .eq 7, 3) := by decide +kernel
set_option maxRecDepth 20000 in
theorem w170_381 {d : Nat} {st : List Value} {Q : Option Value × jW → Prop} {ls : jL} {w : jW} {a : Int32} : Wp d 170 381 ls (.int a :: st) w Q = ((a = nI 0 → Wp d 170 388 ls st w Q) ∧ (¬ a = nI 0 → Wp d 170 384 ls st w Q)) := Wp.if2 (c := a = nI 0) (off := 7) e170_381 rfl rfl rfl rfl rfl
theorem e170_384 : decode (j_co 170) 384 = .ok (.iconst 1, 1) := by decide +kernel
set_option maxRecDepth 20000 in
theorem w170_384 {d : Nat} {st : List Value} {Q : Option Value × jW → Prop} {ls : jL} {w : jW} : Wp d 170 384 ls (st) w Q = Wp d 170 385 ls (.int (nI 1) :: st) w Q := Wp.alu e170_384 rfl rfl
theorem e170_385 : decode (j_co 170) 385 = .ok (.goto 4, 3) := by decide +kernel
set_option maxRecDepth 20000 in
theorem w170_385 {d : Nat} {st : List Value} {Q : Option Value × jW → Prop} {ls : jL} {w : jW} : Wp d 170 385 ls (st) w Q = Wp d 170 389 ls (st) w Q := Wp.br e170_385 (Or.inl rfl) rfl rfl rfl rfl
theorem e170_388 : decode (j_co 170) 388 = .ok (.iconst 0, 1) := by decide +kernel
set_option maxRecDepth 20000 in
theorem w170_388 {d : Nat} {st : List Value} {Q : Option Value × jW → Prop} {ls : jL} {w : jW} : Wp d 170 388 ls (st) w Q = Wp d 170 389 ls (.int (nI 0) :: st) w Q := Wp.alu e170_388 rfl rfl
theorem e170_389 : decode (j_co 170) 389 = .ok (.aload_n 0, 1) := by decide +kernel
set_option maxRecDepth 20000 in
theorem w170_389 {d : Nat} {st : List Value} {Q : Option Value × jW → Prop} {w : jW} {a1 a2 a3 : Option Value} {x : Nat} : Wp d 170 389 [some (.ref x), a1, a2, a3] (st) w Q = Wp d 170 390 [some (.ref x), a1, a2, a3] (.ref x :: st) w Q := Wp.loc e170_389 rfl rfl rfl
theorem e170_390 : decode (j_co 170) 390 = .ok (.iload_n 3, 1) := by decide +kernel
set_option maxRecDepth 20000 in
theorem w170_390 {d : Nat} {st : List Value} {Q : Option Value × jW → Prop} {w : jW} {a0 a1 a2 : Option Value} {x : Int32} : Wp d 170 390 [a0, a1, a2, some (.int x)] (st) w Q = Wp d 170 391 [a0, a1, a2, some (.int x)] (.int x :: st) w Q := Wp.loc e170_390 rfl rfl rfl
theorem e170_391 : decode (j_co 170) 391 = .ok (.iconst 4, 1) := by decide +kernel
set_option maxRecDepth 20000 in
theorem w170_391 {d : Nat} {st : List Value} {Q : Option Value × jW → Prop} {ls : jL} {w : jW} : Wp d 170 391 ls (st) w Q = Wp d 170 392 ls (.int (nI 4) :: st) w Q := Wp.alu e170_391 rfl rfl
theorem e170_392 : decode (j_co 170) 392 = .ok (.iadd, 1) := by decide +kernel
set_option maxRecDepth 20000 in
theorem w170_392 {d : Nat} {st : List Value} {Q : Option Value × jW → Prop} {ls : jL} {w : jW} {a b : Int32} : Wp d 170 392 ls (.int b :: .int a :: st) w Q = Wp d 170 393 ls (.int (a + b) :: st) w Q := Wp.alu e170_392 rfl rfl
theorem e170_393 : decode (j_co 170) 393 = .ok (.iaload, 1) := by decide +kernel
theorem w170_393 {d k : Nat} {ls : jL} {st : List Value} {I : fI} {L : fL} {Q : Option Value × jW → Prop} {g : List Int32} (hk : k < g.length) (h31 : k < 2147483648) : Wp d 170 393 ls (.int (nI k) :: .ref 0 :: st) (f_W (g.map Value.int) I L) Q = Wp d 170 394 ls (.int (g.getD k 0) :: st) (f_W (g.map Value.int) I L) Q := Wp.iald0 e170_393 hk h31
theorem e170_394 : decode (j_co 170) 394 = .ok (.aload_n 0, 1) := by decide +kernel
set_option maxRecDepth 20000 in
theorem w170_394 {d : Nat} {st : List Value} {Q : Option Value × jW → Prop} {w : jW} {a1 a2 a3 : Option Value} {x : Nat} : Wp d 170 394 [some (.ref x), a1, a2, a3] (st) w Q = Wp d 170 395 [some (.ref x), a1, a2, a3] (.ref x :: st) w Q := Wp.loc e170_394 rfl rfl rfl
theorem e170_395 : decode (j_co 170) 395 = .ok (.iload_n 3, 1) := by decide +kernel
set_option maxRecDepth 20000 in
theorem w170_395 {d : Nat} {st : List Value} {Q : Option Value × jW → Prop} {w : jW} {a0 a1 a2 : Option Value} {x : Int32} : Wp d 170 395 [a0, a1, a2, some (.int x)] (st) w Q = Wp d 170 396 [a0, a1, a2, some (.int x)] (.int x :: st) w Q := Wp.loc e170_395 rfl rfl rfl
theorem e170_396 : decode (j_co 170) 396 = .ok (.iconst 5, 1) := by decide +kernel
set_option maxRecDepth 20000 in
theorem w170_396 {d : Nat} {st : List Value} {Q : Option Value × jW → Prop} {ls : jL} {w : jW} : Wp d 170 396 ls (st) w Q = Wp d 170 397 ls (.int (nI 5) :: st) w Q := Wp.alu e170_396 rfl rfl
theorem e170_397 : decode (j_co 170) 397 = .ok (.iadd, 1) := by decide +kernel
set_option maxRecDepth 20000 in
theorem w170_397 {d : Nat} {st : List Value} {Q : Option Value × jW → Prop} {ls : jL} {w : jW} {a b : Int32} : Wp d 170 397 ls (.int b :: .int a :: st) w Q = Wp d 170 398 ls (.int (a + b) :: st) w Q := Wp.alu e170_397 rfl rfl
theorem e170_398 : decode (j_co 170) 398 = .ok (.iaload, 1) := by decide +kernel
theorem w170_398 {d k : Nat} {ls : jL} {st : List Value} {I : fI} {L : fL} {Q : Option Value × jW → Prop} {g : List Int32} (hk : k < g.length) (h31 : k < 2147483648) : Wp d 170 398 ls (.int (nI k) :: .ref 0 :: st) (f_W (g.map Value.int) I L) Q = Wp d 170 399 ls (.int (g.getD k 0) :: st) (f_W (g.map Value.int) I L) Q := Wp.iald0 e170_398 hk h31
theorem e170_399 : decode (j_co 170) 399 = .ok (.invokevirtual 36, 3) := by decide +kernel
set_option maxRecDepth 20000 in
theorem w170_399 {d : Nat} {st : List Value} {Q : Option Value × jW → Prop} {ls : jL} {xs : List Value} {I : fI} {L : fL} {r : Nat} {x0 : Int32} {x1 : Int32} {x2 : Int32} {x3 : Int32} {x4 : Int32} (hs : j_sumc st ≤ 8) (ht : f_tg r = 10) : Wp (d + 1) 170 399 ls (.int x4 :: .int x3 :: .int x2 :: .int x1 :: .int x0 :: .ref r :: st) (f_W xs I L) Q = Wp d 23 0 [some (.ref r), some (.int x0), some (.int x1), some (.int x2), some (.int x3), some (.int x4), none] [] (f_W xs I L) (fun r1 => Wp (d + 1) 170 402 ls (r1.1.toList ++ st) r1.2 Q) := Wp.cv (y' := 23) (as := [.int x0, .int x1, .int x2, .int x3, .int x4]) e170_399 rfl (by decide) rfl (show 6 ≤ 7 by decide) (by decide) hs ht
theorem e170_402 : decode (j_co 170) 402 = .ok (.aload_n 2, 1) := by decide +kernel
set_option maxRecDepth 20000 in
theorem w170_402 {d : Nat} {st : List Value} {Q : Option Value × jW → Prop} {w : jW} {a0 a1 a3 : Option Value} {x : Nat} : Wp d 170 402 [a0, a1, some (.ref x), a3] (st) w Q = Wp d 170 403 [a0, a1, some (.ref x), a3] (.ref x :: st) w Q := Wp.loc e170_402 rfl rfl rfl
theorem e170_403 : decode (j_co 170) 403 = .ok (.aload_n 0, 1) := by decide +kernel
set_option maxRecDepth 20000 in
theorem w170_403 {d : Nat} {st : List Value} {Q : Option Value × jW → Prop} {w : jW} {a1 a2 a3 : Option Value} {x : Nat} : Wp d 170 403 [some (.ref x), a1, a2, a3] (st) w Q = Wp d 170 404 [some (.ref x), a1, a2, a3] (.ref x :: st) w Q := Wp.loc e170_403 rfl rfl rfl
theorem e170_404 : decode (j_co 170) 404 = .ok (.iload_n 3, 1) := by decide +kernel
set_option maxRecDepth 20000 in
theorem w170_404 {d : Nat} {st : List Value} {Q : Option Value × jW → Prop} {w : jW} {a0 a1 a2 : Option Value} {x : Int32} : Wp d 170 404 [a0, a1, a2, some (.int x)] (st) w Q = Wp d 170 405 [a0, a1, a2, some (.int x)] (.int x :: st) w Q := Wp.loc e170_404 rfl rfl rfl
theorem e170_405 : decode (j_co 170) 405 = .ok (.iconst 1, 1) := by decide +kernel
set_option maxRecDepth 20000 in
theorem w170_405 {d : Nat} {st : List Value} {Q : Option Value × jW → Prop} {ls : jL} {w : jW} : Wp d 170 405 ls (st) w Q = Wp d 170 406 ls (.int (nI 1) :: st) w Q := Wp.alu e170_405 rfl rfl
theorem e170_406 : decode (j_co 170) 406 = .ok (.iadd, 1) := by decide +kernel
set_option maxRecDepth 20000 in
theorem w170_406 {d : Nat} {st : List Value} {Q : Option Value × jW → Prop} {ls : jL} {w : jW} {a b : Int32} : Wp d 170 406 ls (.int b :: .int a :: st) w Q = Wp d 170 407 ls (.int (a + b) :: st) w Q := Wp.alu e170_406 rfl rfl
theorem e170_407 : decode (j_co 170) 407 = .ok (.iaload, 1) := by decide +kernel
theorem w170_407 {d k : Nat} {ls : jL} {st : List Value} {I : fI} {L : fL} {Q : Option Value × jW → Prop} {g : List Int32} (hk : k < g.length) (h31 : k < 2147483648) : Wp d 170 407 ls (.int (nI k) :: .ref 0 :: st) (f_W (g.map Value.int) I L) Q = Wp d 170 408 ls (.int (g.getD k 0) :: st) (f_W (g.map Value.int) I L) Q := Wp.iald0 e170_407 hk h31
theorem e170_408 : decode (j_co 170) 408 = .ok (.aload_n 0, 1) := by decide +kernel
set_option maxRecDepth 20000 in
theorem w170_408 {d : Nat} {st : List Value} {Q : Option Value × jW → Prop} {w : jW} {a1 a2 a3 : Option Value} {x : Nat} : Wp d 170 408 [some (.ref x), a1, a2, a3] (st) w Q = Wp d 170 409 [some (.ref x), a1, a2, a3] (.ref x :: st) w Q := Wp.loc e170_408 rfl rfl rfl
theorem e170_409 : decode (j_co 170) 409 = .ok (.iload_n 3, 1) := by decide +kernel
set_option maxRecDepth 20000 in
theorem w170_409 {d : Nat} {st : List Value} {Q : Option Value × jW → Prop} {w : jW} {a0 a1 a2 : Option Value} {x : Int32} : Wp d 170 409 [a0, a1, a2, some (.int x)] (st) w Q = Wp d 170 410 [a0, a1, a2, some (.int x)] (.int x :: st) w Q := Wp.loc e170_409 rfl rfl rfl
theorem e170_410 : decode (j_co 170) 410 = .ok (.iconst 2, 1) := by decide +kernel
set_option maxRecDepth 20000 in
theorem w170_410 {d : Nat} {st : List Value} {Q : Option Value × jW → Prop} {ls : jL} {w : jW} : Wp d 170 410 ls (st) w Q = Wp d 170 411 ls (.int (nI 2) :: st) w Q := Wp.alu e170_410 rfl rfl
theorem e170_411 : decode (j_co 170) 411 = .ok (.iadd, 1) := by decide +kernel
set_option maxRecDepth 20000 in
theorem w170_411 {d : Nat} {st : List Value} {Q : Option Value × jW → Prop} {ls : jL} {w : jW} {a b : Int32} : Wp d 170 411 ls (.int b :: .int a :: st) w Q = Wp d 170 412 ls (.int (a + b) :: st) w Q := Wp.alu e170_411 rfl rfl
theorem e170_412 : decode (j_co 170) 412 = .ok (.iaload, 1) := by decide +kernel
theorem w170_412 {d k : Nat} {ls : jL} {st : List Value} {I : fI} {L : fL} {Q : Option Value × jW → Prop} {g : List Int32} (hk : k < g.length) (h31 : k < 2147483648) : Wp d 170 412 ls (.int (nI k) :: .ref 0 :: st) (f_W (g.map Value.int) I L) Q = Wp d 170 413 ls (.int (g.getD k 0) :: st) (f_W (g.map Value.int) I L) Q := Wp.iald0 e170_412 hk h31
theorem e170_413 : decode (j_co 170) 413 = .ok (.aload_n 0, 1) := by decide +kernel
set_option maxRecDepth 20000 in
theorem w170_413 {d : Nat} {st : List Value} {Q : Option Value × jW → Prop} {w : jW} {a1 a2 a3 : Option Value} {x : Nat} : Wp d 170 413 [some (.ref x), a1, a2, a3] (st) w Q = Wp d 170 414 [some (.ref x), a1, a2, a3] (.ref x :: st) w Q := Wp.loc e170_413 rfl rfl rfl
theorem e170_414 : decode (j_co 170) 414 = .ok (.iload_n 3, 1) := by decide +kernel
set_option maxRecDepth 20000 in
theorem w170_414 {d : Nat} {st : List Value} {Q : Option Value × jW → Prop} {w : jW} {a0 a1 a2 : Option Value} {x : Int32} : Wp d 170 414 [a0, a1, a2, some (.int x)] (st) w Q = Wp d 170 415 [a0, a1, a2, some (.int x)] (.int x :: st) w Q := Wp.loc e170_414 rfl rfl rfl
theorem e170_415 : decode (j_co 170) 415 = .ok (.iconst 3, 1) := by decide +kernel
set_option maxRecDepth 20000 in
theorem w170_415 {d : Nat} {st : List Value} {Q : Option Value × jW → Prop} {ls : jL} {w : jW} : Wp d 170 415 ls (st) w Q = Wp d 170 416 ls (.int (nI 3) :: st) w Q := Wp.alu e170_415 rfl rfl
theorem e170_416 : decode (j_co 170) 416 = .ok (.iadd, 1) := by decide +kernel
set_option maxRecDepth 20000 in
theorem w170_416 {d : Nat} {st : List Value} {Q : Option Value × jW → Prop} {ls : jL} {w : jW} {a b : Int32} : Wp d 170 416 ls (.int b :: .int a :: st) w Q = Wp d 170 417 ls (.int (a + b) :: st) w Q := Wp.alu e170_416 rfl rfl
theorem e170_417 : decode (j_co 170) 417 = .ok (.iaload, 1) := by decide +kernel
theorem w170_417 {d k : Nat} {ls : jL} {st : List Value} {I : fI} {L : fL} {Q : Option Value × jW → Prop} {g : List Int32} (hk : k < g.length) (h31 : k < 2147483648) : Wp d 170 417 ls (.int (nI k) :: .ref 0 :: st) (f_W (g.map Value.int) I L) Q = Wp d 170 418 ls (.int (g.getD k 0) :: st) (f_W (g.map Value.int) I L) Q := Wp.iald0 e170_417 hk h31
theorem e170_418 : decode (j_co 170) 418 = .ok (.ifCond .eq 7, 3) := by decide +kernel
set_option maxRecDepth 20000 in
theorem w170_418 {d : Nat} {st : List Value} {Q : Option Value × jW → Prop} {ls : jL} {w : jW} {a : Int32} : Wp d 170 418 ls (.int a :: st) w Q = ((a = nI 0 → Wp d 170 425 ls st w Q) ∧ (¬ a = nI 0 → Wp d 170 421 ls st w Q)) := Wp.if2 (c := a = nI 0) (off := 7) e170_418 rfl rfl rfl rfl rfl
theorem e170_421 : decode (j_co 170) 421 = .ok (.iconst 1, 1) := by decide +kernel
set_option maxRecDepth 20000 in
theorem w170_421 {d : Nat} {st : List Value} {Q : Option Value × jW → Prop} {ls : jL} {w : jW} : Wp d 170 421 ls (st) w Q = Wp d 170 422 ls (.int (nI 1) :: st) w Q := Wp.alu e170_421 rfl rfl
theorem e170_422 : decode (j_co 170) 422 = .ok (.goto 4, 3) := by decide +kernel
set_option maxRecDepth 20000 in
theorem w170_422 {d : Nat} {st : List Value} {Q : Option Value × jW → Prop} {ls : jL} {w : jW} : Wp d 170 422 ls (st) w Q = Wp d 170 426 ls (st) w Q := Wp.br e170_422 (Or.inl rfl) rfl rfl rfl rfl
theorem e170_425 : decode (j_co 170) 425 = .ok (.iconst 0, 1) := by decide +kernel
set_option maxRecDepth 20000 in
theorem w170_425 {d : Nat} {st : List Value} {Q : Option Value × jW → Prop} {ls : jL} {w : jW} : Wp d 170 425 ls (st) w Q = Wp d 170 426 ls (.int (nI 0) :: st) w Q := Wp.alu e170_425 rfl rfl
theorem e170_426 : decode (j_co 170) 426 = .ok (.aload_n 0, 1) := by decide +kernel
set_option maxRecDepth 20000 in
theorem w170_426 {d : Nat} {st : List Value} {Q : Option Value × jW → Prop} {w : jW} {a1 a2 a3 : Option Value} {x : Nat} : Wp d 170 426 [some (.ref x), a1, a2, a3] (st) w Q = Wp d 170 427 [some (.ref x), a1, a2, a3] (.ref x :: st) w Q := Wp.loc e170_426 rfl rfl rfl
theorem e170_427 : decode (j_co 170) 427 = .ok (.iload_n 3, 1) := by decide +kernel
set_option maxRecDepth 20000 in
theorem w170_427 {d : Nat} {st : List Value} {Q : Option Value × jW → Prop} {w : jW} {a0 a1 a2 : Option Value} {x : Int32} : Wp d 170 427 [a0, a1, a2, some (.int x)] (st) w Q = Wp d 170 428 [a0, a1, a2, some (.int x)] (.int x :: st) w Q := Wp.loc e170_427 rfl rfl rfl
theorem e170_428 : decode (j_co 170) 428 = .ok (.iconst 4, 1) := by decide +kernel
set_option maxRecDepth 20000 in
theorem w170_428 {d : Nat} {st : List Value} {Q : Option Value × jW → Prop} {ls : jL} {w : jW} : Wp d 170 428 ls (st) w Q = Wp d 170 429 ls (.int (nI 4) :: st) w Q := Wp.alu e170_428 rfl rfl
theorem e170_429 : decode (j_co 170) 429 = .ok (.iadd, 1) := by decide +kernel
set_option maxRecDepth 20000 in
theorem w170_429 {d : Nat} {st : List Value} {Q : Option Value × jW → Prop} {ls : jL} {w : jW} {a b : Int32} : Wp d 170 429 ls (.int b :: .int a :: st) w Q = Wp d 170 430 ls (.int (a + b) :: st) w Q := Wp.alu e170_429 rfl rfl
theorem e170_430 : decode (j_co 170) 430 = .ok (.iaload, 1) := by decide +kernel
theorem w170_430 {d k : Nat} {ls : jL} {st : List Value} {I : fI} {L : fL} {Q : Option Value × jW → Prop} {g : List Int32} (hk : k < g.length) (h31 : k < 2147483648) : Wp d 170 430 ls (.int (nI k) :: .ref 0 :: st) (f_W (g.map Value.int) I L) Q = Wp d 170 431 ls (.int (g.getD k 0) :: st) (f_W (g.map Value.int) I L) Q := Wp.iald0 e170_430 hk h31
theorem e170_431 : decode (j_co 170) 431 = .ok (.aload_n 0, 1) := by decide +kernel
set_option maxRecDepth 20000 in
theorem w170_431 {d : Nat} {st : List Value} {Q : Option Value × jW → Prop} {w : jW} {a1 a2 a3 : Option Value} {x : Nat} : Wp d 170 431 [some (.ref x), a1, a2, a3] (st) w Q = Wp d 170 432 [some (.ref x), a1, a2, a3] (.ref x :: st) w Q := Wp.loc e170_431 rfl rfl rfl
theorem e170_432 : decode (j_co 170) 432 = .ok (.iload_n 3, 1) := by decide +kernel
set_option maxRecDepth 20000 in
theorem w170_432 {d : Nat} {st : List Value} {Q : Option Value × jW → Prop} {w : jW} {a0 a1 a2 : Option Value} {x : Int32} : Wp d 170 432 [a0, a1, a2, some (.int x)] (st) w Q = Wp d 170 433 [a0, a1, a2, some (.int x)] (.int x :: st) w Q := Wp.loc e170_432 rfl rfl rfl
theorem e170_433 : decode (j_co 170) 433 = .ok (.iconst 5, 1) := by decide +kernel
set_option maxRecDepth 20000 in
theorem w170_433 {d : Nat} {st : List Value} {Q : Option Value × jW → Prop} {ls : jL} {w : jW} : Wp d 170 433 ls (st) w Q = Wp d 170 434 ls (.int (nI 5) :: st) w Q := Wp.alu e170_433 rfl rfl
theorem e170_434 : decode (j_co 170) 434 = .ok (.iadd, 1) := by decide +kernel
set_option maxRecDepth 20000 in
theorem w170_434 {d : Nat} {st : List Value} {Q : Option Value × jW → Prop} {ls : jL} {w : jW} {a b : Int32} : Wp d 170 434 ls (.int b :: .int a :: st) w Q = Wp d 170 435 ls (.int (a + b) :: st) w Q := Wp.alu e170_434 rfl rfl
theorem e170_435 : decode (j_co 170) 435 = .ok (.iaload, 1) := by decide +kernel
theorem w170_435 {d k : Nat} {ls : jL} {st : List Value} {I : fI} {L : fL} {Q : Option Value × jW → Prop} {g : List Int32} (hk : k < g.length) (h31 : k < 2147483648) : Wp d 170 435 ls (.int (nI k) :: .ref 0 :: st) (f_W (g.map Value.int) I L) Q = Wp d 170 436 ls (.int (g.getD k 0) :: st) (f_W (g.map Value.int) I L) Q := Wp.iald0 e170_435 hk h31
theorem e170_436 : decode (j_co 170) 436 = .ok (.invokevirtual 40, 3) := by decide +kernel
set_option maxRecDepth 20000 in
theorem w170_436 {d : Nat} {st : List Value} {Q : Option Value × jW → Prop} {ls : jL} {xs : List Value} {I : fI} {L : fL} {r : Nat} {x0 : Int32} {x1 : Int32} {x2 : Int32} {x3 : Int32} {x4 : Int32} (hs : j_sumc st ≤ 8) (ht : f_tg r = 11) : Wp (d + 1) 170 436 ls (.int x4 :: .int x3 :: .int x2 :: .int x1 :: .int x0 :: .ref r :: st) (f_W xs I L) Q = Wp d 122 0 [some (.ref r), some (.int x0), some (.int x1), some (.int x2), some (.int x3), some (.int x4)] [] (f_W xs I L) (fun r1 => Wp (d + 1) 170 439 ls (r1.1.toList ++ st) r1.2 Q) := Wp.cv (y' := 122) (as := [.int x0, .int x1, .int x2, .int x3, .int x4]) e170_436 rfl (by decide) rfl (show 6 ≤ 6 by decide) (by decide) hs ht
theorem e170_439 : decode (j_co 170) 439 = .ok (.if_icmp .eq 767, 3) := by decide +kernel
set_option maxRecDepth 20000 in
theorem w170_439 {d : Nat} {st : List Value} {Q : Option Value × jW → Prop} {ls : jL} {w : jW} {a b : Int32} : Wp d 170 439 ls (.int b :: .int a :: st) w Q = ((a = b → Wp d 170 1206 ls st w Q) ∧ (¬ a = b → Wp d 170 442 ls st w Q)) := Wp.if2 (c := a = b) (off := 767) e170_439 rfl rfl rfl rfl rfl
theorem e170_442 : decode (j_co 170) 442 = .ok (.iconst 0, 1) := by decide +kernel
set_option maxRecDepth 20000 in
theorem w170_442 {d : Nat} {st : List Value} {Q : Option Value × jW → Prop} {ls : jL} {w : jW} : Wp d 170 442 ls (st) w Q = Wp d 170 443 ls (.int (nI 0) :: st) w Q := Wp.alu e170_442 rfl rfl
theorem e170_443 : decode (j_co 170) 443 = .ok (.ireturn, 1) := by decide +kernel
set_option maxRecDepth 20000 in
theorem w170_443 {d : Nat} {Q : Option Value × jW → Prop} {ls : jL} {w : jW} {x : Int32} (hx : x = 0 ∨ x = 1) : Wp d 170 443 ls [.int x] w Q = Q (some (.int x), w) := Wp.ret e170_443 (by rcases hx with rfl | rfl <;> rfl)
theorem e170_444 : decode (j_co 170) 444 = .ok (.aload_n 1, 1) := by decide +kernel
set_option maxRecDepth 20000 in
theorem w170_444 {d : Nat} {st : List Value} {Q : Option Value × jW → Prop} {w : jW} {a0 a2 a3 : Option Value} {x : Nat} : Wp d 170 444 [a0, some (.ref x), a2, a3] (st) w Q = Wp d 170 445 [a0, some (.ref x), a2, a3] (.ref x :: st) w Q := Wp.loc e170_444 rfl rfl rfl
theorem e170_445 : decode (j_co 170) 445 = .ok (.aload_n 0, 1) := by decide +kernel
set_option maxRecDepth 20000 in
theorem w170_445 {d : Nat} {st : List Value} {Q : Option Value × jW → Prop} {w : jW} {a1 a2 a3 : Option Value} {x : Nat} : Wp d 170 445 [some (.ref x), a1, a2, a3] (st) w Q = Wp d 170 446 [some (.ref x), a1, a2, a3] (.ref x :: st) w Q := Wp.loc e170_445 rfl rfl rfl
theorem e170_446 : decode (j_co 170) 446 = .ok (.iload_n 3, 1) := by decide +kernel
set_option maxRecDepth 20000 in
theorem w170_446 {d : Nat} {st : List Value} {Q : Option Value × jW → Prop} {w : jW} {a0 a1 a2 : Option Value} {x : Int32} : Wp d 170 446 [a0, a1, a2, some (.int x)] (st) w Q = Wp d 170 447 [a0, a1, a2, some (.int x)] (.int x :: st) w Q := Wp.loc e170_446 rfl rfl rfl
theorem e170_447 : decode (j_co 170) 447 = .ok (.iconst 1, 1) := by decide +kernel
set_option maxRecDepth 20000 in
theorem w170_447 {d : Nat} {st : List Value} {Q : Option Value × jW → Prop} {ls : jL} {w : jW} : Wp d 170 447 ls (st) w Q = Wp d 170 448 ls (.int (nI 1) :: st) w Q := Wp.alu e170_447 rfl rfl
theorem e170_448 : decode (j_co 170) 448 = .ok (.iadd, 1) := by decide +kernel
set_option maxRecDepth 20000 in
theorem w170_448 {d : Nat} {st : List Value} {Q : Option Value × jW → Prop} {ls : jL} {w : jW} {a b : Int32} : Wp d 170 448 ls (.int b :: .int a :: st) w Q = Wp d 170 449 ls (.int (a + b) :: st) w Q := Wp.alu e170_448 rfl rfl
theorem e170_449 : decode (j_co 170) 449 = .ok (.iaload, 1) := by decide +kernel
theorem w170_449 {d k : Nat} {ls : jL} {st : List Value} {I : fI} {L : fL} {Q : Option Value × jW → Prop} {g : List Int32} (hk : k < g.length) (h31 : k < 2147483648) : Wp d 170 449 ls (.int (nI k) :: .ref 0 :: st) (f_W (g.map Value.int) I L) Q = Wp d 170 450 ls (.int (g.getD k 0) :: st) (f_W (g.map Value.int) I L) Q := Wp.iald0 e170_449 hk h31
theorem e170_450 : decode (j_co 170) 450 = .ok (.invokevirtual 41, 3) := by decide +kernel
set_option maxRecDepth 20000 in
theorem w170_450 {d : Nat} {st : List Value} {Q : Option Value × jW → Prop} {ls : jL} {xs : List Value} {I : fI} {L : fL} {r : Nat} {x0 : Int32} (hs : j_sumc st ≤ 8) (ht : f_tg r = 10) : Wp (d + 1) 170 450 ls (.int x0 :: .ref r :: st) (f_W xs I L) Q = Wp d 24 0 [some (.ref r), some (.int x0), none] [] (f_W xs I L) (fun r1 => Wp (d + 1) 170 453 ls (r1.1.toList ++ st) r1.2 Q) := Wp.cv (y' := 24) (as := [.int x0]) e170_450 rfl (by decide) rfl (show 2 ≤ 3 by decide) (by decide) hs ht
theorem e170_453 : decode (j_co 170) 453 = .ok (.aload_n 2, 1) := by decide +kernel
set_option maxRecDepth 20000 in
theorem w170_453 {d : Nat} {st : List Value} {Q : Option Value × jW → Prop} {w : jW} {a0 a1 a3 : Option Value} {x : Nat} : Wp d 170 453 [a0, a1, some (.ref x), a3] (st) w Q = Wp d 170 454 [a0, a1, some (.ref x), a3] (.ref x :: st) w Q := Wp.loc e170_453 rfl rfl rfl
theorem e170_454 : decode (j_co 170) 454 = .ok (.aload_n 0, 1) := by decide +kernel
set_option maxRecDepth 20000 in
theorem w170_454 {d : Nat} {st : List Value} {Q : Option Value × jW → Prop} {w : jW} {a1 a2 a3 : Option Value} {x : Nat} : Wp d 170 454 [some (.ref x), a1, a2, a3] (st) w Q = Wp d 170 455 [some (.ref x), a1, a2, a3] (.ref x :: st) w Q := Wp.loc e170_454 rfl rfl rfl
theorem e170_455 : decode (j_co 170) 455 = .ok (.iload_n 3, 1) := by decide +kernel
set_option maxRecDepth 20000 in
theorem w170_455 {d : Nat} {st : List Value} {Q : Option Value × jW → Prop} {w : jW} {a0 a1 a2 : Option Value} {x : Int32} : Wp d 170 455 [a0, a1, a2, some (.int x)] (st) w Q = Wp d 170 456 [a0, a1, a2, some (.int x)] (.int x :: st) w Q := Wp.loc e170_455 rfl rfl rfl
theorem e170_456 : decode (j_co 170) 456 = .ok (.iconst 1, 1) := by decide +kernel
set_option maxRecDepth 20000 in
theorem w170_456 {d : Nat} {st : List Value} {Q : Option Value × jW → Prop} {ls : jL} {w : jW} : Wp d 170 456 ls (st) w Q = Wp d 170 457 ls (.int (nI 1) :: st) w Q := Wp.alu e170_456 rfl rfl
theorem e170_457 : decode (j_co 170) 457 = .ok (.iadd, 1) := by decide +kernel
set_option maxRecDepth 20000 in
theorem w170_457 {d : Nat} {st : List Value} {Q : Option Value × jW → Prop} {ls : jL} {w : jW} {a b : Int32} : Wp d 170 457 ls (.int b :: .int a :: st) w Q = Wp d 170 458 ls (.int (a + b) :: st) w Q := Wp.alu e170_457 rfl rfl
theorem e170_458 : decode (j_co 170) 458 = .ok (.iaload, 1) := by decide +kernel
theorem w170_458 {d k : Nat} {ls : jL} {st : List Value} {I : fI} {L : fL} {Q : Option Value × jW → Prop} {g : List Int32} (hk : k < g.length) (h31 : k < 2147483648) : Wp d 170 458 ls (.int (nI k) :: .ref 0 :: st) (f_W (g.map Value.int) I L) Q = Wp d 170 459 ls (.int (g.getD k 0) :: st) (f_W (g.map Value.int) I L) Q := Wp.iald0 e170_458 hk h31
theorem e170_459 : decode (j_co 170) 459 = .ok (.invokevirtual 45, 3) := by decide +kernel
set_option maxRecDepth 20000 in
theorem w170_459 {d : Nat} {st : List Value} {Q : Option Value × jW → Prop} {ls : jL} {xs : List Value} {I : fI} {L : fL} {r : Nat} {x0 : Int32} (hs : j_sumc st ≤ 8) (ht : f_tg r = 11) : Wp (d + 1) 170 459 ls (.int x0 :: .ref r :: st) (f_W xs I L) Q = Wp d 123 0 [some (.ref r), some (.int x0), none] [] (f_W xs I L) (fun r1 => Wp (d + 1) 170 462 ls (r1.1.toList ++ st) r1.2 Q) := Wp.cv (y' := 123) (as := [.int x0]) e170_459 rfl (by decide) rfl (show 2 ≤ 3 by decide) (by decide) hs ht
theorem e170_462 : decode (j_co 170) 462 = .ok (.if_icmp .eq 744, 3) := by decide +kernel
set_option maxRecDepth 20000 in
theorem w170_462 {d : Nat} {st : List Value} {Q : Option Value × jW → Prop} {ls : jL} {w : jW} {a b : Int32} : Wp d 170 462 ls (.int b :: .int a :: st) w Q = ((a = b → Wp d 170 1206 ls st w Q) ∧ (¬ a = b → Wp d 170 465 ls st w Q)) := Wp.if2 (c := a = b) (off := 744) e170_462 rfl rfl rfl rfl rfl
theorem e170_465 : decode (j_co 170) 465 = .ok (.iconst 0, 1) := by decide +kernel
set_option maxRecDepth 20000 in
theorem w170_465 {d : Nat} {st : List Value} {Q : Option Value × jW → Prop} {ls : jL} {w : jW} : Wp d 170 465 ls (st) w Q = Wp d 170 466 ls (.int (nI 0) :: st) w Q := Wp.alu e170_465 rfl rfl
theorem e170_466 : decode (j_co 170) 466 = .ok (.ireturn, 1) := by decide +kernel
set_option maxRecDepth 20000 in
theorem w170_466 {d : Nat} {Q : Option Value × jW → Prop} {ls : jL} {w : jW} {x : Int32} (hx : x = 0 ∨ x = 1) : Wp d 170 466 ls [.int x] w Q = Q (some (.int x), w) := Wp.ret e170_466 (by rcases hx with rfl | rfl <;> rfl)
theorem e170_467 : decode (j_co 170) 467 = .ok (.aload_n 1, 1) := by decide +kernel
set_option maxRecDepth 20000 in
theorem w170_467 {d : Nat} {st : List Value} {Q : Option Value × jW → Prop} {w : jW} {a0 a2 a3 : Option Value} {x : Nat} : Wp d 170 467 [a0, some (.ref x), a2, a3] (st) w Q = Wp d 170 468 [a0, some (.ref x), a2, a3] (.ref x :: st) w Q := Wp.loc e170_467 rfl rfl rfl
theorem e170_468 : decode (j_co 170) 468 = .ok (.aload_n 0, 1) := by decide +kernel
set_option maxRecDepth 20000 in
theorem w170_468 {d : Nat} {st : List Value} {Q : Option Value × jW → Prop} {w : jW} {a1 a2 a3 : Option Value} {x : Nat} : Wp d 170 468 [some (.ref x), a1, a2, a3] (st) w Q = Wp d 170 469 [some (.ref x), a1, a2, a3] (.ref x :: st) w Q := Wp.loc e170_468 rfl rfl rfl
theorem e170_469 : decode (j_co 170) 469 = .ok (.iload_n 3, 1) := by decide +kernel
set_option maxRecDepth 20000 in
theorem w170_469 {d : Nat} {st : List Value} {Q : Option Value × jW → Prop} {w : jW} {a0 a1 a2 : Option Value} {x : Int32} : Wp d 170 469 [a0, a1, a2, some (.int x)] (st) w Q = Wp d 170 470 [a0, a1, a2, some (.int x)] (.int x :: st) w Q := Wp.loc e170_469 rfl rfl rfl
theorem e170_470 : decode (j_co 170) 470 = .ok (.iconst 1, 1) := by decide +kernel
set_option maxRecDepth 20000 in
theorem w170_470 {d : Nat} {st : List Value} {Q : Option Value × jW → Prop} {ls : jL} {w : jW} : Wp d 170 470 ls (st) w Q = Wp d 170 471 ls (.int (nI 1) :: st) w Q := Wp.alu e170_470 rfl rfl
theorem e170_471 : decode (j_co 170) 471 = .ok (.iadd, 1) := by decide +kernel
set_option maxRecDepth 20000 in
theorem w170_471 {d : Nat} {st : List Value} {Q : Option Value × jW → Prop} {ls : jL} {w : jW} {a b : Int32} : Wp d 170 471 ls (.int b :: .int a :: st) w Q = Wp d 170 472 ls (.int (a + b) :: st) w Q := Wp.alu e170_471 rfl rfl
theorem e170_472 : decode (j_co 170) 472 = .ok (.iaload, 1) := by decide +kernel
theorem w170_472 {d k : Nat} {ls : jL} {st : List Value} {I : fI} {L : fL} {Q : Option Value × jW → Prop} {g : List Int32} (hk : k < g.length) (h31 : k < 2147483648) : Wp d 170 472 ls (.int (nI k) :: .ref 0 :: st) (f_W (g.map Value.int) I L) Q = Wp d 170 473 ls (.int (g.getD k 0) :: st) (f_W (g.map Value.int) I L) Q := Wp.iald0 e170_472 hk h31
theorem e170_473 : decode (j_co 170) 473 = .ok (.aload_n 0, 1) := by decide +kernel
set_option maxRecDepth 20000 in
theorem w170_473 {d : Nat} {st : List Value} {Q : Option Value × jW → Prop} {w : jW} {a1 a2 a3 : Option Value} {x : Nat} : Wp d 170 473 [some (.ref x), a1, a2, a3] (st) w Q = Wp d 170 474 [some (.ref x), a1, a2, a3] (.ref x :: st) w Q := Wp.loc e170_473 rfl rfl rfl
theorem e170_474 : decode (j_co 170) 474 = .ok (.iload_n 3, 1) := by decide +kernel
set_option maxRecDepth 20000 in
theorem w170_474 {d : Nat} {st : List Value} {Q : Option Value × jW → Prop} {w : jW} {a0 a1 a2 : Option Value} {x : Int32} : Wp d 170 474 [a0, a1, a2, some (.int x)] (st) w Q = Wp d 170 475 [a0, a1, a2, some (.int x)] (.int x :: st) w Q := Wp.loc e170_474 rfl rfl rfl
theorem e170_475 : decode (j_co 170) 475 = .ok (.iconst 2, 1) := by decide +kernel
set_option maxRecDepth 20000 in
theorem w170_475 {d : Nat} {st : List Value} {Q : Option Value × jW → Prop} {ls : jL} {w : jW} : Wp d 170 475 ls (st) w Q = Wp d 170 476 ls (.int (nI 2) :: st) w Q := Wp.alu e170_475 rfl rfl
theorem e170_476 : decode (j_co 170) 476 = .ok (.iadd, 1) := by decide +kernel
set_option maxRecDepth 20000 in
theorem w170_476 {d : Nat} {st : List Value} {Q : Option Value × jW → Prop} {ls : jL} {w : jW} {a b : Int32} : Wp d 170 476 ls (.int b :: .int a :: st) w Q = Wp d 170 477 ls (.int (a + b) :: st) w Q := Wp.alu e170_476 rfl rfl
theorem e170_477 : decode (j_co 170) 477 = .ok (.iaload, 1) := by decide +kernel
theorem w170_477 {d k : Nat} {ls : jL} {st : List Value} {I : fI} {L : fL} {Q : Option Value × jW → Prop} {g : List Int32} (hk : k < g.length) (h31 : k < 2147483648) : Wp d 170 477 ls (.int (nI k) :: .ref 0 :: st) (f_W (g.map Value.int) I L) Q = Wp d 170 478 ls (.int (g.getD k 0) :: st) (f_W (g.map Value.int) I L) Q := Wp.iald0 e170_477 hk h31
theorem e170_478 : decode (j_co 170) 478 = .ok (.aload_n 0, 1) := by decide +kernel
set_option maxRecDepth 20000 in
theorem w170_478 {d : Nat} {st : List Value} {Q : Option Value × jW → Prop} {w : jW} {a1 a2 a3 : Option Value} {x : Nat} : Wp d 170 478 [some (.ref x), a1, a2, a3] (st) w Q = Wp d 170 479 [some (.ref x), a1, a2, a3] (.ref x :: st) w Q := Wp.loc e170_478 rfl rfl rfl
theorem e170_479 : decode (j_co 170) 479 = .ok (.iload_n 3, 1) := by decide +kernel
set_option maxRecDepth 20000 in
theorem w170_479 {d : Nat} {st : List Value} {Q : Option Value × jW → Prop} {w : jW} {a0 a1 a2 : Option Value} {x : Int32} : Wp d 170 479 [a0, a1, a2, some (.int x)] (st) w Q = Wp d 170 480 [a0, a1, a2, some (.int x)] (.int x :: st) w Q := Wp.loc e170_479 rfl rfl rfl
theorem e170_480 : decode (j_co 170) 480 = .ok (.iconst 3, 1) := by decide +kernel
set_option maxRecDepth 20000 in
theorem w170_480 {d : Nat} {st : List Value} {Q : Option Value × jW → Prop} {ls : jL} {w : jW} : Wp d 170 480 ls (st) w Q = Wp d 170 481 ls (.int (nI 3) :: st) w Q := Wp.alu e170_480 rfl rfl
theorem e170_481 : decode (j_co 170) 481 = .ok (.iadd, 1) := by decide +kernel
set_option maxRecDepth 20000 in
theorem w170_481 {d : Nat} {st : List Value} {Q : Option Value × jW → Prop} {ls : jL} {w : jW} {a b : Int32} : Wp d 170 481 ls (.int b :: .int a :: st) w Q = Wp d 170 482 ls (.int (a + b) :: st) w Q := Wp.alu e170_481 rfl rfl
theorem e170_482 : decode (j_co 170) 482 = .ok (.iaload, 1) := by decide +kernel
theorem w170_482 {d k : Nat} {ls : jL} {st : List Value} {I : fI} {L : fL} {Q : Option Value × jW → Prop} {g : List Int32} (hk : k < g.length) (h31 : k < 2147483648) : Wp d 170 482 ls (.int (nI k) :: .ref 0 :: st) (f_W (g.map Value.int) I L) Q = Wp d 170 483 ls (.int (g.getD k 0) :: st) (f_W (g.map Value.int) I L) Q := Wp.iald0 e170_482 hk h31
theorem e170_483 : decode (j_co 170) 483 = .ok (.aload_n 0, 1) := by decide +kernel
set_option maxRecDepth 20000 in
theorem w170_483 {d : Nat} {st : List Value} {Q : Option Value × jW → Prop} {w : jW} {a1 a2 a3 : Option Value} {x : Nat} : Wp d 170 483 [some (.ref x), a1, a2, a3] (st) w Q = Wp d 170 484 [some (.ref x), a1, a2, a3] (.ref x :: st) w Q := Wp.loc e170_483 rfl rfl rfl
theorem e170_484 : decode (j_co 170) 484 = .ok (.iload_n 3, 1) := by decide +kernel
set_option maxRecDepth 20000 in
theorem w170_484 {d : Nat} {st : List Value} {Q : Option Value × jW → Prop} {w : jW} {a0 a1 a2 : Option Value} {x : Int32} : Wp d 170 484 [a0, a1, a2, some (.int x)] (st) w Q = Wp d 170 485 [a0, a1, a2, some (.int x)] (.int x :: st) w Q := Wp.loc e170_484 rfl rfl rfl
theorem e170_485 : decode (j_co 170) 485 = .ok (.iconst 4, 1) := by decide +kernel
set_option maxRecDepth 20000 in
theorem w170_485 {d : Nat} {st : List Value} {Q : Option Value × jW → Prop} {ls : jL} {w : jW} : Wp d 170 485 ls (st) w Q = Wp d 170 486 ls (.int (nI 4) :: st) w Q := Wp.alu e170_485 rfl rfl
theorem e170_486 : decode (j_co 170) 486 = .ok (.iadd, 1) := by decide +kernel
set_option maxRecDepth 20000 in
theorem w170_486 {d : Nat} {st : List Value} {Q : Option Value × jW → Prop} {ls : jL} {w : jW} {a b : Int32} : Wp d 170 486 ls (.int b :: .int a :: st) w Q = Wp d 170 487 ls (.int (a + b) :: st) w Q := Wp.alu e170_486 rfl rfl
theorem e170_487 : decode (j_co 170) 487 = .ok (.iaload, 1) := by decide +kernel
theorem w170_487 {d k : Nat} {ls : jL} {st : List Value} {I : fI} {L : fL} {Q : Option Value × jW → Prop} {g : List Int32} (hk : k < g.length) (h31 : k < 2147483648) : Wp d 170 487 ls (.int (nI k) :: .ref 0 :: st) (f_W (g.map Value.int) I L) Q = Wp d 170 488 ls (.int (g.getD k 0) :: st) (f_W (g.map Value.int) I L) Q := Wp.iald0 e170_487 hk h31
theorem e170_488 : decode (j_co 170) 488 = .ok (.invokevirtual 46, 3) := by decide +kernel
set_option maxRecDepth 20000 in
theorem w170_488 {d : Nat} {st : List Value} {Q : Option Value × jW → Prop} {ls : jL} {xs : List Value} {I : fI} {L : fL} {r : Nat} {x0 : Int32} {x1 : Int32} {x2 : Int32} {x3 : Int32} (hs : j_sumc st ≤ 8) (ht : f_tg r = 10) : Wp (d + 1) 170 488 ls (.int x3 :: .int x2 :: .int x1 :: .int x0 :: .ref r :: st) (f_W xs I L) Q = Wp d 25 0 [some (.ref r), some (.int x0), some (.int x1), some (.int x2), some (.int x3)] [] (f_W xs I L) (fun r1 => Wp (d + 1) 170 491 ls (r1.1.toList ++ st) r1.2 Q) := Wp.cv (y' := 25) (as := [.int x0, .int x1, .int x2, .int x3]) e170_488 rfl (by decide) rfl (show 5 ≤ 5 by decide) (by decide) hs ht
theorem e170_491 : decode (j_co 170) 491 = .ok (.aload_n 2, 1) := by decide +kernel
set_option maxRecDepth 20000 in
theorem w170_491 {d : Nat} {st : List Value} {Q : Option Value × jW → Prop} {w : jW} {a0 a1 a3 : Option Value} {x : Nat} : Wp d 170 491 [a0, a1, some (.ref x), a3] (st) w Q = Wp d 170 492 [a0, a1, some (.ref x), a3] (.ref x :: st) w Q := Wp.loc e170_491 rfl rfl rfl
theorem e170_492 : decode (j_co 170) 492 = .ok (.aload_n 0, 1) := by decide +kernel
set_option maxRecDepth 20000 in
theorem w170_492 {d : Nat} {st : List Value} {Q : Option Value × jW → Prop} {w : jW} {a1 a2 a3 : Option Value} {x : Nat} : Wp d 170 492 [some (.ref x), a1, a2, a3] (st) w Q = Wp d 170 493 [some (.ref x), a1, a2, a3] (.ref x :: st) w Q := Wp.loc e170_492 rfl rfl rfl
theorem e170_493 : decode (j_co 170) 493 = .ok (.iload_n 3, 1) := by decide +kernel
set_option maxRecDepth 20000 in
theorem w170_493 {d : Nat} {st : List Value} {Q : Option Value × jW → Prop} {w : jW} {a0 a1 a2 : Option Value} {x : Int32} : Wp d 170 493 [a0, a1, a2, some (.int x)] (st) w Q = Wp d 170 494 [a0, a1, a2, some (.int x)] (.int x :: st) w Q := Wp.loc e170_493 rfl rfl rfl
theorem e170_494 : decode (j_co 170) 494 = .ok (.iconst 1, 1) := by decide +kernel
set_option maxRecDepth 20000 in
theorem w170_494 {d : Nat} {st : List Value} {Q : Option Value × jW → Prop} {ls : jL} {w : jW} : Wp d 170 494 ls (st) w Q = Wp d 170 495 ls (.int (nI 1) :: st) w Q := Wp.alu e170_494 rfl rfl
theorem e170_495 : decode (j_co 170) 495 = .ok (.iadd, 1) := by decide +kernel
set_option maxRecDepth 20000 in
theorem w170_495 {d : Nat} {st : List Value} {Q : Option Value × jW → Prop} {ls : jL} {w : jW} {a b : Int32} : Wp d 170 495 ls (.int b :: .int a :: st) w Q = Wp d 170 496 ls (.int (a + b) :: st) w Q := Wp.alu e170_495 rfl rfl
theorem e170_496 : decode (j_co 170) 496 = .ok (.iaload, 1) := by decide +kernel
theorem w170_496 {d k : Nat} {ls : jL} {st : List Value} {I : fI} {L : fL} {Q : Option Value × jW → Prop} {g : List Int32} (hk : k < g.length) (h31 : k < 2147483648) : Wp d 170 496 ls (.int (nI k) :: .ref 0 :: st) (f_W (g.map Value.int) I L) Q = Wp d 170 497 ls (.int (g.getD k 0) :: st) (f_W (g.map Value.int) I L) Q := Wp.iald0 e170_496 hk h31
theorem e170_497 : decode (j_co 170) 497 = .ok (.aload_n 0, 1) := by decide +kernel
set_option maxRecDepth 20000 in
theorem w170_497 {d : Nat} {st : List Value} {Q : Option Value × jW → Prop} {w : jW} {a1 a2 a3 : Option Value} {x : Nat} : Wp d 170 497 [some (.ref x), a1, a2, a3] (st) w Q = Wp d 170 498 [some (.ref x), a1, a2, a3] (.ref x :: st) w Q := Wp.loc e170_497 rfl rfl rfl
theorem e170_498 : decode (j_co 170) 498 = .ok (.iload_n 3, 1) := by decide +kernel
set_option maxRecDepth 20000 in
theorem w170_498 {d : Nat} {st : List Value} {Q : Option Value × jW → Prop} {w : jW} {a0 a1 a2 : Option Value} {x : Int32} : Wp d 170 498 [a0, a1, a2, some (.int x)] (st) w Q = Wp d 170 499 [a0, a1, a2, some (.int x)] (.int x :: st) w Q := Wp.loc e170_498 rfl rfl rfl
theorem e170_499 : decode (j_co 170) 499 = .ok (.iconst 2, 1) := by decide +kernel
set_option maxRecDepth 20000 in
theorem w170_499 {d : Nat} {st : List Value} {Q : Option Value × jW → Prop} {ls : jL} {w : jW} : Wp d 170 499 ls (st) w Q = Wp d 170 500 ls (.int (nI 2) :: st) w Q := Wp.alu e170_499 rfl rfl
theorem e170_500 : decode (j_co 170) 500 = .ok (.iadd, 1) := by decide +kernel
set_option maxRecDepth 20000 in
theorem w170_500 {d : Nat} {st : List Value} {Q : Option Value × jW → Prop} {ls : jL} {w : jW} {a b : Int32} : Wp d 170 500 ls (.int b :: .int a :: st) w Q = Wp d 170 501 ls (.int (a + b) :: st) w Q := Wp.alu e170_500 rfl rfl
theorem e170_501 : decode (j_co 170) 501 = .ok (.iaload, 1) := by decide +kernel
theorem w170_501 {d k : Nat} {ls : jL} {st : List Value} {I : fI} {L : fL} {Q : Option Value × jW → Prop} {g : List Int32} (hk : k < g.length) (h31 : k < 2147483648) : Wp d 170 501 ls (.int (nI k) :: .ref 0 :: st) (f_W (g.map Value.int) I L) Q = Wp d 170 502 ls (.int (g.getD k 0) :: st) (f_W (g.map Value.int) I L) Q := Wp.iald0 e170_501 hk h31
theorem e170_502 : decode (j_co 170) 502 = .ok (.aload_n 0, 1) := by decide +kernel
set_option maxRecDepth 20000 in
theorem w170_502 {d : Nat} {st : List Value} {Q : Option Value × jW → Prop} {w : jW} {a1 a2 a3 : Option Value} {x : Nat} : Wp d 170 502 [some (.ref x), a1, a2, a3] (st) w Q = Wp d 170 503 [some (.ref x), a1, a2, a3] (.ref x :: st) w Q := Wp.loc e170_502 rfl rfl rfl
theorem e170_503 : decode (j_co 170) 503 = .ok (.iload_n 3, 1) := by decide +kernel
set_option maxRecDepth 20000 in
theorem w170_503 {d : Nat} {st : List Value} {Q : Option Value × jW → Prop} {w : jW} {a0 a1 a2 : Option Value} {x : Int32} : Wp d 170 503 [a0, a1, a2, some (.int x)] (st) w Q = Wp d 170 504 [a0, a1, a2, some (.int x)] (.int x :: st) w Q := Wp.loc e170_503 rfl rfl rfl
theorem e170_504 : decode (j_co 170) 504 = .ok (.iconst 3, 1) := by decide +kernel
set_option maxRecDepth 20000 in
theorem w170_504 {d : Nat} {st : List Value} {Q : Option Value × jW → Prop} {ls : jL} {w : jW} : Wp d 170 504 ls (st) w Q = Wp d 170 505 ls (.int (nI 3) :: st) w Q := Wp.alu e170_504 rfl rfl
theorem e170_505 : decode (j_co 170) 505 = .ok (.iadd, 1) := by decide +kernel
set_option maxRecDepth 20000 in
theorem w170_505 {d : Nat} {st : List Value} {Q : Option Value × jW → Prop} {ls : jL} {w : jW} {a b : Int32} : Wp d 170 505 ls (.int b :: .int a :: st) w Q = Wp d 170 506 ls (.int (a + b) :: st) w Q := Wp.alu e170_505 rfl rfl
theorem e170_506 : decode (j_co 170) 506 = .ok (.iaload, 1) := by decide +kernel
theorem w170_506 {d k : Nat} {ls : jL} {st : List Value} {I : fI} {L : fL} {Q : Option Value × jW → Prop} {g : List Int32} (hk : k < g.length) (h31 : k < 2147483648) : Wp d 170 506 ls (.int (nI k) :: .ref 0 :: st) (f_W (g.map Value.int) I L) Q = Wp d 170 507 ls (.int (g.getD k 0) :: st) (f_W (g.map Value.int) I L) Q := Wp.iald0 e170_506 hk h31
theorem e170_507 : decode (j_co 170) 507 = .ok (.aload_n 0, 1) := by decide +kernel
set_option maxRecDepth 20000 in
theorem w170_507 {d : Nat} {st : List Value} {Q : Option Value × jW → Prop} {w : jW} {a1 a2 a3 : Option Value} {x : Nat} : Wp d 170 507 [some (.ref x), a1, a2, a3] (st) w Q = Wp d 170 508 [some (.ref x), a1, a2, a3] (.ref x :: st) w Q := Wp.loc e170_507 rfl rfl rfl
theorem e170_508 : decode (j_co 170) 508 = .ok (.iload_n 3, 1) := by decide +kernel
set_option maxRecDepth 20000 in
theorem w170_508 {d : Nat} {st : List Value} {Q : Option Value × jW → Prop} {w : jW} {a0 a1 a2 : Option Value} {x : Int32} : Wp d 170 508 [a0, a1, a2, some (.int x)] (st) w Q = Wp d 170 509 [a0, a1, a2, some (.int x)] (.int x :: st) w Q := Wp.loc e170_508 rfl rfl rfl
theorem e170_509 : decode (j_co 170) 509 = .ok (.iconst 4, 1) := by decide +kernel
set_option maxRecDepth 20000 in
theorem w170_509 {d : Nat} {st : List Value} {Q : Option Value × jW → Prop} {ls : jL} {w : jW} : Wp d 170 509 ls (st) w Q = Wp d 170 510 ls (.int (nI 4) :: st) w Q := Wp.alu e170_509 rfl rfl
theorem e170_510 : decode (j_co 170) 510 = .ok (.iadd, 1) := by decide +kernel
set_option maxRecDepth 20000 in
theorem w170_510 {d : Nat} {st : List Value} {Q : Option Value × jW → Prop} {ls : jL} {w : jW} {a b : Int32} : Wp d 170 510 ls (.int b :: .int a :: st) w Q = Wp d 170 511 ls (.int (a + b) :: st) w Q := Wp.alu e170_510 rfl rfl
theorem e170_511 : decode (j_co 170) 511 = .ok (.iaload, 1) := by decide +kernel
theorem w170_511 {d k : Nat} {ls : jL} {st : List Value} {I : fI} {L : fL} {Q : Option Value × jW → Prop} {g : List Int32} (hk : k < g.length) (h31 : k < 2147483648) : Wp d 170 511 ls (.int (nI k) :: .ref 0 :: st) (f_W (g.map Value.int) I L) Q = Wp d 170 512 ls (.int (g.getD k 0) :: st) (f_W (g.map Value.int) I L) Q := Wp.iald0 e170_511 hk h31
theorem e170_512 : decode (j_co 170) 512 = .ok (.invokevirtual 49, 3) := by decide +kernel
set_option maxRecDepth 20000 in
theorem w170_512 {d : Nat} {st : List Value} {Q : Option Value × jW → Prop} {ls : jL} {xs : List Value} {I : fI} {L : fL} {r : Nat} {x0 : Int32} {x1 : Int32} {x2 : Int32} {x3 : Int32} (hs : j_sumc st ≤ 8) (ht : f_tg r = 11) : Wp (d + 1) 170 512 ls (.int x3 :: .int x2 :: .int x1 :: .int x0 :: .ref r :: st) (f_W xs I L) Q = Wp d 124 0 [some (.ref r), some (.int x0), some (.int x1), some (.int x2), some (.int x3)] [] (f_W xs I L) (fun r1 => Wp (d + 1) 170 515 ls (r1.1.toList ++ st) r1.2 Q) := Wp.cv (y' := 124) (as := [.int x0, .int x1, .int x2, .int x3]) e170_512 rfl (by decide) rfl (show 5 ≤ 5 by decide) (by decide) hs ht
theorem e170_515 : decode (j_co 170) 515 = .ok (.if_icmp .eq 691, 3) := by decide +kernel
set_option maxRecDepth 20000 in
theorem w170_515 {d : Nat} {st : List Value} {Q : Option Value × jW → Prop} {ls : jL} {w : jW} {a b : Int32} : Wp d 170 515 ls (.int b :: .int a :: st) w Q = ((a = b → Wp d 170 1206 ls st w Q) ∧ (¬ a = b → Wp d 170 518 ls st w Q)) := Wp.if2 (c := a = b) (off := 691) e170_515 rfl rfl rfl rfl rfl
theorem e170_518 : decode (j_co 170) 518 = .ok (.iconst 0, 1) := by decide +kernel
set_option maxRecDepth 20000 in
theorem w170_518 {d : Nat} {st : List Value} {Q : Option Value × jW → Prop} {ls : jL} {w : jW} : Wp d 170 518 ls (st) w Q = Wp d 170 519 ls (.int (nI 0) :: st) w Q := Wp.alu e170_518 rfl rfl
theorem e170_519 : decode (j_co 170) 519 = .ok (.ireturn, 1) := by decide +kernel
set_option maxRecDepth 20000 in
theorem w170_519 {d : Nat} {Q : Option Value × jW → Prop} {ls : jL} {w : jW} {x : Int32} (hx : x = 0 ∨ x = 1) : Wp d 170 519 ls [.int x] w Q = Q (some (.int x), w) := Wp.ret e170_519 (by rcases hx with rfl | rfl <;> rfl)
theorem e170_520 : decode (j_co 170) 520 = .ok (.aload_n 1, 1) := by decide +kernel
set_option maxRecDepth 20000 in
theorem w170_520 {d : Nat} {st : List Value} {Q : Option Value × jW → Prop} {w : jW} {a0 a2 a3 : Option Value} {x : Nat} : Wp d 170 520 [a0, some (.ref x), a2, a3] (st) w Q = Wp d 170 521 [a0, some (.ref x), a2, a3] (.ref x :: st) w Q := Wp.loc e170_520 rfl rfl rfl
theorem e170_521 : decode (j_co 170) 521 = .ok (.aload_n 0, 1) := by decide +kernel
set_option maxRecDepth 20000 in
theorem w170_521 {d : Nat} {st : List Value} {Q : Option Value × jW → Prop} {w : jW} {a1 a2 a3 : Option Value} {x : Nat} : Wp d 170 521 [some (.ref x), a1, a2, a3] (st) w Q = Wp d 170 522 [some (.ref x), a1, a2, a3] (.ref x :: st) w Q := Wp.loc e170_521 rfl rfl rfl
theorem e170_522 : decode (j_co 170) 522 = .ok (.iload_n 3, 1) := by decide +kernel
set_option maxRecDepth 20000 in
theorem w170_522 {d : Nat} {st : List Value} {Q : Option Value × jW → Prop} {w : jW} {a0 a1 a2 : Option Value} {x : Int32} : Wp d 170 522 [a0, a1, a2, some (.int x)] (st) w Q = Wp d 170 523 [a0, a1, a2, some (.int x)] (.int x :: st) w Q := Wp.loc e170_522 rfl rfl rfl
theorem e170_523 : decode (j_co 170) 523 = .ok (.iconst 1, 1) := by decide +kernel
set_option maxRecDepth 20000 in
theorem w170_523 {d : Nat} {st : List Value} {Q : Option Value × jW → Prop} {ls : jL} {w : jW} : Wp d 170 523 ls (st) w Q = Wp d 170 524 ls (.int (nI 1) :: st) w Q := Wp.alu e170_523 rfl rfl
theorem e170_524 : decode (j_co 170) 524 = .ok (.iadd, 1) := by decide +kernel
set_option maxRecDepth 20000 in
theorem w170_524 {d : Nat} {st : List Value} {Q : Option Value × jW → Prop} {ls : jL} {w : jW} {a b : Int32} : Wp d 170 524 ls (.int b :: .int a :: st) w Q = Wp d 170 525 ls (.int (a + b) :: st) w Q := Wp.alu e170_524 rfl rfl
theorem e170_525 : decode (j_co 170) 525 = .ok (.iaload, 1) := by decide +kernel
theorem w170_525 {d k : Nat} {ls : jL} {st : List Value} {I : fI} {L : fL} {Q : Option Value × jW → Prop} {g : List Int32} (hk : k < g.length) (h31 : k < 2147483648) : Wp d 170 525 ls (.int (nI k) :: .ref 0 :: st) (f_W (g.map Value.int) I L) Q = Wp d 170 526 ls (.int (g.getD k 0) :: st) (f_W (g.map Value.int) I L) Q := Wp.iald0 e170_525 hk h31
theorem e170_526 : decode (j_co 170) 526 = .ok (.invokevirtual 50, 3) := by decide +kernel
set_option maxRecDepth 20000 in
theorem w170_526 {d : Nat} {st : List Value} {Q : Option Value × jW → Prop} {ls : jL} {xs : List Value} {I : fI} {L : fL} {r : Nat} {x0 : Int32} (hs : j_sumc st ≤ 8) (ht : f_tg r = 10) : Wp (d + 1) 170 526 ls (.int x0 :: .ref r :: st) (f_W xs I L) Q = Wp d 26 0 [some (.ref r), some (.int x0), none] [] (f_W xs I L) (fun r1 => Wp (d + 1) 170 529 ls (r1.1.toList ++ st) r1.2 Q) := Wp.cv (y' := 26) (as := [.int x0]) e170_526 rfl (by decide) rfl (show 2 ≤ 3 by decide) (by decide) hs ht
theorem e170_529 : decode (j_co 170) 529 = .ok (.aload_n 2, 1) := by decide +kernel
set_option maxRecDepth 20000 in
theorem w170_529 {d : Nat} {st : List Value} {Q : Option Value × jW → Prop} {w : jW} {a0 a1 a3 : Option Value} {x : Nat} : Wp d 170 529 [a0, a1, some (.ref x), a3] (st) w Q = Wp d 170 530 [a0, a1, some (.ref x), a3] (.ref x :: st) w Q := Wp.loc e170_529 rfl rfl rfl
theorem e170_530 : decode (j_co 170) 530 = .ok (.aload_n 0, 1) := by decide +kernel
set_option maxRecDepth 20000 in
theorem w170_530 {d : Nat} {st : List Value} {Q : Option Value × jW → Prop} {w : jW} {a1 a2 a3 : Option Value} {x : Nat} : Wp d 170 530 [some (.ref x), a1, a2, a3] (st) w Q = Wp d 170 531 [some (.ref x), a1, a2, a3] (.ref x :: st) w Q := Wp.loc e170_530 rfl rfl rfl
theorem e170_531 : decode (j_co 170) 531 = .ok (.iload_n 3, 1) := by decide +kernel
set_option maxRecDepth 20000 in
theorem w170_531 {d : Nat} {st : List Value} {Q : Option Value × jW → Prop} {w : jW} {a0 a1 a2 : Option Value} {x : Int32} : Wp d 170 531 [a0, a1, a2, some (.int x)] (st) w Q = Wp d 170 532 [a0, a1, a2, some (.int x)] (.int x :: st) w Q := Wp.loc e170_531 rfl rfl rfl
theorem e170_532 : decode (j_co 170) 532 = .ok (.iconst 1, 1) := by decide +kernel
set_option maxRecDepth 20000 in
theorem w170_532 {d : Nat} {st : List Value} {Q : Option Value × jW → Prop} {ls : jL} {w : jW} : Wp d 170 532 ls (st) w Q = Wp d 170 533 ls (.int (nI 1) :: st) w Q := Wp.alu e170_532 rfl rfl
theorem e170_533 : decode (j_co 170) 533 = .ok (.iadd, 1) := by decide +kernel
set_option maxRecDepth 20000 in
theorem w170_533 {d : Nat} {st : List Value} {Q : Option Value × jW → Prop} {ls : jL} {w : jW} {a b : Int32} : Wp d 170 533 ls (.int b :: .int a :: st) w Q = Wp d 170 534 ls (.int (a + b) :: st) w Q := Wp.alu e170_533 rfl rfl
theorem e170_534 : decode (j_co 170) 534 = .ok (.iaload, 1) := by decide +kernel
theorem w170_534 {d k : Nat} {ls : jL} {st : List Value} {I : fI} {L : fL} {Q : Option Value × jW → Prop} {g : List Int32} (hk : k < g.length) (h31 : k < 2147483648) : Wp d 170 534 ls (.int (nI k) :: .ref 0 :: st) (f_W (g.map Value.int) I L) Q = Wp d 170 535 ls (.int (g.getD k 0) :: st) (f_W (g.map Value.int) I L) Q := Wp.iald0 e170_534 hk h31
theorem e170_535 : decode (j_co 170) 535 = .ok (.invokevirtual 53, 3) := by decide +kernel
set_option maxRecDepth 20000 in
theorem w170_535 {d : Nat} {st : List Value} {Q : Option Value × jW → Prop} {ls : jL} {xs : List Value} {I : fI} {L : fL} {r : Nat} {x0 : Int32} (hs : j_sumc st ≤ 8) (ht : f_tg r = 11) : Wp (d + 1) 170 535 ls (.int x0 :: .ref r :: st) (f_W xs I L) Q = Wp d 125 0 [some (.ref r), some (.int x0), none] [] (f_W xs I L) (fun r1 => Wp (d + 1) 170 538 ls (r1.1.toList ++ st) r1.2 Q) := Wp.cv (y' := 125) (as := [.int x0]) e170_535 rfl (by decide) rfl (show 2 ≤ 3 by decide) (by decide) hs ht
theorem e170_538 : decode (j_co 170) 538 = .ok (.if_icmp .eq 668, 3) := by decide +kernel
set_option maxRecDepth 20000 in
theorem w170_538 {d : Nat} {st : List Value} {Q : Option Value × jW → Prop} {ls : jL} {w : jW} {a b : Int32} : Wp d 170 538 ls (.int b :: .int a :: st) w Q = ((a = b → Wp d 170 1206 ls st w Q) ∧ (¬ a = b → Wp d 170 541 ls st w Q)) := Wp.if2 (c := a = b) (off := 668) e170_538 rfl rfl rfl rfl rfl
theorem e170_541 : decode (j_co 170) 541 = .ok (.iconst 0, 1) := by decide +kernel
set_option maxRecDepth 20000 in
theorem w170_541 {d : Nat} {st : List Value} {Q : Option Value × jW → Prop} {ls : jL} {w : jW} : Wp d 170 541 ls (st) w Q = Wp d 170 542 ls (.int (nI 0) :: st) w Q := Wp.alu e170_541 rfl rfl
theorem e170_542 : decode (j_co 170) 542 = .ok (.ireturn, 1) := by decide +kernel
set_option maxRecDepth 20000 in
theorem w170_542 {d : Nat} {Q : Option Value × jW → Prop} {ls : jL} {w : jW} {x : Int32} (hx : x = 0 ∨ x = 1) : Wp d 170 542 ls [.int x] w Q = Q (some (.int x), w) := Wp.ret e170_542 (by rcases hx with rfl | rfl <;> rfl)
theorem e170_543 : decode (j_co 170) 543 = .ok (.aload_n 1, 1) := by decide +kernel
set_option maxRecDepth 20000 in
theorem w170_543 {d : Nat} {st : List Value} {Q : Option Value × jW → Prop} {w : jW} {a0 a2 a3 : Option Value} {x : Nat} : Wp d 170 543 [a0, some (.ref x), a2, a3] (st) w Q = Wp d 170 544 [a0, some (.ref x), a2, a3] (.ref x :: st) w Q := Wp.loc e170_543 rfl rfl rfl
theorem e170_544 : decode (j_co 170) 544 = .ok (.aload_n 0, 1) := by decide +kernel
set_option maxRecDepth 20000 in
theorem w170_544 {d : Nat} {st : List Value} {Q : Option Value × jW → Prop} {w : jW} {a1 a2 a3 : Option Value} {x : Nat} : Wp d 170 544 [some (.ref x), a1, a2, a3] (st) w Q = Wp d 170 545 [some (.ref x), a1, a2, a3] (.ref x :: st) w Q := Wp.loc e170_544 rfl rfl rfl
theorem e170_545 : decode (j_co 170) 545 = .ok (.iload_n 3, 1) := by decide +kernel
set_option maxRecDepth 20000 in
theorem w170_545 {d : Nat} {st : List Value} {Q : Option Value × jW → Prop} {w : jW} {a0 a1 a2 : Option Value} {x : Int32} : Wp d 170 545 [a0, a1, a2, some (.int x)] (st) w Q = Wp d 170 546 [a0, a1, a2, some (.int x)] (.int x :: st) w Q := Wp.loc e170_545 rfl rfl rfl
theorem e170_546 : decode (j_co 170) 546 = .ok (.iconst 1, 1) := by decide +kernel
set_option maxRecDepth 20000 in
theorem w170_546 {d : Nat} {st : List Value} {Q : Option Value × jW → Prop} {ls : jL} {w : jW} : Wp d 170 546 ls (st) w Q = Wp d 170 547 ls (.int (nI 1) :: st) w Q := Wp.alu e170_546 rfl rfl
theorem e170_547 : decode (j_co 170) 547 = .ok (.iadd, 1) := by decide +kernel
set_option maxRecDepth 20000 in
theorem w170_547 {d : Nat} {st : List Value} {Q : Option Value × jW → Prop} {ls : jL} {w : jW} {a b : Int32} : Wp d 170 547 ls (.int b :: .int a :: st) w Q = Wp d 170 548 ls (.int (a + b) :: st) w Q := Wp.alu e170_547 rfl rfl
theorem e170_548 : decode (j_co 170) 548 = .ok (.iaload, 1) := by decide +kernel
theorem w170_548 {d k : Nat} {ls : jL} {st : List Value} {I : fI} {L : fL} {Q : Option Value × jW → Prop} {g : List Int32} (hk : k < g.length) (h31 : k < 2147483648) : Wp d 170 548 ls (.int (nI k) :: .ref 0 :: st) (f_W (g.map Value.int) I L) Q = Wp d 170 549 ls (.int (g.getD k 0) :: st) (f_W (g.map Value.int) I L) Q := Wp.iald0 e170_548 hk h31
theorem e170_549 : decode (j_co 170) 549 = .ok (.invokevirtual 54, 3) := by decide +kernel
set_option maxRecDepth 20000 in
theorem w170_549 {d : Nat} {st : List Value} {Q : Option Value × jW → Prop} {ls : jL} {xs : List Value} {I : fI} {L : fL} {r : Nat} {x0 : Int32} (hs : j_sumc st ≤ 8) (ht : f_tg r = 10) : Wp (d + 1) 170 549 ls (.int x0 :: .ref r :: st) (f_W xs I L) Q = Wp d 27 0 [some (.ref r), some (.int x0), none] [] (f_W xs I L) (fun r1 => Wp (d + 1) 170 552 ls (r1.1.toList ++ st) r1.2 Q) := Wp.cv (y' := 27) (as := [.int x0]) e170_549 rfl (by decide) rfl (show 2 ≤ 3 by decide) (by decide) hs ht
theorem e170_552 : decode (j_co 170) 552 = .ok (.aload_n 2, 1) := by decide +kernel
set_option maxRecDepth 20000 in
theorem w170_552 {d : Nat} {st : List Value} {Q : Option Value × jW → Prop} {w : jW} {a0 a1 a3 : Option Value} {x : Nat} : Wp d 170 552 [a0, a1, some (.ref x), a3] (st) w Q = Wp d 170 553 [a0, a1, some (.ref x), a3] (.ref x :: st) w Q := Wp.loc e170_552 rfl rfl rfl
theorem e170_553 : decode (j_co 170) 553 = .ok (.aload_n 0, 1) := by decide +kernel
set_option maxRecDepth 20000 in
theorem w170_553 {d : Nat} {st : List Value} {Q : Option Value × jW → Prop} {w : jW} {a1 a2 a3 : Option Value} {x : Nat} : Wp d 170 553 [some (.ref x), a1, a2, a3] (st) w Q = Wp d 170 554 [some (.ref x), a1, a2, a3] (.ref x :: st) w Q := Wp.loc e170_553 rfl rfl rfl
theorem e170_554 : decode (j_co 170) 554 = .ok (.iload_n 3, 1) := by decide +kernel
set_option maxRecDepth 20000 in
theorem w170_554 {d : Nat} {st : List Value} {Q : Option Value × jW → Prop} {w : jW} {a0 a1 a2 : Option Value} {x : Int32} : Wp d 170 554 [a0, a1, a2, some (.int x)] (st) w Q = Wp d 170 555 [a0, a1, a2, some (.int x)] (.int x :: st) w Q := Wp.loc e170_554 rfl rfl rfl
theorem e170_555 : decode (j_co 170) 555 = .ok (.iconst 1, 1) := by decide +kernel
set_option maxRecDepth 20000 in
theorem w170_555 {d : Nat} {st : List Value} {Q : Option Value × jW → Prop} {ls : jL} {w : jW} : Wp d 170 555 ls (st) w Q = Wp d 170 556 ls (.int (nI 1) :: st) w Q := Wp.alu e170_555 rfl rfl
theorem e170_556 : decode (j_co 170) 556 = .ok (.iadd, 1) := by decide +kernel
set_option maxRecDepth 20000 in
theorem w170_556 {d : Nat} {st : List Value} {Q : Option Value × jW → Prop} {ls : jL} {w : jW} {a b : Int32} : Wp d 170 556 ls (.int b :: .int a :: st) w Q = Wp d 170 557 ls (.int (a + b) :: st) w Q := Wp.alu e170_556 rfl rfl
theorem e170_557 : decode (j_co 170) 557 = .ok (.iaload, 1) := by decide +kernel
theorem w170_557 {d k : Nat} {ls : jL} {st : List Value} {I : fI} {L : fL} {Q : Option Value × jW → Prop} {g : List Int32} (hk : k < g.length) (h31 : k < 2147483648) : Wp d 170 557 ls (.int (nI k) :: .ref 0 :: st) (f_W (g.map Value.int) I L) Q = Wp d 170 558 ls (.int (g.getD k 0) :: st) (f_W (g.map Value.int) I L) Q := Wp.iald0 e170_557 hk h31
theorem e170_558 : decode (j_co 170) 558 = .ok (.invokevirtual 57, 3) := by decide +kernel
set_option maxRecDepth 20000 in
theorem w170_558 {d : Nat} {st : List Value} {Q : Option Value × jW → Prop} {ls : jL} {xs : List Value} {I : fI} {L : fL} {r : Nat} {x0 : Int32} (hs : j_sumc st ≤ 8) (ht : f_tg r = 11) : Wp (d + 1) 170 558 ls (.int x0 :: .ref r :: st) (f_W xs I L) Q = Wp d 126 0 [some (.ref r), some (.int x0), none] [] (f_W xs I L) (fun r1 => Wp (d + 1) 170 561 ls (r1.1.toList ++ st) r1.2 Q) := Wp.cv (y' := 126) (as := [.int x0]) e170_558 rfl (by decide) rfl (show 2 ≤ 3 by decide) (by decide) hs ht
theorem e170_561 : decode (j_co 170) 561 = .ok (.if_icmp .eq 645, 3) := by decide +kernel
set_option maxRecDepth 20000 in
theorem w170_561 {d : Nat} {st : List Value} {Q : Option Value × jW → Prop} {ls : jL} {w : jW} {a b : Int32} : Wp d 170 561 ls (.int b :: .int a :: st) w Q = ((a = b → Wp d 170 1206 ls st w Q) ∧ (¬ a = b → Wp d 170 564 ls st w Q)) := Wp.if2 (c := a = b) (off := 645) e170_561 rfl rfl rfl rfl rfl
theorem e170_564 : decode (j_co 170) 564 = .ok (.iconst 0, 1) := by decide +kernel
set_option maxRecDepth 20000 in
theorem w170_564 {d : Nat} {st : List Value} {Q : Option Value × jW → Prop} {ls : jL} {w : jW} : Wp d 170 564 ls (st) w Q = Wp d 170 565 ls (.int (nI 0) :: st) w Q := Wp.alu e170_564 rfl rfl
theorem e170_565 : decode (j_co 170) 565 = .ok (.ireturn, 1) := by decide +kernel
set_option maxRecDepth 20000 in
theorem w170_565 {d : Nat} {Q : Option Value × jW → Prop} {ls : jL} {w : jW} {x : Int32} (hx : x = 0 ∨ x = 1) : Wp d 170 565 ls [.int x] w Q = Q (some (.int x), w) := Wp.ret e170_565 (by rcases hx with rfl | rfl <;> rfl)
theorem e170_566 : decode (j_co 170) 566 = .ok (.aload_n 1, 1) := by decide +kernel
set_option maxRecDepth 20000 in
theorem w170_566 {d : Nat} {st : List Value} {Q : Option Value × jW → Prop} {w : jW} {a0 a2 a3 : Option Value} {x : Nat} : Wp d 170 566 [a0, some (.ref x), a2, a3] (st) w Q = Wp d 170 567 [a0, some (.ref x), a2, a3] (.ref x :: st) w Q := Wp.loc e170_566 rfl rfl rfl
theorem e170_567 : decode (j_co 170) 567 = .ok (.invokevirtual 58, 3) := by decide +kernel
set_option maxRecDepth 20000 in
theorem w170_567 {d : Nat} {st : List Value} {Q : Option Value × jW → Prop} {ls : jL} {xs : List Value} {I : fI} {L : fL} {r : Nat} (hs : j_sumc st ≤ 8) (ht : f_tg r = 10) : Wp (d + 1) 170 567 ls (.ref r :: st) (f_W xs I L) Q = Wp d 28 0 [some (.ref r)] [] (f_W xs I L) (fun r1 => Wp (d + 1) 170 570 ls (r1.1.toList ++ st) r1.2 Q) := Wp.cv (y' := 28) (as := []) e170_567 rfl (by decide) rfl (show 1 ≤ 1 by decide) (by decide) hs ht
theorem e170_570 : decode (j_co 170) 570 = .ok (.aload_n 2, 1) := by decide +kernel
set_option maxRecDepth 20000 in
theorem w170_570 {d : Nat} {st : List Value} {Q : Option Value × jW → Prop} {w : jW} {a0 a1 a3 : Option Value} {x : Nat} : Wp d 170 570 [a0, a1, some (.ref x), a3] (st) w Q = Wp d 170 571 [a0, a1, some (.ref x), a3] (.ref x :: st) w Q := Wp.loc e170_570 rfl rfl rfl
theorem e170_571 : decode (j_co 170) 571 = .ok (.invokevirtual 61, 3) := by decide +kernel
set_option maxRecDepth 20000 in
theorem w170_571 {d : Nat} {st : List Value} {Q : Option Value × jW → Prop} {ls : jL} {xs : List Value} {I : fI} {L : fL} {r : Nat} (hs : j_sumc st ≤ 8) (ht : f_tg r = 11) : Wp (d + 1) 170 571 ls (.ref r :: st) (f_W xs I L) Q = Wp d 127 0 [some (.ref r)] [] (f_W xs I L) (fun r1 => Wp (d + 1) 170 574 ls (r1.1.toList ++ st) r1.2 Q) := Wp.cv (y' := 127) (as := []) e170_571 rfl (by decide) rfl (show 1 ≤ 1 by decide) (by decide) hs ht
theorem e170_574 : decode (j_co 170) 574 = .ok (.if_icmp .eq 632, 3) := by decide +kernel
set_option maxRecDepth 20000 in
theorem w170_574 {d : Nat} {st : List Value} {Q : Option Value × jW → Prop} {ls : jL} {w : jW} {a b : Int32} : Wp d 170 574 ls (.int b :: .int a :: st) w Q = ((a = b → Wp d 170 1206 ls st w Q) ∧ (¬ a = b → Wp d 170 577 ls st w Q)) := Wp.if2 (c := a = b) (off := 632) e170_574 rfl rfl rfl rfl rfl
theorem e170_577 : decode (j_co 170) 577 = .ok (.iconst 0, 1) := by decide +kernel
set_option maxRecDepth 20000 in
theorem w170_577 {d : Nat} {st : List Value} {Q : Option Value × jW → Prop} {ls : jL} {w : jW} : Wp d 170 577 ls (st) w Q = Wp d 170 578 ls (.int (nI 0) :: st) w Q := Wp.alu e170_577 rfl rfl
theorem e170_578 : decode (j_co 170) 578 = .ok (.ireturn, 1) := by decide +kernel
set_option maxRecDepth 20000 in
theorem w170_578 {d : Nat} {Q : Option Value × jW → Prop} {ls : jL} {w : jW} {x : Int32} (hx : x = 0 ∨ x = 1) : Wp d 170 578 ls [.int x] w Q = Q (some (.int x), w) := Wp.ret e170_578 (by rcases hx with rfl | rfl <;> rfl)
theorem e170_579 : decode (j_co 170) 579 = .ok (.aload_n 1, 1) := by decide +kernel
set_option maxRecDepth 20000 in
theorem w170_579 {d : Nat} {st : List Value} {Q : Option Value × jW → Prop} {w : jW} {a0 a2 a3 : Option Value} {x : Nat} : Wp d 170 579 [a0, some (.ref x), a2, a3] (st) w Q = Wp d 170 580 [a0, some (.ref x), a2, a3] (.ref x :: st) w Q := Wp.loc e170_579 rfl rfl rfl
theorem e170_580 : decode (j_co 170) 580 = .ok (.aload_n 0, 1) := by decide +kernel
set_option maxRecDepth 20000 in
theorem w170_580 {d : Nat} {st : List Value} {Q : Option Value × jW → Prop} {w : jW} {a1 a2 a3 : Option Value} {x : Nat} : Wp d 170 580 [some (.ref x), a1, a2, a3] (st) w Q = Wp d 170 581 [some (.ref x), a1, a2, a3] (.ref x :: st) w Q := Wp.loc e170_580 rfl rfl rfl
theorem e170_581 : decode (j_co 170) 581 = .ok (.iload_n 3, 1) := by decide +kernel
set_option maxRecDepth 20000 in
theorem w170_581 {d : Nat} {st : List Value} {Q : Option Value × jW → Prop} {w : jW} {a0 a1 a2 : Option Value} {x : Int32} : Wp d 170 581 [a0, a1, a2, some (.int x)] (st) w Q = Wp d 170 582 [a0, a1, a2, some (.int x)] (.int x :: st) w Q := Wp.loc e170_581 rfl rfl rfl
theorem e170_582 : decode (j_co 170) 582 = .ok (.iconst 1, 1) := by decide +kernel
set_option maxRecDepth 20000 in
theorem w170_582 {d : Nat} {st : List Value} {Q : Option Value × jW → Prop} {ls : jL} {w : jW} : Wp d 170 582 ls (st) w Q = Wp d 170 583 ls (.int (nI 1) :: st) w Q := Wp.alu e170_582 rfl rfl
theorem e170_583 : decode (j_co 170) 583 = .ok (.iadd, 1) := by decide +kernel
set_option maxRecDepth 20000 in
theorem w170_583 {d : Nat} {st : List Value} {Q : Option Value × jW → Prop} {ls : jL} {w : jW} {a b : Int32} : Wp d 170 583 ls (.int b :: .int a :: st) w Q = Wp d 170 584 ls (.int (a + b) :: st) w Q := Wp.alu e170_583 rfl rfl
theorem e170_584 : decode (j_co 170) 584 = .ok (.iaload, 1) := by decide +kernel
theorem w170_584 {d k : Nat} {ls : jL} {st : List Value} {I : fI} {L : fL} {Q : Option Value × jW → Prop} {g : List Int32} (hk : k < g.length) (h31 : k < 2147483648) : Wp d 170 584 ls (.int (nI k) :: .ref 0 :: st) (f_W (g.map Value.int) I L) Q = Wp d 170 585 ls (.int (g.getD k 0) :: st) (f_W (g.map Value.int) I L) Q := Wp.iald0 e170_584 hk h31
theorem e170_585 : decode (j_co 170) 585 = .ok (.aload_n 0, 1) := by decide +kernel
set_option maxRecDepth 20000 in
theorem w170_585 {d : Nat} {st : List Value} {Q : Option Value × jW → Prop} {w : jW} {a1 a2 a3 : Option Value} {x : Nat} : Wp d 170 585 [some (.ref x), a1, a2, a3] (st) w Q = Wp d 170 586 [some (.ref x), a1, a2, a3] (.ref x :: st) w Q := Wp.loc e170_585 rfl rfl rfl
theorem e170_586 : decode (j_co 170) 586 = .ok (.iload_n 3, 1) := by decide +kernel
set_option maxRecDepth 20000 in
theorem w170_586 {d : Nat} {st : List Value} {Q : Option Value × jW → Prop} {w : jW} {a0 a1 a2 : Option Value} {x : Int32} : Wp d 170 586 [a0, a1, a2, some (.int x)] (st) w Q = Wp d 170 587 [a0, a1, a2, some (.int x)] (.int x :: st) w Q := Wp.loc e170_586 rfl rfl rfl
theorem e170_587 : decode (j_co 170) 587 = .ok (.iconst 2, 1) := by decide +kernel
set_option maxRecDepth 20000 in
theorem w170_587 {d : Nat} {st : List Value} {Q : Option Value × jW → Prop} {ls : jL} {w : jW} : Wp d 170 587 ls (st) w Q = Wp d 170 588 ls (.int (nI 2) :: st) w Q := Wp.alu e170_587 rfl rfl
theorem e170_588 : decode (j_co 170) 588 = .ok (.iadd, 1) := by decide +kernel
set_option maxRecDepth 20000 in
theorem w170_588 {d : Nat} {st : List Value} {Q : Option Value × jW → Prop} {ls : jL} {w : jW} {a b : Int32} : Wp d 170 588 ls (.int b :: .int a :: st) w Q = Wp d 170 589 ls (.int (a + b) :: st) w Q := Wp.alu e170_588 rfl rfl
theorem e170_589 : decode (j_co 170) 589 = .ok (.iaload, 1) := by decide +kernel
theorem w170_589 {d k : Nat} {ls : jL} {st : List Value} {I : fI} {L : fL} {Q : Option Value × jW → Prop} {g : List Int32} (hk : k < g.length) (h31 : k < 2147483648) : Wp d 170 589 ls (.int (nI k) :: .ref 0 :: st) (f_W (g.map Value.int) I L) Q = Wp d 170 590 ls (.int (g.getD k 0) :: st) (f_W (g.map Value.int) I L) Q := Wp.iald0 e170_589 hk h31
theorem e170_590 : decode (j_co 170) 590 = .ok (.invokevirtual 62, 3) := by decide +kernel
set_option maxRecDepth 20000 in
theorem w170_590 {d : Nat} {st : List Value} {Q : Option Value × jW → Prop} {ls : jL} {xs : List Value} {I : fI} {L : fL} {r : Nat} {x0 : Int32} {x1 : Int32} (hs : j_sumc st ≤ 8) (ht : f_tg r = 10) : Wp (d + 1) 170 590 ls (.int x1 :: .int x0 :: .ref r :: st) (f_W xs I L) Q = Wp d 54 0 [some (.ref r), some (.int x0), some (.int x1), none] [] (f_W xs I L) (fun r1 => Wp (d + 1) 170 593 ls (r1.1.toList ++ st) r1.2 Q) := Wp.cv (y' := 54) (as := [.int x0, .int x1]) e170_590 rfl (by decide) rfl (show 3 ≤ 4 by decide) (by decide) hs ht
theorem e170_593 : decode (j_co 170) 593 = .ok (.aload_n 2, 1) := by decide +kernel
set_option maxRecDepth 20000 in
theorem w170_593 {d : Nat} {st : List Value} {Q : Option Value × jW → Prop} {w : jW} {a0 a1 a3 : Option Value} {x : Nat} : Wp d 170 593 [a0, a1, some (.ref x), a3] (st) w Q = Wp d 170 594 [a0, a1, some (.ref x), a3] (.ref x :: st) w Q := Wp.loc e170_593 rfl rfl rfl
theorem e170_594 : decode (j_co 170) 594 = .ok (.aload_n 0, 1) := by decide +kernel
set_option maxRecDepth 20000 in
theorem w170_594 {d : Nat} {st : List Value} {Q : Option Value × jW → Prop} {w : jW} {a1 a2 a3 : Option Value} {x : Nat} : Wp d 170 594 [some (.ref x), a1, a2, a3] (st) w Q = Wp d 170 595 [some (.ref x), a1, a2, a3] (.ref x :: st) w Q := Wp.loc e170_594 rfl rfl rfl
theorem e170_595 : decode (j_co 170) 595 = .ok (.iload_n 3, 1) := by decide +kernel
set_option maxRecDepth 20000 in
theorem w170_595 {d : Nat} {st : List Value} {Q : Option Value × jW → Prop} {w : jW} {a0 a1 a2 : Option Value} {x : Int32} : Wp d 170 595 [a0, a1, a2, some (.int x)] (st) w Q = Wp d 170 596 [a0, a1, a2, some (.int x)] (.int x :: st) w Q := Wp.loc e170_595 rfl rfl rfl
theorem e170_596 : decode (j_co 170) 596 = .ok (.iconst 1, 1) := by decide +kernel
set_option maxRecDepth 20000 in
theorem w170_596 {d : Nat} {st : List Value} {Q : Option Value × jW → Prop} {ls : jL} {w : jW} : Wp d 170 596 ls (st) w Q = Wp d 170 597 ls (.int (nI 1) :: st) w Q := Wp.alu e170_596 rfl rfl
theorem e170_597 : decode (j_co 170) 597 = .ok (.iadd, 1) := by decide +kernel
set_option maxRecDepth 20000 in
theorem w170_597 {d : Nat} {st : List Value} {Q : Option Value × jW → Prop} {ls : jL} {w : jW} {a b : Int32} : Wp d 170 597 ls (.int b :: .int a :: st) w Q = Wp d 170 598 ls (.int (a + b) :: st) w Q := Wp.alu e170_597 rfl rfl
theorem e170_598 : decode (j_co 170) 598 = .ok (.iaload, 1) := by decide +kernel
theorem w170_598 {d k : Nat} {ls : jL} {st : List Value} {I : fI} {L : fL} {Q : Option Value × jW → Prop} {g : List Int32} (hk : k < g.length) (h31 : k < 2147483648) : Wp d 170 598 ls (.int (nI k) :: .ref 0 :: st) (f_W (g.map Value.int) I L) Q = Wp d 170 599 ls (.int (g.getD k 0) :: st) (f_W (g.map Value.int) I L) Q := Wp.iald0 e170_598 hk h31
theorem e170_599 : decode (j_co 170) 599 = .ok (.aload_n 0, 1) := by decide +kernel
set_option maxRecDepth 20000 in
theorem w170_599 {d : Nat} {st : List Value} {Q : Option Value × jW → Prop} {w : jW} {a1 a2 a3 : Option Value} {x : Nat} : Wp d 170 599 [some (.ref x), a1, a2, a3] (st) w Q = Wp d 170 600 [some (.ref x), a1, a2, a3] (.ref x :: st) w Q := Wp.loc e170_599 rfl rfl rfl
theorem e170_600 : decode (j_co 170) 600 = .ok (.iload_n 3, 1) := by decide +kernel
set_option maxRecDepth 20000 in
theorem w170_600 {d : Nat} {st : List Value} {Q : Option Value × jW → Prop} {w : jW} {a0 a1 a2 : Option Value} {x : Int32} : Wp d 170 600 [a0, a1, a2, some (.int x)] (st) w Q = Wp d 170 601 [a0, a1, a2, some (.int x)] (.int x :: st) w Q := Wp.loc e170_600 rfl rfl rfl
theorem e170_601 : decode (j_co 170) 601 = .ok (.iconst 2, 1) := by decide +kernel
set_option maxRecDepth 20000 in
theorem w170_601 {d : Nat} {st : List Value} {Q : Option Value × jW → Prop} {ls : jL} {w : jW} : Wp d 170 601 ls (st) w Q = Wp d 170 602 ls (.int (nI 2) :: st) w Q := Wp.alu e170_601 rfl rfl
theorem e170_602 : decode (j_co 170) 602 = .ok (.iadd, 1) := by decide +kernel
set_option maxRecDepth 20000 in
theorem w170_602 {d : Nat} {st : List Value} {Q : Option Value × jW → Prop} {ls : jL} {w : jW} {a b : Int32} : Wp d 170 602 ls (.int b :: .int a :: st) w Q = Wp d 170 603 ls (.int (a + b) :: st) w Q := Wp.alu e170_602 rfl rfl
theorem e170_603 : decode (j_co 170) 603 = .ok (.iaload, 1) := by decide +kernel
theorem w170_603 {d k : Nat} {ls : jL} {st : List Value} {I : fI} {L : fL} {Q : Option Value × jW → Prop} {g : List Int32} (hk : k < g.length) (h31 : k < 2147483648) : Wp d 170 603 ls (.int (nI k) :: .ref 0 :: st) (f_W (g.map Value.int) I L) Q = Wp d 170 604 ls (.int (g.getD k 0) :: st) (f_W (g.map Value.int) I L) Q := Wp.iald0 e170_603 hk h31
theorem e170_604 : decode (j_co 170) 604 = .ok (.invokevirtual 65, 3) := by decide +kernel
set_option maxRecDepth 20000 in
theorem w170_604 {d : Nat} {st : List Value} {Q : Option Value × jW → Prop} {ls : jL} {xs : List Value} {I : fI} {L : fL} {r : Nat} {x0 : Int32} {x1 : Int32} (hs : j_sumc st ≤ 8) (ht : f_tg r = 11) : Wp (d + 1) 170 604 ls (.int x1 :: .int x0 :: .ref r :: st) (f_W xs I L) Q = Wp d 145 0 [some (.ref r), some (.int x0), some (.int x1)] [] (f_W xs I L) (fun r1 => Wp (d + 1) 170 607 ls (r1.1.toList ++ st) r1.2 Q) := Wp.cv (y' := 145) (as := [.int x0, .int x1]) e170_604 rfl (by decide) rfl (show 3 ≤ 3 by decide) (by decide) hs ht
theorem e170_607 : decode (j_co 170) 607 = .ok (.if_icmp .eq 599, 3) := by decide +kernel
set_option maxRecDepth 20000 in
theorem w170_607 {d : Nat} {st : List Value} {Q : Option Value × jW → Prop} {ls : jL} {w : jW} {a b : Int32} : Wp d 170 607 ls (.int b :: .int a :: st) w Q = ((a = b → Wp d 170 1206 ls st w Q) ∧ (¬ a = b → Wp d 170 610 ls st w Q)) := Wp.if2 (c := a = b) (off := 599) e170_607 rfl rfl rfl rfl rfl
theorem e170_610 : decode (j_co 170) 610 = .ok (.iconst 0, 1) := by decide +kernel
set_option maxRecDepth 20000 in
theorem w170_610 {d : Nat} {st : List Value} {Q : Option Value × jW → Prop} {ls : jL} {w : jW} : Wp d 170 610 ls (st) w Q = Wp d 170 611 ls (.int (nI 0) :: st) w Q := Wp.alu e170_610 rfl rfl
theorem e170_611 : decode (j_co 170) 611 = .ok (.ireturn, 1) := by decide +kernel
set_option maxRecDepth 20000 in
theorem w170_611 {d : Nat} {Q : Option Value × jW → Prop} {ls : jL} {w : jW} {x : Int32} (hx : x = 0 ∨ x = 1) : Wp d 170 611 ls [.int x] w Q = Q (some (.int x), w) := Wp.ret e170_611 (by rcases hx with rfl | rfl <;> rfl)
theorem e170_612 : decode (j_co 170) 612 = .ok (.aload_n 1, 1) := by decide +kernel
set_option maxRecDepth 20000 in
theorem w170_612 {d : Nat} {st : List Value} {Q : Option Value × jW → Prop} {w : jW} {a0 a2 a3 : Option Value} {x : Nat} : Wp d 170 612 [a0, some (.ref x), a2, a3] (st) w Q = Wp d 170 613 [a0, some (.ref x), a2, a3] (.ref x :: st) w Q := Wp.loc e170_612 rfl rfl rfl
theorem e170_613 : decode (j_co 170) 613 = .ok (.aload_n 0, 1) := by decide +kernel
set_option maxRecDepth 20000 in
theorem w170_613 {d : Nat} {st : List Value} {Q : Option Value × jW → Prop} {w : jW} {a1 a2 a3 : Option Value} {x : Nat} : Wp d 170 613 [some (.ref x), a1, a2, a3] (st) w Q = Wp d 170 614 [some (.ref x), a1, a2, a3] (.ref x :: st) w Q := Wp.loc e170_613 rfl rfl rfl
theorem e170_614 : decode (j_co 170) 614 = .ok (.iload_n 3, 1) := by decide +kernel
set_option maxRecDepth 20000 in
theorem w170_614 {d : Nat} {st : List Value} {Q : Option Value × jW → Prop} {w : jW} {a0 a1 a2 : Option Value} {x : Int32} : Wp d 170 614 [a0, a1, a2, some (.int x)] (st) w Q = Wp d 170 615 [a0, a1, a2, some (.int x)] (.int x :: st) w Q := Wp.loc e170_614 rfl rfl rfl
theorem e170_615 : decode (j_co 170) 615 = .ok (.iconst 1, 1) := by decide +kernel
set_option maxRecDepth 20000 in
theorem w170_615 {d : Nat} {st : List Value} {Q : Option Value × jW → Prop} {ls : jL} {w : jW} : Wp d 170 615 ls (st) w Q = Wp d 170 616 ls (.int (nI 1) :: st) w Q := Wp.alu e170_615 rfl rfl
theorem e170_616 : decode (j_co 170) 616 = .ok (.iadd, 1) := by decide +kernel
set_option maxRecDepth 20000 in
theorem w170_616 {d : Nat} {st : List Value} {Q : Option Value × jW → Prop} {ls : jL} {w : jW} {a b : Int32} : Wp d 170 616 ls (.int b :: .int a :: st) w Q = Wp d 170 617 ls (.int (a + b) :: st) w Q := Wp.alu e170_616 rfl rfl
theorem e170_617 : decode (j_co 170) 617 = .ok (.iaload, 1) := by decide +kernel
theorem w170_617 {d k : Nat} {ls : jL} {st : List Value} {I : fI} {L : fL} {Q : Option Value × jW → Prop} {g : List Int32} (hk : k < g.length) (h31 : k < 2147483648) : Wp d 170 617 ls (.int (nI k) :: .ref 0 :: st) (f_W (g.map Value.int) I L) Q = Wp d 170 618 ls (.int (g.getD k 0) :: st) (f_W (g.map Value.int) I L) Q := Wp.iald0 e170_617 hk h31
theorem e170_618 : decode (j_co 170) 618 = .ok (.aload_n 0, 1) := by decide +kernel
set_option maxRecDepth 20000 in
theorem w170_618 {d : Nat} {st : List Value} {Q : Option Value × jW → Prop} {w : jW} {a1 a2 a3 : Option Value} {x : Nat} : Wp d 170 618 [some (.ref x), a1, a2, a3] (st) w Q = Wp d 170 619 [some (.ref x), a1, a2, a3] (.ref x :: st) w Q := Wp.loc e170_618 rfl rfl rfl
theorem e170_619 : decode (j_co 170) 619 = .ok (.iload_n 3, 1) := by decide +kernel
set_option maxRecDepth 20000 in
theorem w170_619 {d : Nat} {st : List Value} {Q : Option Value × jW → Prop} {w : jW} {a0 a1 a2 : Option Value} {x : Int32} : Wp d 170 619 [a0, a1, a2, some (.int x)] (st) w Q = Wp d 170 620 [a0, a1, a2, some (.int x)] (.int x :: st) w Q := Wp.loc e170_619 rfl rfl rfl
theorem e170_620 : decode (j_co 170) 620 = .ok (.iconst 2, 1) := by decide +kernel
set_option maxRecDepth 20000 in
theorem w170_620 {d : Nat} {st : List Value} {Q : Option Value × jW → Prop} {ls : jL} {w : jW} : Wp d 170 620 ls (st) w Q = Wp d 170 621 ls (.int (nI 2) :: st) w Q := Wp.alu e170_620 rfl rfl
theorem e170_621 : decode (j_co 170) 621 = .ok (.iadd, 1) := by decide +kernel
set_option maxRecDepth 20000 in
theorem w170_621 {d : Nat} {st : List Value} {Q : Option Value × jW → Prop} {ls : jL} {w : jW} {a b : Int32} : Wp d 170 621 ls (.int b :: .int a :: st) w Q = Wp d 170 622 ls (.int (a + b) :: st) w Q := Wp.alu e170_621 rfl rfl
theorem e170_622 : decode (j_co 170) 622 = .ok (.iaload, 1) := by decide +kernel
theorem w170_622 {d k : Nat} {ls : jL} {st : List Value} {I : fI} {L : fL} {Q : Option Value × jW → Prop} {g : List Int32} (hk : k < g.length) (h31 : k < 2147483648) : Wp d 170 622 ls (.int (nI k) :: .ref 0 :: st) (f_W (g.map Value.int) I L) Q = Wp d 170 623 ls (.int (g.getD k 0) :: st) (f_W (g.map Value.int) I L) Q := Wp.iald0 e170_622 hk h31
theorem e170_623 : decode (j_co 170) 623 = .ok (.aload_n 0, 1) := by decide +kernel
set_option maxRecDepth 20000 in
theorem w170_623 {d : Nat} {st : List Value} {Q : Option Value × jW → Prop} {w : jW} {a1 a2 a3 : Option Value} {x : Nat} : Wp d 170 623 [some (.ref x), a1, a2, a3] (st) w Q = Wp d 170 624 [some (.ref x), a1, a2, a3] (.ref x :: st) w Q := Wp.loc e170_623 rfl rfl rfl
theorem e170_624 : decode (j_co 170) 624 = .ok (.iload_n 3, 1) := by decide +kernel
set_option maxRecDepth 20000 in
theorem w170_624 {d : Nat} {st : List Value} {Q : Option Value × jW → Prop} {w : jW} {a0 a1 a2 : Option Value} {x : Int32} : Wp d 170 624 [a0, a1, a2, some (.int x)] (st) w Q = Wp d 170 625 [a0, a1, a2, some (.int x)] (.int x :: st) w Q := Wp.loc e170_624 rfl rfl rfl
theorem e170_625 : decode (j_co 170) 625 = .ok (.iconst 3, 1) := by decide +kernel
set_option maxRecDepth 20000 in
theorem w170_625 {d : Nat} {st : List Value} {Q : Option Value × jW → Prop} {ls : jL} {w : jW} : Wp d 170 625 ls (st) w Q = Wp d 170 626 ls (.int (nI 3) :: st) w Q := Wp.alu e170_625 rfl rfl
theorem e170_626 : decode (j_co 170) 626 = .ok (.iadd, 1) := by decide +kernel
set_option maxRecDepth 20000 in
theorem w170_626 {d : Nat} {st : List Value} {Q : Option Value × jW → Prop} {ls : jL} {w : jW} {a b : Int32} : Wp d 170 626 ls (.int b :: .int a :: st) w Q = Wp d 170 627 ls (.int (a + b) :: st) w Q := Wp.alu e170_626 rfl rfl
theorem e170_627 : decode (j_co 170) 627 = .ok (.iaload, 1) := by decide +kernel
theorem w170_627 {d k : Nat} {ls : jL} {st : List Value} {I : fI} {L : fL} {Q : Option Value × jW → Prop} {g : List Int32} (hk : k < g.length) (h31 : k < 2147483648) : Wp d 170 627 ls (.int (nI k) :: .ref 0 :: st) (f_W (g.map Value.int) I L) Q = Wp d 170 628 ls (.int (g.getD k 0) :: st) (f_W (g.map Value.int) I L) Q := Wp.iald0 e170_627 hk h31
theorem e170_628 : decode (j_co 170) 628 = .ok (.ifCond .eq 7, 3) := by decide +kernel
set_option maxRecDepth 20000 in
theorem w170_628 {d : Nat} {st : List Value} {Q : Option Value × jW → Prop} {ls : jL} {w : jW} {a : Int32} : Wp d 170 628 ls (.int a :: st) w Q = ((a = nI 0 → Wp d 170 635 ls st w Q) ∧ (¬ a = nI 0 → Wp d 170 631 ls st w Q)) := Wp.if2 (c := a = nI 0) (off := 7) e170_628 rfl rfl rfl rfl rfl
theorem e170_631 : decode (j_co 170) 631 = .ok (.iconst 1, 1) := by decide +kernel
set_option maxRecDepth 20000 in
theorem w170_631 {d : Nat} {st : List Value} {Q : Option Value × jW → Prop} {ls : jL} {w : jW} : Wp d 170 631 ls (st) w Q = Wp d 170 632 ls (.int (nI 1) :: st) w Q := Wp.alu e170_631 rfl rfl
theorem e170_632 : decode (j_co 170) 632 = .ok (.goto 4, 3) := by decide +kernel
set_option maxRecDepth 20000 in
theorem w170_632 {d : Nat} {st : List Value} {Q : Option Value × jW → Prop} {ls : jL} {w : jW} : Wp d 170 632 ls (st) w Q = Wp d 170 636 ls (st) w Q := Wp.br e170_632 (Or.inl rfl) rfl rfl rfl rfl
theorem e170_635 : decode (j_co 170) 635 = .ok (.iconst 0, 1) := by decide +kernel
set_option maxRecDepth 20000 in
theorem w170_635 {d : Nat} {st : List Value} {Q : Option Value × jW → Prop} {ls : jL} {w : jW} : Wp d 170 635 ls (st) w Q = Wp d 170 636 ls (.int (nI 0) :: st) w Q := Wp.alu e170_635 rfl rfl
theorem e170_636 : decode (j_co 170) 636 = .ok (.invokevirtual 66, 3) := by decide +kernel
set_option maxRecDepth 20000 in
theorem w170_636 {d : Nat} {st : List Value} {Q : Option Value × jW → Prop} {ls : jL} {xs : List Value} {I : fI} {L : fL} {r : Nat} {x0 : Int32} {x1 : Int32} {x2 : Int32} (hs : j_sumc st ≤ 8) (ht : f_tg r = 10) : Wp (d + 1) 170 636 ls (.int x2 :: .int x1 :: .int x0 :: .ref r :: st) (f_W xs I L) Q = Wp d 56 0 [some (.ref r), some (.int x0), some (.int x1), some (.int x2), none] [] (f_W xs I L) (fun r1 => Wp (d + 1) 170 639 ls (r1.1.toList ++ st) r1.2 Q) := Wp.cv (y' := 56) (as := [.int x0, .int x1, .int x2]) e170_636 rfl (by decide) rfl (show 4 ≤ 5 by decide) (by decide) hs ht
theorem e170_639 : decode (j_co 170) 639 = .ok (.aload_n 2, 1) := by decide +kernel
set_option maxRecDepth 20000 in
theorem w170_639 {d : Nat} {st : List Value} {Q : Option Value × jW → Prop} {w : jW} {a0 a1 a3 : Option Value} {x : Nat} : Wp d 170 639 [a0, a1, some (.ref x), a3] (st) w Q = Wp d 170 640 [a0, a1, some (.ref x), a3] (.ref x :: st) w Q := Wp.loc e170_639 rfl rfl rfl
theorem e170_640 : decode (j_co 170) 640 = .ok (.aload_n 0, 1) := by decide +kernel
set_option maxRecDepth 20000 in
theorem w170_640 {d : Nat} {st : List Value} {Q : Option Value × jW → Prop} {w : jW} {a1 a2 a3 : Option Value} {x : Nat} : Wp d 170 640 [some (.ref x), a1, a2, a3] (st) w Q = Wp d 170 641 [some (.ref x), a1, a2, a3] (.ref x :: st) w Q := Wp.loc e170_640 rfl rfl rfl
theorem e170_641 : decode (j_co 170) 641 = .ok (.iload_n 3, 1) := by decide +kernel
set_option maxRecDepth 20000 in
theorem w170_641 {d : Nat} {st : List Value} {Q : Option Value × jW → Prop} {w : jW} {a0 a1 a2 : Option Value} {x : Int32} : Wp d 170 641 [a0, a1, a2, some (.int x)] (st) w Q = Wp d 170 642 [a0, a1, a2, some (.int x)] (.int x :: st) w Q := Wp.loc e170_641 rfl rfl rfl
theorem e170_642 : decode (j_co 170) 642 = .ok (.iconst 1, 1) := by decide +kernel
set_option maxRecDepth 20000 in
theorem w170_642 {d : Nat} {st : List Value} {Q : Option Value × jW → Prop} {ls : jL} {w : jW} : Wp d 170 642 ls (st) w Q = Wp d 170 643 ls (.int (nI 1) :: st) w Q := Wp.alu e170_642 rfl rfl
theorem e170_643 : decode (j_co 170) 643 = .ok (.iadd, 1) := by decide +kernel
set_option maxRecDepth 20000 in
theorem w170_643 {d : Nat} {st : List Value} {Q : Option Value × jW → Prop} {ls : jL} {w : jW} {a b : Int32} : Wp d 170 643 ls (.int b :: .int a :: st) w Q = Wp d 170 644 ls (.int (a + b) :: st) w Q := Wp.alu e170_643 rfl rfl
theorem e170_644 : decode (j_co 170) 644 = .ok (.iaload, 1) := by decide +kernel
theorem w170_644 {d k : Nat} {ls : jL} {st : List Value} {I : fI} {L : fL} {Q : Option Value × jW → Prop} {g : List Int32} (hk : k < g.length) (h31 : k < 2147483648) : Wp d 170 644 ls (.int (nI k) :: .ref 0 :: st) (f_W (g.map Value.int) I L) Q = Wp d 170 645 ls (.int (g.getD k 0) :: st) (f_W (g.map Value.int) I L) Q := Wp.iald0 e170_644 hk h31
theorem e170_645 : decode (j_co 170) 645 = .ok (.aload_n 0, 1) := by decide +kernel
set_option maxRecDepth 20000 in
theorem w170_645 {d : Nat} {st : List Value} {Q : Option Value × jW → Prop} {w : jW} {a1 a2 a3 : Option Value} {x : Nat} : Wp d 170 645 [some (.ref x), a1, a2, a3] (st) w Q = Wp d 170 646 [some (.ref x), a1, a2, a3] (.ref x :: st) w Q := Wp.loc e170_645 rfl rfl rfl
theorem e170_646 : decode (j_co 170) 646 = .ok (.iload_n 3, 1) := by decide +kernel
set_option maxRecDepth 20000 in
theorem w170_646 {d : Nat} {st : List Value} {Q : Option Value × jW → Prop} {w : jW} {a0 a1 a2 : Option Value} {x : Int32} : Wp d 170 646 [a0, a1, a2, some (.int x)] (st) w Q = Wp d 170 647 [a0, a1, a2, some (.int x)] (.int x :: st) w Q := Wp.loc e170_646 rfl rfl rfl
theorem e170_647 : decode (j_co 170) 647 = .ok (.iconst 2, 1) := by decide +kernel
set_option maxRecDepth 20000 in
theorem w170_647 {d : Nat} {st : List Value} {Q : Option Value × jW → Prop} {ls : jL} {w : jW} : Wp d 170 647 ls (st) w Q = Wp d 170 648 ls (.int (nI 2) :: st) w Q := Wp.alu e170_647 rfl rfl
theorem e170_648 : decode (j_co 170) 648 = .ok (.iadd, 1) := by decide +kernel
set_option maxRecDepth 20000 in
theorem w170_648 {d : Nat} {st : List Value} {Q : Option Value × jW → Prop} {ls : jL} {w : jW} {a b : Int32} : Wp d 170 648 ls (.int b :: .int a :: st) w Q = Wp d 170 649 ls (.int (a + b) :: st) w Q := Wp.alu e170_648 rfl rfl
theorem e170_649 : decode (j_co 170) 649 = .ok (.iaload, 1) := by decide +kernel
theorem w170_649 {d k : Nat} {ls : jL} {st : List Value} {I : fI} {L : fL} {Q : Option Value × jW → Prop} {g : List Int32} (hk : k < g.length) (h31 : k < 2147483648) : Wp d 170 649 ls (.int (nI k) :: .ref 0 :: st) (f_W (g.map Value.int) I L) Q = Wp d 170 650 ls (.int (g.getD k 0) :: st) (f_W (g.map Value.int) I L) Q := Wp.iald0 e170_649 hk h31
theorem e170_650 : decode (j_co 170) 650 = .ok (.aload_n 0, 1) := by decide +kernel
set_option maxRecDepth 20000 in
theorem w170_650 {d : Nat} {st : List Value} {Q : Option Value × jW → Prop} {w : jW} {a1 a2 a3 : Option Value} {x : Nat} : Wp d 170 650 [some (.ref x), a1, a2, a3] (st) w Q = Wp d 170 651 [some (.ref x), a1, a2, a3] (.ref x :: st) w Q := Wp.loc e170_650 rfl rfl rfl
theorem e170_651 : decode (j_co 170) 651 = .ok (.iload_n 3, 1) := by decide +kernel
set_option maxRecDepth 20000 in
theorem w170_651 {d : Nat} {st : List Value} {Q : Option Value × jW → Prop} {w : jW} {a0 a1 a2 : Option Value} {x : Int32} : Wp d 170 651 [a0, a1, a2, some (.int x)] (st) w Q = Wp d 170 652 [a0, a1, a2, some (.int x)] (.int x :: st) w Q := Wp.loc e170_651 rfl rfl rfl
theorem e170_652 : decode (j_co 170) 652 = .ok (.iconst 3, 1) := by decide +kernel
set_option maxRecDepth 20000 in
theorem w170_652 {d : Nat} {st : List Value} {Q : Option Value × jW → Prop} {ls : jL} {w : jW} : Wp d 170 652 ls (st) w Q = Wp d 170 653 ls (.int (nI 3) :: st) w Q := Wp.alu e170_652 rfl rfl
theorem e170_653 : decode (j_co 170) 653 = .ok (.iadd, 1) := by decide +kernel
set_option maxRecDepth 20000 in
theorem w170_653 {d : Nat} {st : List Value} {Q : Option Value × jW → Prop} {ls : jL} {w : jW} {a b : Int32} : Wp d 170 653 ls (.int b :: .int a :: st) w Q = Wp d 170 654 ls (.int (a + b) :: st) w Q := Wp.alu e170_653 rfl rfl
theorem e170_654 : decode (j_co 170) 654 = .ok (.iaload, 1) := by decide +kernel
theorem w170_654 {d k : Nat} {ls : jL} {st : List Value} {I : fI} {L : fL} {Q : Option Value × jW → Prop} {g : List Int32} (hk : k < g.length) (h31 : k < 2147483648) : Wp d 170 654 ls (.int (nI k) :: .ref 0 :: st) (f_W (g.map Value.int) I L) Q = Wp d 170 655 ls (.int (g.getD k 0) :: st) (f_W (g.map Value.int) I L) Q := Wp.iald0 e170_654 hk h31
theorem e170_655 : decode (j_co 170) 655 = .ok (.ifCond .eq 7, 3) := by decide +kernel
set_option maxRecDepth 20000 in
theorem w170_655 {d : Nat} {st : List Value} {Q : Option Value × jW → Prop} {ls : jL} {w : jW} {a : Int32} : Wp d 170 655 ls (.int a :: st) w Q = ((a = nI 0 → Wp d 170 662 ls st w Q) ∧ (¬ a = nI 0 → Wp d 170 658 ls st w Q)) := Wp.if2 (c := a = nI 0) (off := 7) e170_655 rfl rfl rfl rfl rfl
theorem e170_658 : decode (j_co 170) 658 = .ok (.iconst 1, 1) := by decide +kernel
set_option maxRecDepth 20000 in
theorem w170_658 {d : Nat} {st : List Value} {Q : Option Value × jW → Prop} {ls : jL} {w : jW} : Wp d 170 658 ls (st) w Q = Wp d 170 659 ls (.int (nI 1) :: st) w Q := Wp.alu e170_658 rfl rfl
theorem e170_659 : decode (j_co 170) 659 = .ok (.goto 4, 3) := by decide +kernel
set_option maxRecDepth 20000 in
theorem w170_659 {d : Nat} {st : List Value} {Q : Option Value × jW → Prop} {ls : jL} {w : jW} : Wp d 170 659 ls (st) w Q = Wp d 170 663 ls (st) w Q := Wp.br e170_659 (Or.inl rfl) rfl rfl rfl rfl
theorem e170_662 : decode (j_co 170) 662 = .ok (.iconst 0, 1) := by decide +kernel
set_option maxRecDepth 20000 in
theorem w170_662 {d : Nat} {st : List Value} {Q : Option Value × jW → Prop} {ls : jL} {w : jW} : Wp d 170 662 ls (st) w Q = Wp d 170 663 ls (.int (nI 0) :: st) w Q := Wp.alu e170_662 rfl rfl
theorem e170_663 : decode (j_co 170) 663 = .ok (.invokevirtual 70, 3) := by decide +kernel
set_option maxRecDepth 20000 in
theorem w170_663 {d : Nat} {st : List Value} {Q : Option Value × jW → Prop} {ls : jL} {xs : List Value} {I : fI} {L : fL} {r : Nat} {x0 : Int32} {x1 : Int32} {x2 : Int32} (hs : j_sumc st ≤ 8) (ht : f_tg r = 11) : Wp (d + 1) 170 663 ls (.int x2 :: .int x1 :: .int x0 :: .ref r :: st) (f_W xs I L) Q = Wp d 146 0 [some (.ref r), some (.int x0), some (.int x1), some (.int x2)] [] (f_W xs I L) (fun r1 => Wp (d + 1) 170 666 ls (r1.1.toList ++ st) r1.2 Q) := Wp.cv (y' := 146) (as := [.int x0, .int x1, .int x2]) e170_663 rfl (by decide) rfl (show 4 ≤ 4 by decide) (by decide) hs ht
theorem e170_666 : decode (j_co 170) 666 = .ok (.if_icmp .eq 540, 3) := by decide +kernel
set_option maxRecDepth 20000 in
theorem w170_666 {d : Nat} {st : List Value} {Q : Option Value × jW → Prop} {ls : jL} {w : jW} {a b : Int32} : Wp d 170 666 ls (.int b :: .int a :: st) w Q = ((a = b → Wp d 170 1206 ls st w Q) ∧ (¬ a = b → Wp d 170 669 ls st w Q)) := Wp.if2 (c := a = b) (off := 540) e170_666 rfl rfl rfl rfl rfl
theorem e170_669 : decode (j_co 170) 669 = .ok (.iconst 0, 1) := by decide +kernel
set_option maxRecDepth 20000 in
theorem w170_669 {d : Nat} {st : List Value} {Q : Option Value × jW → Prop} {ls : jL} {w : jW} : Wp d 170 669 ls (st) w Q = Wp d 170 670 ls (.int (nI 0) :: st) w Q := Wp.alu e170_669 rfl rfl
theorem e170_670 : decode (j_co 170) 670 = .ok (.ireturn, 1) := by decide +kernel
set_option maxRecDepth 20000 in
theorem w170_670 {d : Nat} {Q : Option Value × jW → Prop} {ls : jL} {w : jW} {x : Int32} (hx : x = 0 ∨ x = 1) : Wp d 170 670 ls [.int x] w Q = Q (some (.int x), w) := Wp.ret e170_670 (by rcases hx with rfl | rfl <;> rfl)
theorem e170_671 : decode (j_co 170) 671 = .ok (.aload_n 1, 1) := by decide +kernel
set_option maxRecDepth 20000 in
theorem w170_671 {d : Nat} {st : List Value} {Q : Option Value × jW → Prop} {w : jW} {a0 a2 a3 : Option Value} {x : Nat} : Wp d 170 671 [a0, some (.ref x), a2, a3] (st) w Q = Wp d 170 672 [a0, some (.ref x), a2, a3] (.ref x :: st) w Q := Wp.loc e170_671 rfl rfl rfl
theorem e170_672 : decode (j_co 170) 672 = .ok (.aload_n 0, 1) := by decide +kernel
set_option maxRecDepth 20000 in
theorem w170_672 {d : Nat} {st : List Value} {Q : Option Value × jW → Prop} {w : jW} {a1 a2 a3 : Option Value} {x : Nat} : Wp d 170 672 [some (.ref x), a1, a2, a3] (st) w Q = Wp d 170 673 [some (.ref x), a1, a2, a3] (.ref x :: st) w Q := Wp.loc e170_672 rfl rfl rfl
theorem e170_673 : decode (j_co 170) 673 = .ok (.iload_n 3, 1) := by decide +kernel
set_option maxRecDepth 20000 in
theorem w170_673 {d : Nat} {st : List Value} {Q : Option Value × jW → Prop} {w : jW} {a0 a1 a2 : Option Value} {x : Int32} : Wp d 170 673 [a0, a1, a2, some (.int x)] (st) w Q = Wp d 170 674 [a0, a1, a2, some (.int x)] (.int x :: st) w Q := Wp.loc e170_673 rfl rfl rfl
theorem e170_674 : decode (j_co 170) 674 = .ok (.iconst 1, 1) := by decide +kernel
set_option maxRecDepth 20000 in
theorem w170_674 {d : Nat} {st : List Value} {Q : Option Value × jW → Prop} {ls : jL} {w : jW} : Wp d 170 674 ls (st) w Q = Wp d 170 675 ls (.int (nI 1) :: st) w Q := Wp.alu e170_674 rfl rfl
theorem e170_675 : decode (j_co 170) 675 = .ok (.iadd, 1) := by decide +kernel
set_option maxRecDepth 20000 in
theorem w170_675 {d : Nat} {st : List Value} {Q : Option Value × jW → Prop} {ls : jL} {w : jW} {a b : Int32} : Wp d 170 675 ls (.int b :: .int a :: st) w Q = Wp d 170 676 ls (.int (a + b) :: st) w Q := Wp.alu e170_675 rfl rfl
theorem e170_676 : decode (j_co 170) 676 = .ok (.iaload, 1) := by decide +kernel
theorem w170_676 {d k : Nat} {ls : jL} {st : List Value} {I : fI} {L : fL} {Q : Option Value × jW → Prop} {g : List Int32} (hk : k < g.length) (h31 : k < 2147483648) : Wp d 170 676 ls (.int (nI k) :: .ref 0 :: st) (f_W (g.map Value.int) I L) Q = Wp d 170 677 ls (.int (g.getD k 0) :: st) (f_W (g.map Value.int) I L) Q := Wp.iald0 e170_676 hk h31
theorem e170_677 : decode (j_co 170) 677 = .ok (.aload_n 0, 1) := by decide +kernel
set_option maxRecDepth 20000 in
theorem w170_677 {d : Nat} {st : List Value} {Q : Option Value × jW → Prop} {w : jW} {a1 a2 a3 : Option Value} {x : Nat} : Wp d 170 677 [some (.ref x), a1, a2, a3] (st) w Q = Wp d 170 678 [some (.ref x), a1, a2, a3] (.ref x :: st) w Q := Wp.loc e170_677 rfl rfl rfl
theorem e170_678 : decode (j_co 170) 678 = .ok (.iload_n 3, 1) := by decide +kernel
set_option maxRecDepth 20000 in
theorem w170_678 {d : Nat} {st : List Value} {Q : Option Value × jW → Prop} {w : jW} {a0 a1 a2 : Option Value} {x : Int32} : Wp d 170 678 [a0, a1, a2, some (.int x)] (st) w Q = Wp d 170 679 [a0, a1, a2, some (.int x)] (.int x :: st) w Q := Wp.loc e170_678 rfl rfl rfl
theorem e170_679 : decode (j_co 170) 679 = .ok (.iconst 2, 1) := by decide +kernel
set_option maxRecDepth 20000 in
theorem w170_679 {d : Nat} {st : List Value} {Q : Option Value × jW → Prop} {ls : jL} {w : jW} : Wp d 170 679 ls (st) w Q = Wp d 170 680 ls (.int (nI 2) :: st) w Q := Wp.alu e170_679 rfl rfl
theorem e170_680 : decode (j_co 170) 680 = .ok (.iadd, 1) := by decide +kernel
set_option maxRecDepth 20000 in
theorem w170_680 {d : Nat} {st : List Value} {Q : Option Value × jW → Prop} {ls : jL} {w : jW} {a b : Int32} : Wp d 170 680 ls (.int b :: .int a :: st) w Q = Wp d 170 681 ls (.int (a + b) :: st) w Q := Wp.alu e170_680 rfl rfl
theorem e170_681 : decode (j_co 170) 681 = .ok (.iaload, 1) := by decide +kernel
theorem w170_681 {d k : Nat} {ls : jL} {st : List Value} {I : fI} {L : fL} {Q : Option Value × jW → Prop} {g : List Int32} (hk : k < g.length) (h31 : k < 2147483648) : Wp d 170 681 ls (.int (nI k) :: .ref 0 :: st) (f_W (g.map Value.int) I L) Q = Wp d 170 682 ls (.int (g.getD k 0) :: st) (f_W (g.map Value.int) I L) Q := Wp.iald0 e170_681 hk h31
theorem e170_682 : decode (j_co 170) 682 = .ok (.aload_n 0, 1) := by decide +kernel
set_option maxRecDepth 20000 in
theorem w170_682 {d : Nat} {st : List Value} {Q : Option Value × jW → Prop} {w : jW} {a1 a2 a3 : Option Value} {x : Nat} : Wp d 170 682 [some (.ref x), a1, a2, a3] (st) w Q = Wp d 170 683 [some (.ref x), a1, a2, a3] (.ref x :: st) w Q := Wp.loc e170_682 rfl rfl rfl
theorem e170_683 : decode (j_co 170) 683 = .ok (.iload_n 3, 1) := by decide +kernel
set_option maxRecDepth 20000 in
theorem w170_683 {d : Nat} {st : List Value} {Q : Option Value × jW → Prop} {w : jW} {a0 a1 a2 : Option Value} {x : Int32} : Wp d 170 683 [a0, a1, a2, some (.int x)] (st) w Q = Wp d 170 684 [a0, a1, a2, some (.int x)] (.int x :: st) w Q := Wp.loc e170_683 rfl rfl rfl
theorem e170_684 : decode (j_co 170) 684 = .ok (.iconst 3, 1) := by decide +kernel
set_option maxRecDepth 20000 in
theorem w170_684 {d : Nat} {st : List Value} {Q : Option Value × jW → Prop} {ls : jL} {w : jW} : Wp d 170 684 ls (st) w Q = Wp d 170 685 ls (.int (nI 3) :: st) w Q := Wp.alu e170_684 rfl rfl
theorem e170_685 : decode (j_co 170) 685 = .ok (.iadd, 1) := by decide +kernel
set_option maxRecDepth 20000 in
theorem w170_685 {d : Nat} {st : List Value} {Q : Option Value × jW → Prop} {ls : jL} {w : jW} {a b : Int32} : Wp d 170 685 ls (.int b :: .int a :: st) w Q = Wp d 170 686 ls (.int (a + b) :: st) w Q := Wp.alu e170_685 rfl rfl
theorem e170_686 : decode (j_co 170) 686 = .ok (.iaload, 1) := by decide +kernel
theorem w170_686 {d k : Nat} {ls : jL} {st : List Value} {I : fI} {L : fL} {Q : Option Value × jW → Prop} {g : List Int32} (hk : k < g.length) (h31 : k < 2147483648) : Wp d 170 686 ls (.int (nI k) :: .ref 0 :: st) (f_W (g.map Value.int) I L) Q = Wp d 170 687 ls (.int (g.getD k 0) :: st) (f_W (g.map Value.int) I L) Q := Wp.iald0 e170_686 hk h31
theorem e170_687 : decode (j_co 170) 687 = .ok (.aload_n 0, 1) := by decide +kernel
set_option maxRecDepth 20000 in
theorem w170_687 {d : Nat} {st : List Value} {Q : Option Value × jW → Prop} {w : jW} {a1 a2 a3 : Option Value} {x : Nat} : Wp d 170 687 [some (.ref x), a1, a2, a3] (st) w Q = Wp d 170 688 [some (.ref x), a1, a2, a3] (.ref x :: st) w Q := Wp.loc e170_687 rfl rfl rfl
theorem e170_688 : decode (j_co 170) 688 = .ok (.iload_n 3, 1) := by decide +kernel
set_option maxRecDepth 20000 in
theorem w170_688 {d : Nat} {st : List Value} {Q : Option Value × jW → Prop} {w : jW} {a0 a1 a2 : Option Value} {x : Int32} : Wp d 170 688 [a0, a1, a2, some (.int x)] (st) w Q = Wp d 170 689 [a0, a1, a2, some (.int x)] (.int x :: st) w Q := Wp.loc e170_688 rfl rfl rfl
theorem e170_689 : decode (j_co 170) 689 = .ok (.iconst 4, 1) := by decide +kernel
set_option maxRecDepth 20000 in
theorem w170_689 {d : Nat} {st : List Value} {Q : Option Value × jW → Prop} {ls : jL} {w : jW} : Wp d 170 689 ls (st) w Q = Wp d 170 690 ls (.int (nI 4) :: st) w Q := Wp.alu e170_689 rfl rfl
theorem e170_690 : decode (j_co 170) 690 = .ok (.iadd, 1) := by decide +kernel
set_option maxRecDepth 20000 in
theorem w170_690 {d : Nat} {st : List Value} {Q : Option Value × jW → Prop} {ls : jL} {w : jW} {a b : Int32} : Wp d 170 690 ls (.int b :: .int a :: st) w Q = Wp d 170 691 ls (.int (a + b) :: st) w Q := Wp.alu e170_690 rfl rfl
theorem e170_691 : decode (j_co 170) 691 = .ok (.iaload, 1) := by decide +kernel
theorem w170_691 {d k : Nat} {ls : jL} {st : List Value} {I : fI} {L : fL} {Q : Option Value × jW → Prop} {g : List Int32} (hk : k < g.length) (h31 : k < 2147483648) : Wp d 170 691 ls (.int (nI k) :: .ref 0 :: st) (f_W (g.map Value.int) I L) Q = Wp d 170 692 ls (.int (g.getD k 0) :: st) (f_W (g.map Value.int) I L) Q := Wp.iald0 e170_691 hk h31
theorem e170_692 : decode (j_co 170) 692 = .ok (.invokevirtual 71, 3) := by decide +kernel
set_option maxRecDepth 20000 in
theorem w170_692 {d : Nat} {st : List Value} {Q : Option Value × jW → Prop} {ls : jL} {xs : List Value} {I : fI} {L : fL} {r : Nat} {x0 : Int32} {x1 : Int32} {x2 : Int32} {x3 : Int32} (hs : j_sumc st ≤ 8) (ht : f_tg r = 10) : Wp (d + 1) 170 692 ls (.int x3 :: .int x2 :: .int x1 :: .int x0 :: .ref r :: st) (f_W xs I L) Q = Wp d 57 0 [some (.ref r), some (.int x0), some (.int x1), some (.int x2), some (.int x3)] [] (f_W xs I L) (fun r1 => Wp (d + 1) 170 695 ls (r1.1.toList ++ st) r1.2 Q) := Wp.cv (y' := 57) (as := [.int x0, .int x1, .int x2, .int x3]) e170_692 rfl (by decide) rfl (show 5 ≤ 5 by decide) (by decide) hs ht
theorem e170_695 : decode (j_co 170) 695 = .ok (.aload_n 2, 1) := by decide +kernel
set_option maxRecDepth 20000 in
theorem w170_695 {d : Nat} {st : List Value} {Q : Option Value × jW → Prop} {w : jW} {a0 a1 a3 : Option Value} {x : Nat} : Wp d 170 695 [a0, a1, some (.ref x), a3] (st) w Q = Wp d 170 696 [a0, a1, some (.ref x), a3] (.ref x :: st) w Q := Wp.loc e170_695 rfl rfl rfl
theorem e170_696 : decode (j_co 170) 696 = .ok (.aload_n 0, 1) := by decide +kernel
set_option maxRecDepth 20000 in
theorem w170_696 {d : Nat} {st : List Value} {Q : Option Value × jW → Prop} {w : jW} {a1 a2 a3 : Option Value} {x : Nat} : Wp d 170 696 [some (.ref x), a1, a2, a3] (st) w Q = Wp d 170 697 [some (.ref x), a1, a2, a3] (.ref x :: st) w Q := Wp.loc e170_696 rfl rfl rfl
theorem e170_697 : decode (j_co 170) 697 = .ok (.iload_n 3, 1) := by decide +kernel
set_option maxRecDepth 20000 in
theorem w170_697 {d : Nat} {st : List Value} {Q : Option Value × jW → Prop} {w : jW} {a0 a1 a2 : Option Value} {x : Int32} : Wp d 170 697 [a0, a1, a2, some (.int x)] (st) w Q = Wp d 170 698 [a0, a1, a2, some (.int x)] (.int x :: st) w Q := Wp.loc e170_697 rfl rfl rfl
theorem e170_698 : decode (j_co 170) 698 = .ok (.iconst 1, 1) := by decide +kernel
set_option maxRecDepth 20000 in
theorem w170_698 {d : Nat} {st : List Value} {Q : Option Value × jW → Prop} {ls : jL} {w : jW} : Wp d 170 698 ls (st) w Q = Wp d 170 699 ls (.int (nI 1) :: st) w Q := Wp.alu e170_698 rfl rfl
theorem e170_699 : decode (j_co 170) 699 = .ok (.iadd, 1) := by decide +kernel
set_option maxRecDepth 20000 in
theorem w170_699 {d : Nat} {st : List Value} {Q : Option Value × jW → Prop} {ls : jL} {w : jW} {a b : Int32} : Wp d 170 699 ls (.int b :: .int a :: st) w Q = Wp d 170 700 ls (.int (a + b) :: st) w Q := Wp.alu e170_699 rfl rfl
theorem e170_700 : decode (j_co 170) 700 = .ok (.iaload, 1) := by decide +kernel
theorem w170_700 {d k : Nat} {ls : jL} {st : List Value} {I : fI} {L : fL} {Q : Option Value × jW → Prop} {g : List Int32} (hk : k < g.length) (h31 : k < 2147483648) : Wp d 170 700 ls (.int (nI k) :: .ref 0 :: st) (f_W (g.map Value.int) I L) Q = Wp d 170 701 ls (.int (g.getD k 0) :: st) (f_W (g.map Value.int) I L) Q := Wp.iald0 e170_700 hk h31
theorem e170_701 : decode (j_co 170) 701 = .ok (.aload_n 0, 1) := by decide +kernel
set_option maxRecDepth 20000 in
theorem w170_701 {d : Nat} {st : List Value} {Q : Option Value × jW → Prop} {w : jW} {a1 a2 a3 : Option Value} {x : Nat} : Wp d 170 701 [some (.ref x), a1, a2, a3] (st) w Q = Wp d 170 702 [some (.ref x), a1, a2, a3] (.ref x :: st) w Q := Wp.loc e170_701 rfl rfl rfl
theorem e170_702 : decode (j_co 170) 702 = .ok (.iload_n 3, 1) := by decide +kernel
set_option maxRecDepth 20000 in
theorem w170_702 {d : Nat} {st : List Value} {Q : Option Value × jW → Prop} {w : jW} {a0 a1 a2 : Option Value} {x : Int32} : Wp d 170 702 [a0, a1, a2, some (.int x)] (st) w Q = Wp d 170 703 [a0, a1, a2, some (.int x)] (.int x :: st) w Q := Wp.loc e170_702 rfl rfl rfl
theorem e170_703 : decode (j_co 170) 703 = .ok (.iconst 2, 1) := by decide +kernel
set_option maxRecDepth 20000 in
theorem w170_703 {d : Nat} {st : List Value} {Q : Option Value × jW → Prop} {ls : jL} {w : jW} : Wp d 170 703 ls (st) w Q = Wp d 170 704 ls (.int (nI 2) :: st) w Q := Wp.alu e170_703 rfl rfl
theorem e170_704 : decode (j_co 170) 704 = .ok (.iadd, 1) := by decide +kernel
set_option maxRecDepth 20000 in
theorem w170_704 {d : Nat} {st : List Value} {Q : Option Value × jW → Prop} {ls : jL} {w : jW} {a b : Int32} : Wp d 170 704 ls (.int b :: .int a :: st) w Q = Wp d 170 705 ls (.int (a + b) :: st) w Q := Wp.alu e170_704 rfl rfl
theorem e170_705 : decode (j_co 170) 705 = .ok (.iaload, 1) := by decide +kernel
theorem w170_705 {d k : Nat} {ls : jL} {st : List Value} {I : fI} {L : fL} {Q : Option Value × jW → Prop} {g : List Int32} (hk : k < g.length) (h31 : k < 2147483648) : Wp d 170 705 ls (.int (nI k) :: .ref 0 :: st) (f_W (g.map Value.int) I L) Q = Wp d 170 706 ls (.int (g.getD k 0) :: st) (f_W (g.map Value.int) I L) Q := Wp.iald0 e170_705 hk h31
theorem e170_706 : decode (j_co 170) 706 = .ok (.aload_n 0, 1) := by decide +kernel
set_option maxRecDepth 20000 in
theorem w170_706 {d : Nat} {st : List Value} {Q : Option Value × jW → Prop} {w : jW} {a1 a2 a3 : Option Value} {x : Nat} : Wp d 170 706 [some (.ref x), a1, a2, a3] (st) w Q = Wp d 170 707 [some (.ref x), a1, a2, a3] (.ref x :: st) w Q := Wp.loc e170_706 rfl rfl rfl
theorem e170_707 : decode (j_co 170) 707 = .ok (.iload_n 3, 1) := by decide +kernel
set_option maxRecDepth 20000 in
theorem w170_707 {d : Nat} {st : List Value} {Q : Option Value × jW → Prop} {w : jW} {a0 a1 a2 : Option Value} {x : Int32} : Wp d 170 707 [a0, a1, a2, some (.int x)] (st) w Q = Wp d 170 708 [a0, a1, a2, some (.int x)] (.int x :: st) w Q := Wp.loc e170_707 rfl rfl rfl
theorem e170_708 : decode (j_co 170) 708 = .ok (.iconst 3, 1) := by decide +kernel
set_option maxRecDepth 20000 in
theorem w170_708 {d : Nat} {st : List Value} {Q : Option Value × jW → Prop} {ls : jL} {w : jW} : Wp d 170 708 ls (st) w Q = Wp d 170 709 ls (.int (nI 3) :: st) w Q := Wp.alu e170_708 rfl rfl
theorem e170_709 : decode (j_co 170) 709 = .ok (.iadd, 1) := by decide +kernel
set_option maxRecDepth 20000 in
theorem w170_709 {d : Nat} {st : List Value} {Q : Option Value × jW → Prop} {ls : jL} {w : jW} {a b : Int32} : Wp d 170 709 ls (.int b :: .int a :: st) w Q = Wp d 170 710 ls (.int (a + b) :: st) w Q := Wp.alu e170_709 rfl rfl
theorem e170_710 : decode (j_co 170) 710 = .ok (.iaload, 1) := by decide +kernel
theorem w170_710 {d k : Nat} {ls : jL} {st : List Value} {I : fI} {L : fL} {Q : Option Value × jW → Prop} {g : List Int32} (hk : k < g.length) (h31 : k < 2147483648) : Wp d 170 710 ls (.int (nI k) :: .ref 0 :: st) (f_W (g.map Value.int) I L) Q = Wp d 170 711 ls (.int (g.getD k 0) :: st) (f_W (g.map Value.int) I L) Q := Wp.iald0 e170_710 hk h31
theorem e170_711 : decode (j_co 170) 711 = .ok (.aload_n 0, 1) := by decide +kernel
set_option maxRecDepth 20000 in
theorem w170_711 {d : Nat} {st : List Value} {Q : Option Value × jW → Prop} {w : jW} {a1 a2 a3 : Option Value} {x : Nat} : Wp d 170 711 [some (.ref x), a1, a2, a3] (st) w Q = Wp d 170 712 [some (.ref x), a1, a2, a3] (.ref x :: st) w Q := Wp.loc e170_711 rfl rfl rfl
theorem e170_712 : decode (j_co 170) 712 = .ok (.iload_n 3, 1) := by decide +kernel
set_option maxRecDepth 20000 in
theorem w170_712 {d : Nat} {st : List Value} {Q : Option Value × jW → Prop} {w : jW} {a0 a1 a2 : Option Value} {x : Int32} : Wp d 170 712 [a0, a1, a2, some (.int x)] (st) w Q = Wp d 170 713 [a0, a1, a2, some (.int x)] (.int x :: st) w Q := Wp.loc e170_712 rfl rfl rfl
theorem e170_713 : decode (j_co 170) 713 = .ok (.iconst 4, 1) := by decide +kernel
set_option maxRecDepth 20000 in
theorem w170_713 {d : Nat} {st : List Value} {Q : Option Value × jW → Prop} {ls : jL} {w : jW} : Wp d 170 713 ls (st) w Q = Wp d 170 714 ls (.int (nI 4) :: st) w Q := Wp.alu e170_713 rfl rfl
theorem e170_714 : decode (j_co 170) 714 = .ok (.iadd, 1) := by decide +kernel
set_option maxRecDepth 20000 in
theorem w170_714 {d : Nat} {st : List Value} {Q : Option Value × jW → Prop} {ls : jL} {w : jW} {a b : Int32} : Wp d 170 714 ls (.int b :: .int a :: st) w Q = Wp d 170 715 ls (.int (a + b) :: st) w Q := Wp.alu e170_714 rfl rfl
theorem e170_715 : decode (j_co 170) 715 = .ok (.iaload, 1) := by decide +kernel
theorem w170_715 {d k : Nat} {ls : jL} {st : List Value} {I : fI} {L : fL} {Q : Option Value × jW → Prop} {g : List Int32} (hk : k < g.length) (h31 : k < 2147483648) : Wp d 170 715 ls (.int (nI k) :: .ref 0 :: st) (f_W (g.map Value.int) I L) Q = Wp d 170 716 ls (.int (g.getD k 0) :: st) (f_W (g.map Value.int) I L) Q := Wp.iald0 e170_715 hk h31
theorem e170_716 : decode (j_co 170) 716 = .ok (.invokevirtual 74, 3) := by decide +kernel
set_option maxRecDepth 20000 in
theorem w170_716 {d : Nat} {st : List Value} {Q : Option Value × jW → Prop} {ls : jL} {xs : List Value} {I : fI} {L : fL} {r : Nat} {x0 : Int32} {x1 : Int32} {x2 : Int32} {x3 : Int32} (hs : j_sumc st ≤ 8) (ht : f_tg r = 11) : Wp (d + 1) 170 716 ls (.int x3 :: .int x2 :: .int x1 :: .int x0 :: .ref r :: st) (f_W xs I L) Q = Wp d 147 0 [some (.ref r), some (.int x0), some (.int x1), some (.int x2), some (.int x3)] [] (f_W xs I L) (fun r1 => Wp (d + 1) 170 719 ls (r1.1.toList ++ st) r1.2 Q) := Wp.cv (y' := 147) (as := [.int x0, .int x1, .int x2, .int x3]) e170_716 rfl (by decide) rfl (show 5 ≤ 5 by decide) (by decide) hs ht
theorem e170_719 : decode (j_co 170) 719 = .ok (.if_icmp .eq 487, 3) := by decide +kernel
set_option maxRecDepth 20000 in
theorem w170_719 {d : Nat} {st : List Value} {Q : Option Value × jW → Prop} {ls : jL} {w : jW} {a b : Int32} : Wp d 170 719 ls (.int b :: .int a :: st) w Q = ((a = b → Wp d 170 1206 ls st w Q) ∧ (¬ a = b → Wp d 170 722 ls st w Q)) := Wp.if2 (c := a = b) (off := 487) e170_719 rfl rfl rfl rfl rfl
theorem e170_722 : decode (j_co 170) 722 = .ok (.iconst 0, 1) := by decide +kernel
set_option maxRecDepth 20000 in
theorem w170_722 {d : Nat} {st : List Value} {Q : Option Value × jW → Prop} {ls : jL} {w : jW} : Wp d 170 722 ls (st) w Q = Wp d 170 723 ls (.int (nI 0) :: st) w Q := Wp.alu e170_722 rfl rfl
theorem e170_723 : decode (j_co 170) 723 = .ok (.ireturn, 1) := by decide +kernel
set_option maxRecDepth 20000 in
theorem w170_723 {d : Nat} {Q : Option Value × jW → Prop} {ls : jL} {w : jW} {x : Int32} (hx : x = 0 ∨ x = 1) : Wp d 170 723 ls [.int x] w Q = Q (some (.int x), w) := Wp.ret e170_723 (by rcases hx with rfl | rfl <;> rfl)
theorem e170_724 : decode (j_co 170) 724 = .ok (.aload_n 1, 1) := by decide +kernel
set_option maxRecDepth 20000 in
theorem w170_724 {d : Nat} {st : List Value} {Q : Option Value × jW → Prop} {w : jW} {a0 a2 a3 : Option Value} {x : Nat} : Wp d 170 724 [a0, some (.ref x), a2, a3] (st) w Q = Wp d 170 725 [a0, some (.ref x), a2, a3] (.ref x :: st) w Q := Wp.loc e170_724 rfl rfl rfl
theorem e170_725 : decode (j_co 170) 725 = .ok (.aload_n 0, 1) := by decide +kernel
set_option maxRecDepth 20000 in
theorem w170_725 {d : Nat} {st : List Value} {Q : Option Value × jW → Prop} {w : jW} {a1 a2 a3 : Option Value} {x : Nat} : Wp d 170 725 [some (.ref x), a1, a2, a3] (st) w Q = Wp d 170 726 [some (.ref x), a1, a2, a3] (.ref x :: st) w Q := Wp.loc e170_725 rfl rfl rfl
theorem e170_726 : decode (j_co 170) 726 = .ok (.iload_n 3, 1) := by decide +kernel
set_option maxRecDepth 20000 in
theorem w170_726 {d : Nat} {st : List Value} {Q : Option Value × jW → Prop} {w : jW} {a0 a1 a2 : Option Value} {x : Int32} : Wp d 170 726 [a0, a1, a2, some (.int x)] (st) w Q = Wp d 170 727 [a0, a1, a2, some (.int x)] (.int x :: st) w Q := Wp.loc e170_726 rfl rfl rfl
theorem e170_727 : decode (j_co 170) 727 = .ok (.iconst 1, 1) := by decide +kernel
set_option maxRecDepth 20000 in
theorem w170_727 {d : Nat} {st : List Value} {Q : Option Value × jW → Prop} {ls : jL} {w : jW} : Wp d 170 727 ls (st) w Q = Wp d 170 728 ls (.int (nI 1) :: st) w Q := Wp.alu e170_727 rfl rfl
theorem e170_728 : decode (j_co 170) 728 = .ok (.iadd, 1) := by decide +kernel
set_option maxRecDepth 20000 in
theorem w170_728 {d : Nat} {st : List Value} {Q : Option Value × jW → Prop} {ls : jL} {w : jW} {a b : Int32} : Wp d 170 728 ls (.int b :: .int a :: st) w Q = Wp d 170 729 ls (.int (a + b) :: st) w Q := Wp.alu e170_728 rfl rfl
theorem e170_729 : decode (j_co 170) 729 = .ok (.iaload, 1) := by decide +kernel
theorem w170_729 {d k : Nat} {ls : jL} {st : List Value} {I : fI} {L : fL} {Q : Option Value × jW → Prop} {g : List Int32} (hk : k < g.length) (h31 : k < 2147483648) : Wp d 170 729 ls (.int (nI k) :: .ref 0 :: st) (f_W (g.map Value.int) I L) Q = Wp d 170 730 ls (.int (g.getD k 0) :: st) (f_W (g.map Value.int) I L) Q := Wp.iald0 e170_729 hk h31
theorem e170_730 : decode (j_co 170) 730 = .ok (.invokevirtual 75, 3) := by decide +kernel
set_option maxRecDepth 20000 in
theorem w170_730 {d : Nat} {st : List Value} {Q : Option Value × jW → Prop} {ls : jL} {xs : List Value} {I : fI} {L : fL} {r : Nat} {x0 : Int32} (hs : j_sumc st ≤ 8) (ht : f_tg r = 10) : Wp (d + 1) 170 730 ls (.int x0 :: .ref r :: st) (f_W xs I L) Q = Wp d 63 0 [some (.ref r), some (.int x0)] [] (f_W xs I L) (fun r1 => Wp (d + 1) 170 733 ls (r1.1.toList ++ st) r1.2 Q) := Wp.cv (y' := 63) (as := [.int x0]) e170_730 rfl (by decide) rfl (show 2 ≤ 2 by decide) (by decide) hs ht
theorem e170_733 : decode (j_co 170) 733 = .ok (.aload_n 2, 1) := by decide +kernel
set_option maxRecDepth 20000 in
theorem w170_733 {d : Nat} {st : List Value} {Q : Option Value × jW → Prop} {w : jW} {a0 a1 a3 : Option Value} {x : Nat} : Wp d 170 733 [a0, a1, some (.ref x), a3] (st) w Q = Wp d 170 734 [a0, a1, some (.ref x), a3] (.ref x :: st) w Q := Wp.loc e170_733 rfl rfl rfl
theorem e170_734 : decode (j_co 170) 734 = .ok (.aload_n 0, 1) := by decide +kernel
set_option maxRecDepth 20000 in
theorem w170_734 {d : Nat} {st : List Value} {Q : Option Value × jW → Prop} {w : jW} {a1 a2 a3 : Option Value} {x : Nat} : Wp d 170 734 [some (.ref x), a1, a2, a3] (st) w Q = Wp d 170 735 [some (.ref x), a1, a2, a3] (.ref x :: st) w Q := Wp.loc e170_734 rfl rfl rfl
theorem e170_735 : decode (j_co 170) 735 = .ok (.iload_n 3, 1) := by decide +kernel
set_option maxRecDepth 20000 in
theorem w170_735 {d : Nat} {st : List Value} {Q : Option Value × jW → Prop} {w : jW} {a0 a1 a2 : Option Value} {x : Int32} : Wp d 170 735 [a0, a1, a2, some (.int x)] (st) w Q = Wp d 170 736 [a0, a1, a2, some (.int x)] (.int x :: st) w Q := Wp.loc e170_735 rfl rfl rfl
theorem e170_736 : decode (j_co 170) 736 = .ok (.iconst 1, 1) := by decide +kernel
set_option maxRecDepth 20000 in
theorem w170_736 {d : Nat} {st : List Value} {Q : Option Value × jW → Prop} {ls : jL} {w : jW} : Wp d 170 736 ls (st) w Q = Wp d 170 737 ls (.int (nI 1) :: st) w Q := Wp.alu e170_736 rfl rfl
theorem e170_737 : decode (j_co 170) 737 = .ok (.iadd, 1) := by decide +kernel
set_option maxRecDepth 20000 in
theorem w170_737 {d : Nat} {st : List Value} {Q : Option Value × jW → Prop} {ls : jL} {w : jW} {a b : Int32} : Wp d 170 737 ls (.int b :: .int a :: st) w Q = Wp d 170 738 ls (.int (a + b) :: st) w Q := Wp.alu e170_737 rfl rfl
theorem e170_738 : decode (j_co 170) 738 = .ok (.iaload, 1) := by decide +kernel
theorem w170_738 {d k : Nat} {ls : jL} {st : List Value} {I : fI} {L : fL} {Q : Option Value × jW → Prop} {g : List Int32} (hk : k < g.length) (h31 : k < 2147483648) : Wp d 170 738 ls (.int (nI k) :: .ref 0 :: st) (f_W (g.map Value.int) I L) Q = Wp d 170 739 ls (.int (g.getD k 0) :: st) (f_W (g.map Value.int) I L) Q := Wp.iald0 e170_738 hk h31
theorem e170_739 : decode (j_co 170) 739 = .ok (.invokevirtual 78, 3) := by decide +kernel
set_option maxRecDepth 20000 in
theorem w170_739 {d : Nat} {st : List Value} {Q : Option Value × jW → Prop} {ls : jL} {xs : List Value} {I : fI} {L : fL} {r : Nat} {x0 : Int32} (hs : j_sumc st ≤ 8) (ht : f_tg r = 11) : Wp (d + 1) 170 739 ls (.int x0 :: .ref r :: st) (f_W xs I L) Q = Wp d 150 0 [some (.ref r), some (.int x0), none, none, none, none, none, none, none] [] (f_W xs I L) (fun r1 => Wp (d + 1) 170 742 ls (r1.1.toList ++ st) r1.2 Q) := Wp.cv (y' := 150) (as := [.int x0]) e170_739 rfl (by decide) rfl (show 2 ≤ 9 by decide) (by decide) hs ht
theorem e170_742 : decode (j_co 170) 742 = .ok (.if_icmp .eq 464, 3) := by decide +kernel
set_option maxRecDepth 20000 in
theorem w170_742 {d : Nat} {st : List Value} {Q : Option Value × jW → Prop} {ls : jL} {w : jW} {a b : Int32} : Wp d 170 742 ls (.int b :: .int a :: st) w Q = ((a = b → Wp d 170 1206 ls st w Q) ∧ (¬ a = b → Wp d 170 745 ls st w Q)) := Wp.if2 (c := a = b) (off := 464) e170_742 rfl rfl rfl rfl rfl
theorem e170_745 : decode (j_co 170) 745 = .ok (.iconst 0, 1) := by decide +kernel
set_option maxRecDepth 20000 in
theorem w170_745 {d : Nat} {st : List Value} {Q : Option Value × jW → Prop} {ls : jL} {w : jW} : Wp d 170 745 ls (st) w Q = Wp d 170 746 ls (.int (nI 0) :: st) w Q := Wp.alu e170_745 rfl rfl
theorem e170_746 : decode (j_co 170) 746 = .ok (.ireturn, 1) := by decide +kernel
set_option maxRecDepth 20000 in
theorem w170_746 {d : Nat} {Q : Option Value × jW → Prop} {ls : jL} {w : jW} {x : Int32} (hx : x = 0 ∨ x = 1) : Wp d 170 746 ls [.int x] w Q = Q (some (.int x), w) := Wp.ret e170_746 (by rcases hx with rfl | rfl <;> rfl)
theorem e170_747 : decode (j_co 170) 747 = .ok (.aload_n 1, 1) := by decide +kernel
set_option maxRecDepth 20000 in
theorem w170_747 {d : Nat} {st : List Value} {Q : Option Value × jW → Prop} {w : jW} {a0 a2 a3 : Option Value} {x : Nat} : Wp d 170 747 [a0, some (.ref x), a2, a3] (st) w Q = Wp d 170 748 [a0, some (.ref x), a2, a3] (.ref x :: st) w Q := Wp.loc e170_747 rfl rfl rfl
theorem e170_748 : decode (j_co 170) 748 = .ok (.invokevirtual 79, 3) := by decide +kernel
set_option maxRecDepth 20000 in
theorem w170_748 {d : Nat} {st : List Value} {Q : Option Value × jW → Prop} {ls : jL} {xs : List Value} {I : fI} {L : fL} {r : Nat} (hs : j_sumc st ≤ 8) (ht : f_tg r = 10) : Wp (d + 1) 170 748 ls (.ref r :: st) (f_W xs I L) Q = Wp d 68 0 [some (.ref r)] [] (f_W xs I L) (fun r1 => Wp (d + 1) 170 751 ls (r1.1.toList ++ st) r1.2 Q) := Wp.cv (y' := 68) (as := []) e170_748 rfl (by decide) rfl (show 1 ≤ 1 by decide) (by decide) hs ht
theorem e170_751 : decode (j_co 170) 751 = .ok (.aload_n 2, 1) := by decide +kernel
set_option maxRecDepth 20000 in
theorem w170_751 {d : Nat} {st : List Value} {Q : Option Value × jW → Prop} {w : jW} {a0 a1 a3 : Option Value} {x : Nat} : Wp d 170 751 [a0, a1, some (.ref x), a3] (st) w Q = Wp d 170 752 [a0, a1, some (.ref x), a3] (.ref x :: st) w Q := Wp.loc e170_751 rfl rfl rfl
theorem e170_752 : decode (j_co 170) 752 = .ok (.invokevirtual 82, 3) := by decide +kernel
set_option maxRecDepth 20000 in
theorem w170_752 {d : Nat} {st : List Value} {Q : Option Value × jW → Prop} {ls : jL} {xs : List Value} {I : fI} {L : fL} {r : Nat} (hs : j_sumc st ≤ 8) (ht : f_tg r = 11) : Wp (d + 1) 170 752 ls (.ref r :: st) (f_W xs I L) Q = Wp d 151 0 [some (.ref r)] [] (f_W xs I L) (fun r1 => Wp (d + 1) 170 755 ls (r1.1.toList ++ st) r1.2 Q) := Wp.cv (y' := 151) (as := []) e170_752 rfl (by decide) rfl (show 1 ≤ 1 by decide) (by decide) hs ht
theorem e170_755 : decode (j_co 170) 755 = .ok (.if_icmp .eq 451, 3) := by decide +kernel
set_option maxRecDepth 20000 in
theorem w170_755 {d : Nat} {st : List Value} {Q : Option Value × jW → Prop} {ls : jL} {w : jW} {a b : Int32} : Wp d 170 755 ls (.int b :: .int a :: st) w Q = ((a = b → Wp d 170 1206 ls st w Q) ∧ (¬ a = b → Wp d 170 758 ls st w Q)) := Wp.if2 (c := a = b) (off := 451) e170_755 rfl rfl rfl rfl rfl
theorem e170_758 : decode (j_co 170) 758 = .ok (.iconst 0, 1) := by decide +kernel
set_option maxRecDepth 20000 in
theorem w170_758 {d : Nat} {st : List Value} {Q : Option Value × jW → Prop} {ls : jL} {w : jW} : Wp d 170 758 ls (st) w Q = Wp d 170 759 ls (.int (nI 0) :: st) w Q := Wp.alu e170_758 rfl rfl
theorem e170_759 : decode (j_co 170) 759 = .ok (.ireturn, 1) := by decide +kernel
set_option maxRecDepth 20000 in
theorem w170_759 {d : Nat} {Q : Option Value × jW → Prop} {ls : jL} {w : jW} {x : Int32} (hx : x = 0 ∨ x = 1) : Wp d 170 759 ls [.int x] w Q = Q (some (.int x), w) := Wp.ret e170_759 (by rcases hx with rfl | rfl <;> rfl)
theorem e170_760 : decode (j_co 170) 760 = .ok (.aload_n 1, 1) := by decide +kernel
set_option maxRecDepth 20000 in
theorem w170_760 {d : Nat} {st : List Value} {Q : Option Value × jW → Prop} {w : jW} {a0 a2 a3 : Option Value} {x : Nat} : Wp d 170 760 [a0, some (.ref x), a2, a3] (st) w Q = Wp d 170 761 [a0, some (.ref x), a2, a3] (.ref x :: st) w Q := Wp.loc e170_760 rfl rfl rfl
theorem e170_761 : decode (j_co 170) 761 = .ok (.aload_n 0, 1) := by decide +kernel
set_option maxRecDepth 20000 in
theorem w170_761 {d : Nat} {st : List Value} {Q : Option Value × jW → Prop} {w : jW} {a1 a2 a3 : Option Value} {x : Nat} : Wp d 170 761 [some (.ref x), a1, a2, a3] (st) w Q = Wp d 170 762 [some (.ref x), a1, a2, a3] (.ref x :: st) w Q := Wp.loc e170_761 rfl rfl rfl
theorem e170_762 : decode (j_co 170) 762 = .ok (.iload_n 3, 1) := by decide +kernel
set_option maxRecDepth 20000 in
theorem w170_762 {d : Nat} {st : List Value} {Q : Option Value × jW → Prop} {w : jW} {a0 a1 a2 : Option Value} {x : Int32} : Wp d 170 762 [a0, a1, a2, some (.int x)] (st) w Q = Wp d 170 763 [a0, a1, a2, some (.int x)] (.int x :: st) w Q := Wp.loc e170_762 rfl rfl rfl
theorem e170_763 : decode (j_co 170) 763 = .ok (.iconst 1, 1) := by decide +kernel
set_option maxRecDepth 20000 in
theorem w170_763 {d : Nat} {st : List Value} {Q : Option Value × jW → Prop} {ls : jL} {w : jW} : Wp d 170 763 ls (st) w Q = Wp d 170 764 ls (.int (nI 1) :: st) w Q := Wp.alu e170_763 rfl rfl
theorem e170_764 : decode (j_co 170) 764 = .ok (.iadd, 1) := by decide +kernel
set_option maxRecDepth 20000 in
theorem w170_764 {d : Nat} {st : List Value} {Q : Option Value × jW → Prop} {ls : jL} {w : jW} {a b : Int32} : Wp d 170 764 ls (.int b :: .int a :: st) w Q = Wp d 170 765 ls (.int (a + b) :: st) w Q := Wp.alu e170_764 rfl rfl
theorem e170_765 : decode (j_co 170) 765 = .ok (.iaload, 1) := by decide +kernel
theorem w170_765 {d k : Nat} {ls : jL} {st : List Value} {I : fI} {L : fL} {Q : Option Value × jW → Prop} {g : List Int32} (hk : k < g.length) (h31 : k < 2147483648) : Wp d 170 765 ls (.int (nI k) :: .ref 0 :: st) (f_W (g.map Value.int) I L) Q = Wp d 170 766 ls (.int (g.getD k 0) :: st) (f_W (g.map Value.int) I L) Q := Wp.iald0 e170_765 hk h31
theorem e170_766 : decode (j_co 170) 766 = .ok (.aload_n 0, 1) := by decide +kernel
set_option maxRecDepth 20000 in
theorem w170_766 {d : Nat} {st : List Value} {Q : Option Value × jW → Prop} {w : jW} {a1 a2 a3 : Option Value} {x : Nat} : Wp d 170 766 [some (.ref x), a1, a2, a3] (st) w Q = Wp d 170 767 [some (.ref x), a1, a2, a3] (.ref x :: st) w Q := Wp.loc e170_766 rfl rfl rfl
theorem e170_767 : decode (j_co 170) 767 = .ok (.iload_n 3, 1) := by decide +kernel
set_option maxRecDepth 20000 in
theorem w170_767 {d : Nat} {st : List Value} {Q : Option Value × jW → Prop} {w : jW} {a0 a1 a2 : Option Value} {x : Int32} : Wp d 170 767 [a0, a1, a2, some (.int x)] (st) w Q = Wp d 170 768 [a0, a1, a2, some (.int x)] (.int x :: st) w Q := Wp.loc e170_767 rfl rfl rfl
theorem e170_768 : decode (j_co 170) 768 = .ok (.iconst 2, 1) := by decide +kernel
set_option maxRecDepth 20000 in
theorem w170_768 {d : Nat} {st : List Value} {Q : Option Value × jW → Prop} {ls : jL} {w : jW} : Wp d 170 768 ls (st) w Q = Wp d 170 769 ls (.int (nI 2) :: st) w Q := Wp.alu e170_768 rfl rfl
theorem e170_769 : decode (j_co 170) 769 = .ok (.iadd, 1) := by decide +kernel
set_option maxRecDepth 20000 in
theorem w170_769 {d : Nat} {st : List Value} {Q : Option Value × jW → Prop} {ls : jL} {w : jW} {a b : Int32} : Wp d 170 769 ls (.int b :: .int a :: st) w Q = Wp d 170 770 ls (.int (a + b) :: st) w Q := Wp.alu e170_769 rfl rfl
theorem e170_770 : decode (j_co 170) 770 = .ok (.iaload, 1) := by decide +kernel
theorem w170_770 {d k : Nat} {ls : jL} {st : List Value} {I : fI} {L : fL} {Q : Option Value × jW → Prop} {g : List Int32} (hk : k < g.length) (h31 : k < 2147483648) : Wp d 170 770 ls (.int (nI k) :: .ref 0 :: st) (f_W (g.map Value.int) I L) Q = Wp d 170 771 ls (.int (g.getD k 0) :: st) (f_W (g.map Value.int) I L) Q := Wp.iald0 e170_770 hk h31
theorem e170_771 : decode (j_co 170) 771 = .ok (.invokevirtual 83, 3) := by decide +kernel
set_option maxRecDepth 20000 in
theorem w170_771 {d : Nat} {st : List Value} {Q : Option Value × jW → Prop} {ls : jL} {xs : List Value} {I : fI} {L : fL} {r : Nat} {x0 : Int32} {x1 : Int32} (hs : j_sumc st ≤ 8) (ht : f_tg r = 10) : Wp (d + 1) 170 771 ls (.int x1 :: .int x0 :: .ref r :: st) (f_W xs I L) Q = Wp d 74 0 [some (.ref r), some (.int x0), some (.int x1)] [] (f_W xs I L) (fun r1 => Wp (d + 1) 170 774 ls (r1.1.toList ++ st) r1.2 Q) := Wp.cv (y' := 74) (as := [.int x0, .int x1]) e170_771 rfl (by decide) rfl (show 3 ≤ 3 by decide) (by decide) hs ht
theorem e170_774 : decode (j_co 170) 774 = .ok (.aload_n 2, 1) := by decide +kernel
set_option maxRecDepth 20000 in
theorem w170_774 {d : Nat} {st : List Value} {Q : Option Value × jW → Prop} {w : jW} {a0 a1 a3 : Option Value} {x : Nat} : Wp d 170 774 [a0, a1, some (.ref x), a3] (st) w Q = Wp d 170 775 [a0, a1, some (.ref x), a3] (.ref x :: st) w Q := Wp.loc e170_774 rfl rfl rfl
theorem e170_775 : decode (j_co 170) 775 = .ok (.aload_n 0, 1) := by decide +kernel
set_option maxRecDepth 20000 in
theorem w170_775 {d : Nat} {st : List Value} {Q : Option Value × jW → Prop} {w : jW} {a1 a2 a3 : Option Value} {x : Nat} : Wp d 170 775 [some (.ref x), a1, a2, a3] (st) w Q = Wp d 170 776 [some (.ref x), a1, a2, a3] (.ref x :: st) w Q := Wp.loc e170_775 rfl rfl rfl
theorem e170_776 : decode (j_co 170) 776 = .ok (.iload_n 3, 1) := by decide +kernel
set_option maxRecDepth 20000 in
theorem w170_776 {d : Nat} {st : List Value} {Q : Option Value × jW → Prop} {w : jW} {a0 a1 a2 : Option Value} {x : Int32} : Wp d 170 776 [a0, a1, a2, some (.int x)] (st) w Q = Wp d 170 777 [a0, a1, a2, some (.int x)] (.int x :: st) w Q := Wp.loc e170_776 rfl rfl rfl
theorem e170_777 : decode (j_co 170) 777 = .ok (.iconst 1, 1) := by decide +kernel
set_option maxRecDepth 20000 in
theorem w170_777 {d : Nat} {st : List Value} {Q : Option Value × jW → Prop} {ls : jL} {w : jW} : Wp d 170 777 ls (st) w Q = Wp d 170 778 ls (.int (nI 1) :: st) w Q := Wp.alu e170_777 rfl rfl
theorem e170_778 : decode (j_co 170) 778 = .ok (.iadd, 1) := by decide +kernel
set_option maxRecDepth 20000 in
theorem w170_778 {d : Nat} {st : List Value} {Q : Option Value × jW → Prop} {ls : jL} {w : jW} {a b : Int32} : Wp d 170 778 ls (.int b :: .int a :: st) w Q = Wp d 170 779 ls (.int (a + b) :: st) w Q := Wp.alu e170_778 rfl rfl
theorem e170_779 : decode (j_co 170) 779 = .ok (.iaload, 1) := by decide +kernel
theorem w170_779 {d k : Nat} {ls : jL} {st : List Value} {I : fI} {L : fL} {Q : Option Value × jW → Prop} {g : List Int32} (hk : k < g.length) (h31 : k < 2147483648) : Wp d 170 779 ls (.int (nI k) :: .ref 0 :: st) (f_W (g.map Value.int) I L) Q = Wp d 170 780 ls (.int (g.getD k 0) :: st) (f_W (g.map Value.int) I L) Q := Wp.iald0 e170_779 hk h31
theorem e170_780 : decode (j_co 170) 780 = .ok (.aload_n 0, 1) := by decide +kernel
set_option maxRecDepth 20000 in
theorem w170_780 {d : Nat} {st : List Value} {Q : Option Value × jW → Prop} {w : jW} {a1 a2 a3 : Option Value} {x : Nat} : Wp d 170 780 [some (.ref x), a1, a2, a3] (st) w Q = Wp d 170 781 [some (.ref x), a1, a2, a3] (.ref x :: st) w Q := Wp.loc e170_780 rfl rfl rfl
theorem e170_781 : decode (j_co 170) 781 = .ok (.iload_n 3, 1) := by decide +kernel
set_option maxRecDepth 20000 in
theorem w170_781 {d : Nat} {st : List Value} {Q : Option Value × jW → Prop} {w : jW} {a0 a1 a2 : Option Value} {x : Int32} : Wp d 170 781 [a0, a1, a2, some (.int x)] (st) w Q = Wp d 170 782 [a0, a1, a2, some (.int x)] (.int x :: st) w Q := Wp.loc e170_781 rfl rfl rfl
theorem e170_782 : decode (j_co 170) 782 = .ok (.iconst 2, 1) := by decide +kernel
set_option maxRecDepth 20000 in
theorem w170_782 {d : Nat} {st : List Value} {Q : Option Value × jW → Prop} {ls : jL} {w : jW} : Wp d 170 782 ls (st) w Q = Wp d 170 783 ls (.int (nI 2) :: st) w Q := Wp.alu e170_782 rfl rfl
theorem e170_783 : decode (j_co 170) 783 = .ok (.iadd, 1) := by decide +kernel
set_option maxRecDepth 20000 in
theorem w170_783 {d : Nat} {st : List Value} {Q : Option Value × jW → Prop} {ls : jL} {w : jW} {a b : Int32} : Wp d 170 783 ls (.int b :: .int a :: st) w Q = Wp d 170 784 ls (.int (a + b) :: st) w Q := Wp.alu e170_783 rfl rfl
theorem e170_784 : decode (j_co 170) 784 = .ok (.iaload, 1) := by decide +kernel
theorem w170_784 {d k : Nat} {ls : jL} {st : List Value} {I : fI} {L : fL} {Q : Option Value × jW → Prop} {g : List Int32} (hk : k < g.length) (h31 : k < 2147483648) : Wp d 170 784 ls (.int (nI k) :: .ref 0 :: st) (f_W (g.map Value.int) I L) Q = Wp d 170 785 ls (.int (g.getD k 0) :: st) (f_W (g.map Value.int) I L) Q := Wp.iald0 e170_784 hk h31
theorem e170_785 : decode (j_co 170) 785 = .ok (.invokevirtual 86, 3) := by decide +kernel
set_option maxRecDepth 20000 in
theorem w170_785 {d : Nat} {st : List Value} {Q : Option Value × jW → Prop} {ls : jL} {xs : List Value} {I : fI} {L : fL} {r : Nat} {x0 : Int32} {x1 : Int32} (hs : j_sumc st ≤ 8) (ht : f_tg r = 11) : Wp (d + 1) 170 785 ls (.int x1 :: .int x0 :: .ref r :: st) (f_W xs I L) Q = Wp d 154 0 [some (.ref r), some (.int x0), some (.int x1), none] [] (f_W xs I L) (fun r1 => Wp (d + 1) 170 788 ls (r1.1.toList ++ st) r1.2 Q) := Wp.cv (y' := 154) (as := [.int x0, .int x1]) e170_785 rfl (by decide) rfl (show 3 ≤ 4 by decide) (by decide) hs ht
theorem e170_788 : decode (j_co 170) 788 = .ok (.if_icmp .eq 418, 3) := by decide +kernel
set_option maxRecDepth 20000 in
theorem w170_788 {d : Nat} {st : List Value} {Q : Option Value × jW → Prop} {ls : jL} {w : jW} {a b : Int32} : Wp d 170 788 ls (.int b :: .int a :: st) w Q = ((a = b → Wp d 170 1206 ls st w Q) ∧ (¬ a = b → Wp d 170 791 ls st w Q)) := Wp.if2 (c := a = b) (off := 418) e170_788 rfl rfl rfl rfl rfl
theorem e170_791 : decode (j_co 170) 791 = .ok (.iconst 0, 1) := by decide +kernel
set_option maxRecDepth 20000 in
theorem w170_791 {d : Nat} {st : List Value} {Q : Option Value × jW → Prop} {ls : jL} {w : jW} : Wp d 170 791 ls (st) w Q = Wp d 170 792 ls (.int (nI 0) :: st) w Q := Wp.alu e170_791 rfl rfl
theorem e170_792 : decode (j_co 170) 792 = .ok (.ireturn, 1) := by decide +kernel
set_option maxRecDepth 20000 in
theorem w170_792 {d : Nat} {Q : Option Value × jW → Prop} {ls : jL} {w : jW} {x : Int32} (hx : x = 0 ∨ x = 1) : Wp d 170 792 ls [.int x] w Q = Q (some (.int x), w) := Wp.ret e170_792 (by rcases hx with rfl | rfl <;> rfl)
theorem e170_793 : decode (j_co 170) 793 = .ok (.aload_n 1, 1) := by decide +kernel
set_option maxRecDepth 20000 in
theorem w170_793 {d : Nat} {st : List Value} {Q : Option Value × jW → Prop} {w : jW} {a0 a2 a3 : Option Value} {x : Nat} : Wp d 170 793 [a0, some (.ref x), a2, a3] (st) w Q = Wp d 170 794 [a0, some (.ref x), a2, a3] (.ref x :: st) w Q := Wp.loc e170_793 rfl rfl rfl
theorem e170_794 : decode (j_co 170) 794 = .ok (.aload_n 0, 1) := by decide +kernel
set_option maxRecDepth 20000 in
theorem w170_794 {d : Nat} {st : List Value} {Q : Option Value × jW → Prop} {w : jW} {a1 a2 a3 : Option Value} {x : Nat} : Wp d 170 794 [some (.ref x), a1, a2, a3] (st) w Q = Wp d 170 795 [some (.ref x), a1, a2, a3] (.ref x :: st) w Q := Wp.loc e170_794 rfl rfl rfl
theorem e170_795 : decode (j_co 170) 795 = .ok (.iload_n 3, 1) := by decide +kernel
set_option maxRecDepth 20000 in
theorem w170_795 {d : Nat} {st : List Value} {Q : Option Value × jW → Prop} {w : jW} {a0 a1 a2 : Option Value} {x : Int32} : Wp d 170 795 [a0, a1, a2, some (.int x)] (st) w Q = Wp d 170 796 [a0, a1, a2, some (.int x)] (.int x :: st) w Q := Wp.loc e170_795 rfl rfl rfl
theorem e170_796 : decode (j_co 170) 796 = .ok (.iconst 1, 1) := by decide +kernel
set_option maxRecDepth 20000 in
theorem w170_796 {d : Nat} {st : List Value} {Q : Option Value × jW → Prop} {ls : jL} {w : jW} : Wp d 170 796 ls (st) w Q = Wp d 170 797 ls (.int (nI 1) :: st) w Q := Wp.alu e170_796 rfl rfl
theorem e170_797 : decode (j_co 170) 797 = .ok (.iadd, 1) := by decide +kernel
set_option maxRecDepth 20000 in
theorem w170_797 {d : Nat} {st : List Value} {Q : Option Value × jW → Prop} {ls : jL} {w : jW} {a b : Int32} : Wp d 170 797 ls (.int b :: .int a :: st) w Q = Wp d 170 798 ls (.int (a + b) :: st) w Q := Wp.alu e170_797 rfl rfl
theorem e170_798 : decode (j_co 170) 798 = .ok (.iaload, 1) := by decide +kernel
theorem w170_798 {d k : Nat} {ls : jL} {st : List Value} {I : fI} {L : fL} {Q : Option Value × jW → Prop} {g : List Int32} (hk : k < g.length) (h31 : k < 2147483648) : Wp d 170 798 ls (.int (nI k) :: .ref 0 :: st) (f_W (g.map Value.int) I L) Q = Wp d 170 799 ls (.int (g.getD k 0) :: st) (f_W (g.map Value.int) I L) Q := Wp.iald0 e170_798 hk h31
theorem e170_799 : decode (j_co 170) 799 = .ok (.aload_n 0, 1) := by decide +kernel
set_option maxRecDepth 20000 in
theorem w170_799 {d : Nat} {st : List Value} {Q : Option Value × jW → Prop} {w : jW} {a1 a2 a3 : Option Value} {x : Nat} : Wp d 170 799 [some (.ref x), a1, a2, a3] (st) w Q = Wp d 170 800 [some (.ref x), a1, a2, a3] (.ref x :: st) w Q := Wp.loc e170_799 rfl rfl rfl
theorem e170_800 : decode (j_co 170) 800 = .ok (.iload_n 3, 1) := by decide +kernel
set_option maxRecDepth 20000 in
theorem w170_800 {d : Nat} {st : List Value} {Q : Option Value × jW → Prop} {w : jW} {a0 a1 a2 : Option Value} {x : Int32} : Wp d 170 800 [a0, a1, a2, some (.int x)] (st) w Q = Wp d 170 801 [a0, a1, a2, some (.int x)] (.int x :: st) w Q := Wp.loc e170_800 rfl rfl rfl
theorem e170_801 : decode (j_co 170) 801 = .ok (.iconst 2, 1) := by decide +kernel
set_option maxRecDepth 20000 in
theorem w170_801 {d : Nat} {st : List Value} {Q : Option Value × jW → Prop} {ls : jL} {w : jW} : Wp d 170 801 ls (st) w Q = Wp d 170 802 ls (.int (nI 2) :: st) w Q := Wp.alu e170_801 rfl rfl
theorem e170_802 : decode (j_co 170) 802 = .ok (.iadd, 1) := by decide +kernel
set_option maxRecDepth 20000 in
theorem w170_802 {d : Nat} {st : List Value} {Q : Option Value × jW → Prop} {ls : jL} {w : jW} {a b : Int32} : Wp d 170 802 ls (.int b :: .int a :: st) w Q = Wp d 170 803 ls (.int (a + b) :: st) w Q := Wp.alu e170_802 rfl rfl
theorem e170_803 : decode (j_co 170) 803 = .ok (.iaload, 1) := by decide +kernel
theorem w170_803 {d k : Nat} {ls : jL} {st : List Value} {I : fI} {L : fL} {Q : Option Value × jW → Prop} {g : List Int32} (hk : k < g.length) (h31 : k < 2147483648) : Wp d 170 803 ls (.int (nI k) :: .ref 0 :: st) (f_W (g.map Value.int) I L) Q = Wp d 170 804 ls (.int (g.getD k 0) :: st) (f_W (g.map Value.int) I L) Q := Wp.iald0 e170_803 hk h31
theorem e170_804 : decode (j_co 170) 804 = .ok (.aload_n 0, 1) := by decide +kernel
set_option maxRecDepth 20000 in
theorem w170_804 {d : Nat} {st : List Value} {Q : Option Value × jW → Prop} {w : jW} {a1 a2 a3 : Option Value} {x : Nat} : Wp d 170 804 [some (.ref x), a1, a2, a3] (st) w Q = Wp d 170 805 [some (.ref x), a1, a2, a3] (.ref x :: st) w Q := Wp.loc e170_804 rfl rfl rfl
theorem e170_805 : decode (j_co 170) 805 = .ok (.iload_n 3, 1) := by decide +kernel
set_option maxRecDepth 20000 in
theorem w170_805 {d : Nat} {st : List Value} {Q : Option Value × jW → Prop} {w : jW} {a0 a1 a2 : Option Value} {x : Int32} : Wp d 170 805 [a0, a1, a2, some (.int x)] (st) w Q = Wp d 170 806 [a0, a1, a2, some (.int x)] (.int x :: st) w Q := Wp.loc e170_805 rfl rfl rfl
theorem e170_806 : decode (j_co 170) 806 = .ok (.iconst 3, 1) := by decide +kernel
set_option maxRecDepth 20000 in
theorem w170_806 {d : Nat} {st : List Value} {Q : Option Value × jW → Prop} {ls : jL} {w : jW} : Wp d 170 806 ls (st) w Q = Wp d 170 807 ls (.int (nI 3) :: st) w Q := Wp.alu e170_806 rfl rfl
theorem e170_807 : decode (j_co 170) 807 = .ok (.iadd, 1) := by decide +kernel
set_option maxRecDepth 20000 in
theorem w170_807 {d : Nat} {st : List Value} {Q : Option Value × jW → Prop} {ls : jL} {w : jW} {a b : Int32} : Wp d 170 807 ls (.int b :: .int a :: st) w Q = Wp d 170 808 ls (.int (a + b) :: st) w Q := Wp.alu e170_807 rfl rfl
theorem e170_808 : decode (j_co 170) 808 = .ok (.iaload, 1) := by decide +kernel
theorem w170_808 {d k : Nat} {ls : jL} {st : List Value} {I : fI} {L : fL} {Q : Option Value × jW → Prop} {g : List Int32} (hk : k < g.length) (h31 : k < 2147483648) : Wp d 170 808 ls (.int (nI k) :: .ref 0 :: st) (f_W (g.map Value.int) I L) Q = Wp d 170 809 ls (.int (g.getD k 0) :: st) (f_W (g.map Value.int) I L) Q := Wp.iald0 e170_808 hk h31
theorem e170_809 : decode (j_co 170) 809 = .ok (.aload_n 0, 1) := by decide +kernel
set_option maxRecDepth 20000 in
theorem w170_809 {d : Nat} {st : List Value} {Q : Option Value × jW → Prop} {w : jW} {a1 a2 a3 : Option Value} {x : Nat} : Wp d 170 809 [some (.ref x), a1, a2, a3] (st) w Q = Wp d 170 810 [some (.ref x), a1, a2, a3] (.ref x :: st) w Q := Wp.loc e170_809 rfl rfl rfl
theorem e170_810 : decode (j_co 170) 810 = .ok (.iload_n 3, 1) := by decide +kernel
set_option maxRecDepth 20000 in
theorem w170_810 {d : Nat} {st : List Value} {Q : Option Value × jW → Prop} {w : jW} {a0 a1 a2 : Option Value} {x : Int32} : Wp d 170 810 [a0, a1, a2, some (.int x)] (st) w Q = Wp d 170 811 [a0, a1, a2, some (.int x)] (.int x :: st) w Q := Wp.loc e170_810 rfl rfl rfl
theorem e170_811 : decode (j_co 170) 811 = .ok (.iconst 4, 1) := by decide +kernel
set_option maxRecDepth 20000 in
theorem w170_811 {d : Nat} {st : List Value} {Q : Option Value × jW → Prop} {ls : jL} {w : jW} : Wp d 170 811 ls (st) w Q = Wp d 170 812 ls (.int (nI 4) :: st) w Q := Wp.alu e170_811 rfl rfl
theorem e170_812 : decode (j_co 170) 812 = .ok (.iadd, 1) := by decide +kernel
set_option maxRecDepth 20000 in
theorem w170_812 {d : Nat} {st : List Value} {Q : Option Value × jW → Prop} {ls : jL} {w : jW} {a b : Int32} : Wp d 170 812 ls (.int b :: .int a :: st) w Q = Wp d 170 813 ls (.int (a + b) :: st) w Q := Wp.alu e170_812 rfl rfl
theorem e170_813 : decode (j_co 170) 813 = .ok (.iaload, 1) := by decide +kernel
theorem w170_813 {d k : Nat} {ls : jL} {st : List Value} {I : fI} {L : fL} {Q : Option Value × jW → Prop} {g : List Int32} (hk : k < g.length) (h31 : k < 2147483648) : Wp d 170 813 ls (.int (nI k) :: .ref 0 :: st) (f_W (g.map Value.int) I L) Q = Wp d 170 814 ls (.int (g.getD k 0) :: st) (f_W (g.map Value.int) I L) Q := Wp.iald0 e170_813 hk h31
theorem e170_814 : decode (j_co 170) 814 = .ok (.invokevirtual 87, 3) := by decide +kernel
set_option maxRecDepth 20000 in
theorem w170_814 {d : Nat} {st : List Value} {Q : Option Value × jW → Prop} {ls : jL} {xs : List Value} {I : fI} {L : fL} {r : Nat} {x0 : Int32} {x1 : Int32} {x2 : Int32} {x3 : Int32} (hs : j_sumc st ≤ 8) (ht : f_tg r = 10) : Wp (d + 1) 170 814 ls (.int x3 :: .int x2 :: .int x1 :: .int x0 :: .ref r :: st) (f_W xs I L) Q = Wp d 76 0 [some (.ref r), some (.int x0), some (.int x1), some (.int x2), some (.int x3)] [] (f_W xs I L) (fun r1 => Wp (d + 1) 170 817 ls (r1.1.toList ++ st) r1.2 Q) := Wp.cv (y' := 76) (as := [.int x0, .int x1, .int x2, .int x3]) e170_814 rfl (by decide) rfl (show 5 ≤ 5 by decide) (by decide) hs ht
theorem e170_817 : decode (j_co 170) 817 = .ok (.aload_n 2, 1) := by decide +kernel
set_option maxRecDepth 20000 in
theorem w170_817 {d : Nat} {st : List Value} {Q : Option Value × jW → Prop} {w : jW} {a0 a1 a3 : Option Value} {x : Nat} : Wp d 170 817 [a0, a1, some (.ref x), a3] (st) w Q = Wp d 170 818 [a0, a1, some (.ref x), a3] (.ref x :: st) w Q := Wp.loc e170_817 rfl rfl rfl
theorem e170_818 : decode (j_co 170) 818 = .ok (.aload_n 0, 1) := by decide +kernel
set_option maxRecDepth 20000 in
theorem w170_818 {d : Nat} {st : List Value} {Q : Option Value × jW → Prop} {w : jW} {a1 a2 a3 : Option Value} {x : Nat} : Wp d 170 818 [some (.ref x), a1, a2, a3] (st) w Q = Wp d 170 819 [some (.ref x), a1, a2, a3] (.ref x :: st) w Q := Wp.loc e170_818 rfl rfl rfl
theorem e170_819 : decode (j_co 170) 819 = .ok (.iload_n 3, 1) := by decide +kernel
set_option maxRecDepth 20000 in
theorem w170_819 {d : Nat} {st : List Value} {Q : Option Value × jW → Prop} {w : jW} {a0 a1 a2 : Option Value} {x : Int32} : Wp d 170 819 [a0, a1, a2, some (.int x)] (st) w Q = Wp d 170 820 [a0, a1, a2, some (.int x)] (.int x :: st) w Q := Wp.loc e170_819 rfl rfl rfl
theorem e170_820 : decode (j_co 170) 820 = .ok (.iconst 1, 1) := by decide +kernel
set_option maxRecDepth 20000 in
theorem w170_820 {d : Nat} {st : List Value} {Q : Option Value × jW → Prop} {ls : jL} {w : jW} : Wp d 170 820 ls (st) w Q = Wp d 170 821 ls (.int (nI 1) :: st) w Q := Wp.alu e170_820 rfl rfl
theorem e170_821 : decode (j_co 170) 821 = .ok (.iadd, 1) := by decide +kernel
set_option maxRecDepth 20000 in
theorem w170_821 {d : Nat} {st : List Value} {Q : Option Value × jW → Prop} {ls : jL} {w : jW} {a b : Int32} : Wp d 170 821 ls (.int b :: .int a :: st) w Q = Wp d 170 822 ls (.int (a + b) :: st) w Q := Wp.alu e170_821 rfl rfl
theorem e170_822 : decode (j_co 170) 822 = .ok (.iaload, 1) := by decide +kernel
theorem w170_822 {d k : Nat} {ls : jL} {st : List Value} {I : fI} {L : fL} {Q : Option Value × jW → Prop} {g : List Int32} (hk : k < g.length) (h31 : k < 2147483648) : Wp d 170 822 ls (.int (nI k) :: .ref 0 :: st) (f_W (g.map Value.int) I L) Q = Wp d 170 823 ls (.int (g.getD k 0) :: st) (f_W (g.map Value.int) I L) Q := Wp.iald0 e170_822 hk h31
theorem e170_823 : decode (j_co 170) 823 = .ok (.aload_n 0, 1) := by decide +kernel
set_option maxRecDepth 20000 in
theorem w170_823 {d : Nat} {st : List Value} {Q : Option Value × jW → Prop} {w : jW} {a1 a2 a3 : Option Value} {x : Nat} : Wp d 170 823 [some (.ref x), a1, a2, a3] (st) w Q = Wp d 170 824 [some (.ref x), a1, a2, a3] (.ref x :: st) w Q := Wp.loc e170_823 rfl rfl rfl
theorem e170_824 : decode (j_co 170) 824 = .ok (.iload_n 3, 1) := by decide +kernel
set_option maxRecDepth 20000 in
theorem w170_824 {d : Nat} {st : List Value} {Q : Option Value × jW → Prop} {w : jW} {a0 a1 a2 : Option Value} {x : Int32} : Wp d 170 824 [a0, a1, a2, some (.int x)] (st) w Q = Wp d 170 825 [a0, a1, a2, some (.int x)] (.int x :: st) w Q := Wp.loc e170_824 rfl rfl rfl
theorem e170_825 : decode (j_co 170) 825 = .ok (.iconst 2, 1) := by decide +kernel
set_option maxRecDepth 20000 in
theorem w170_825 {d : Nat} {st : List Value} {Q : Option Value × jW → Prop} {ls : jL} {w : jW} : Wp d 170 825 ls (st) w Q = Wp d 170 826 ls (.int (nI 2) :: st) w Q := Wp.alu e170_825 rfl rfl
theorem e170_826 : decode (j_co 170) 826 = .ok (.iadd, 1) := by decide +kernel
set_option maxRecDepth 20000 in
theorem w170_826 {d : Nat} {st : List Value} {Q : Option Value × jW → Prop} {ls : jL} {w : jW} {a b : Int32} : Wp d 170 826 ls (.int b :: .int a :: st) w Q = Wp d 170 827 ls (.int (a + b) :: st) w Q := Wp.alu e170_826 rfl rfl
theorem e170_827 : decode (j_co 170) 827 = .ok (.iaload, 1) := by decide +kernel
theorem w170_827 {d k : Nat} {ls : jL} {st : List Value} {I : fI} {L : fL} {Q : Option Value × jW → Prop} {g : List Int32} (hk : k < g.length) (h31 : k < 2147483648) : Wp d 170 827 ls (.int (nI k) :: .ref 0 :: st) (f_W (g.map Value.int) I L) Q = Wp d 170 828 ls (.int (g.getD k 0) :: st) (f_W (g.map Value.int) I L) Q := Wp.iald0 e170_827 hk h31
theorem e170_828 : decode (j_co 170) 828 = .ok (.aload_n 0, 1) := by decide +kernel
set_option maxRecDepth 20000 in
theorem w170_828 {d : Nat} {st : List Value} {Q : Option Value × jW → Prop} {w : jW} {a1 a2 a3 : Option Value} {x : Nat} : Wp d 170 828 [some (.ref x), a1, a2, a3] (st) w Q = Wp d 170 829 [some (.ref x), a1, a2, a3] (.ref x :: st) w Q := Wp.loc e170_828 rfl rfl rfl
theorem e170_829 : decode (j_co 170) 829 = .ok (.iload_n 3, 1) := by decide +kernel
set_option maxRecDepth 20000 in
theorem w170_829 {d : Nat} {st : List Value} {Q : Option Value × jW → Prop} {w : jW} {a0 a1 a2 : Option Value} {x : Int32} : Wp d 170 829 [a0, a1, a2, some (.int x)] (st) w Q = Wp d 170 830 [a0, a1, a2, some (.int x)] (.int x :: st) w Q := Wp.loc e170_829 rfl rfl rfl
theorem e170_830 : decode (j_co 170) 830 = .ok (.iconst 3, 1) := by decide +kernel
set_option maxRecDepth 20000 in
theorem w170_830 {d : Nat} {st : List Value} {Q : Option Value × jW → Prop} {ls : jL} {w : jW} : Wp d 170 830 ls (st) w Q = Wp d 170 831 ls (.int (nI 3) :: st) w Q := Wp.alu e170_830 rfl rfl
theorem e170_831 : decode (j_co 170) 831 = .ok (.iadd, 1) := by decide +kernel
set_option maxRecDepth 20000 in
theorem w170_831 {d : Nat} {st : List Value} {Q : Option Value × jW → Prop} {ls : jL} {w : jW} {a b : Int32} : Wp d 170 831 ls (.int b :: .int a :: st) w Q = Wp d 170 832 ls (.int (a + b) :: st) w Q := Wp.alu e170_831 rfl rfl
theorem e170_832 : decode (j_co 170) 832 = .ok (.iaload, 1) := by decide +kernel
theorem w170_832 {d k : Nat} {ls : jL} {st : List Value} {I : fI} {L : fL} {Q : Option Value × jW → Prop} {g : List Int32} (hk : k < g.length) (h31 : k < 2147483648) : Wp d 170 832 ls (.int (nI k) :: .ref 0 :: st) (f_W (g.map Value.int) I L) Q = Wp d 170 833 ls (.int (g.getD k 0) :: st) (f_W (g.map Value.int) I L) Q := Wp.iald0 e170_832 hk h31
theorem e170_833 : decode (j_co 170) 833 = .ok (.aload_n 0, 1) := by decide +kernel
set_option maxRecDepth 20000 in
theorem w170_833 {d : Nat} {st : List Value} {Q : Option Value × jW → Prop} {w : jW} {a1 a2 a3 : Option Value} {x : Nat} : Wp d 170 833 [some (.ref x), a1, a2, a3] (st) w Q = Wp d 170 834 [some (.ref x), a1, a2, a3] (.ref x :: st) w Q := Wp.loc e170_833 rfl rfl rfl
theorem e170_834 : decode (j_co 170) 834 = .ok (.iload_n 3, 1) := by decide +kernel
set_option maxRecDepth 20000 in
theorem w170_834 {d : Nat} {st : List Value} {Q : Option Value × jW → Prop} {w : jW} {a0 a1 a2 : Option Value} {x : Int32} : Wp d 170 834 [a0, a1, a2, some (.int x)] (st) w Q = Wp d 170 835 [a0, a1, a2, some (.int x)] (.int x :: st) w Q := Wp.loc e170_834 rfl rfl rfl
theorem e170_835 : decode (j_co 170) 835 = .ok (.iconst 4, 1) := by decide +kernel
set_option maxRecDepth 20000 in
theorem w170_835 {d : Nat} {st : List Value} {Q : Option Value × jW → Prop} {ls : jL} {w : jW} : Wp d 170 835 ls (st) w Q = Wp d 170 836 ls (.int (nI 4) :: st) w Q := Wp.alu e170_835 rfl rfl
theorem e170_836 : decode (j_co 170) 836 = .ok (.iadd, 1) := by decide +kernel
set_option maxRecDepth 20000 in
theorem w170_836 {d : Nat} {st : List Value} {Q : Option Value × jW → Prop} {ls : jL} {w : jW} {a b : Int32} : Wp d 170 836 ls (.int b :: .int a :: st) w Q = Wp d 170 837 ls (.int (a + b) :: st) w Q := Wp.alu e170_836 rfl rfl
theorem e170_837 : decode (j_co 170) 837 = .ok (.iaload, 1) := by decide +kernel
theorem w170_837 {d k : Nat} {ls : jL} {st : List Value} {I : fI} {L : fL} {Q : Option Value × jW → Prop} {g : List Int32} (hk : k < g.length) (h31 : k < 2147483648) : Wp d 170 837 ls (.int (nI k) :: .ref 0 :: st) (f_W (g.map Value.int) I L) Q = Wp d 170 838 ls (.int (g.getD k 0) :: st) (f_W (g.map Value.int) I L) Q := Wp.iald0 e170_837 hk h31
theorem e170_838 : decode (j_co 170) 838 = .ok (.invokevirtual 90, 3) := by decide +kernel
set_option maxRecDepth 20000 in
theorem w170_838 {d : Nat} {st : List Value} {Q : Option Value × jW → Prop} {ls : jL} {xs : List Value} {I : fI} {L : fL} {r : Nat} {x0 : Int32} {x1 : Int32} {x2 : Int32} {x3 : Int32} (hs : j_sumc st ≤ 8) (ht : f_tg r = 11) : Wp (d + 1) 170 838 ls (.int x3 :: .int x2 :: .int x1 :: .int x0 :: .ref r :: st) (f_W xs I L) Q = Wp d 155 0 [some (.ref r), some (.int x0), some (.int x1), some (.int x2), some (.int x3)] [] (f_W xs I L) (fun r1 => Wp (d + 1) 170 841 ls (r1.1.toList ++ st) r1.2 Q) := Wp.cv (y' := 155) (as := [.int x0, .int x1, .int x2, .int x3]) e170_838 rfl (by decide) rfl (show 5 ≤ 5 by decide) (by decide) hs ht
theorem e170_841 : decode (j_co 170) 841 = .ok (.if_icmp .eq 365, 3) := by decide +kernel
set_option maxRecDepth 20000 in
theorem w170_841 {d : Nat} {st : List Value} {Q : Option Value × jW → Prop} {ls : jL} {w : jW} {a b : Int32} : Wp d 170 841 ls (.int b :: .int a :: st) w Q = ((a = b → Wp d 170 1206 ls st w Q) ∧ (¬ a = b → Wp d 170 844 ls st w Q)) := Wp.if2 (c := a = b) (off := 365) e170_841 rfl rfl rfl rfl rfl
theorem e170_844 : decode (j_co 170) 844 = .ok (.iconst 0, 1) := by decide +kernel
set_option maxRecDepth 20000 in
theorem w170_844 {d : Nat} {st : List Value} {Q : Option Value × jW → Prop} {ls : jL} {w : jW} : Wp d 170 844 ls (st) w Q = Wp d 170 845 ls (.int (nI 0) :: st) w Q := Wp.alu e170_844 rfl rfl
theorem e170_845 : decode (j_co 170) 845 = .ok (.ireturn, 1) := by decide +kernel
set_option maxRecDepth 20000 in
theorem w170_845 {d : Nat} {Q : Option Value × jW → Prop} {ls : jL} {w : jW} {x : Int32} (hx : x = 0 ∨ x = 1) : Wp d 170 845 ls [.int x] w Q = Q (some (.int x), w) := Wp.ret e170_845 (by rcases hx with rfl | rfl <;> rfl)
theorem e170_846 : decode (j_co 170) 846 = .ok (.aload_n 1, 1) := by decide +kernel
set_option maxRecDepth 20000 in
theorem w170_846 {d : Nat} {st : List Value} {Q : Option Value × jW → Prop} {w : jW} {a0 a2 a3 : Option Value} {x : Nat} : Wp d 170 846 [a0, some (.ref x), a2, a3] (st) w Q = Wp d 170 847 [a0, some (.ref x), a2, a3] (.ref x :: st) w Q := Wp.loc e170_846 rfl rfl rfl
theorem e170_847 : decode (j_co 170) 847 = .ok (.invokevirtual 91, 3) := by decide +kernel
set_option maxRecDepth 20000 in
theorem w170_847 {d : Nat} {st : List Value} {Q : Option Value × jW → Prop} {ls : jL} {xs : List Value} {I : fI} {L : fL} {r : Nat} (hs : j_sumc st ≤ 8) (ht : f_tg r = 10) : Wp (d + 1) 170 847 ls (.ref r :: st) (f_W xs I L) Q = Wp d 78 0 [some (.ref r)] [] (f_W xs I L) (fun r1 => Wp (d + 1) 170 850 ls (r1.1.toList ++ st) r1.2 Q) := Wp.cv (y' := 78) (as := []) e170_847 rfl (by decide) rfl (show 1 ≤ 1 by decide) (by decide) hs ht
theorem e170_850 : decode (j_co 170) 850 = .ok (.aload_n 2, 1) := by decide +kernel
set_option maxRecDepth 20000 in
theorem w170_850 {d : Nat} {st : List Value} {Q : Option Value × jW → Prop} {w : jW} {a0 a1 a3 : Option Value} {x : Nat} : Wp d 170 850 [a0, a1, some (.ref x), a3] (st) w Q = Wp d 170 851 [a0, a1, some (.ref x), a3] (.ref x :: st) w Q := Wp.loc e170_850 rfl rfl rfl
theorem e170_851 : decode (j_co 170) 851 = .ok (.invokevirtual 94, 3) := by decide +kernel
set_option maxRecDepth 20000 in
theorem w170_851 {d : Nat} {st : List Value} {Q : Option Value × jW → Prop} {ls : jL} {xs : List Value} {I : fI} {L : fL} {r : Nat} (hs : j_sumc st ≤ 8) (ht : f_tg r = 11) : Wp (d + 1) 170 851 ls (.ref r :: st) (f_W xs I L) Q = Wp d 156 0 [some (.ref r), none, none] [] (f_W xs I L) (fun r1 => Wp (d + 1) 170 854 ls (r1.1.toList ++ st) r1.2 Q) := Wp.cv (y' := 156) (as := []) e170_851 rfl (by decide) rfl (show 1 ≤ 3 by decide) (by decide) hs ht
theorem e170_854 : decode (j_co 170) 854 = .ok (.if_icmp .eq 352, 3) := by decide +kernel
set_option maxRecDepth 20000 in
theorem w170_854 {d : Nat} {st : List Value} {Q : Option Value × jW → Prop} {ls : jL} {w : jW} {a b : Int32} : Wp d 170 854 ls (.int b :: .int a :: st) w Q = ((a = b → Wp d 170 1206 ls st w Q) ∧ (¬ a = b → Wp d 170 857 ls st w Q)) := Wp.if2 (c := a = b) (off := 352) e170_854 rfl rfl rfl rfl rfl
theorem e170_857 : decode (j_co 170) 857 = .ok (.iconst 0, 1) := by decide +kernel
set_option maxRecDepth 20000 in
theorem w170_857 {d : Nat} {st : List Value} {Q : Option Value × jW → Prop} {ls : jL} {w : jW} : Wp d 170 857 ls (st) w Q = Wp d 170 858 ls (.int (nI 0) :: st) w Q := Wp.alu e170_857 rfl rfl
theorem e170_858 : decode (j_co 170) 858 = .ok (.ireturn, 1) := by decide +kernel
set_option maxRecDepth 20000 in
theorem w170_858 {d : Nat} {Q : Option Value × jW → Prop} {ls : jL} {w : jW} {x : Int32} (hx : x = 0 ∨ x = 1) : Wp d 170 858 ls [.int x] w Q = Q (some (.int x), w) := Wp.ret e170_858 (by rcases hx with rfl | rfl <;> rfl)
theorem e170_859 : decode (j_co 170) 859 = .ok (.aload_n 1, 1) := by decide +kernel
set_option maxRecDepth 20000 in
theorem w170_859 {d : Nat} {st : List Value} {Q : Option Value × jW → Prop} {w : jW} {a0 a2 a3 : Option Value} {x : Nat} : Wp d 170 859 [a0, some (.ref x), a2, a3] (st) w Q = Wp d 170 860 [a0, some (.ref x), a2, a3] (.ref x :: st) w Q := Wp.loc e170_859 rfl rfl rfl
theorem e170_860 : decode (j_co 170) 860 = .ok (.invokevirtual 95, 3) := by decide +kernel
set_option maxRecDepth 20000 in
theorem w170_860 {d : Nat} {st : List Value} {Q : Option Value × jW → Prop} {ls : jL} {xs : List Value} {I : fI} {L : fL} {r : Nat} (hs : j_sumc st ≤ 8) (ht : f_tg r = 10) : Wp (d + 1) 170 860 ls (.ref r :: st) (f_W xs I L) Q = Wp d 80 0 [some (.ref r)] [] (f_W xs I L) (fun r1 => Wp (d + 1) 170 863 ls (r1.1.toList ++ st) r1.2 Q) := Wp.cv (y' := 80) (as := []) e170_860 rfl (by decide) rfl (show 1 ≤ 1 by decide) (by decide) hs ht
theorem e170_863 : decode (j_co 170) 863 = .ok (.aload_n 2, 1) := by decide +kernel
set_option maxRecDepth 20000 in
theorem w170_863 {d : Nat} {st : List Value} {Q : Option Value × jW → Prop} {w : jW} {a0 a1 a3 : Option Value} {x : Nat} : Wp d 170 863 [a0, a1, some (.ref x), a3] (st) w Q = Wp d 170 864 [a0, a1, some (.ref x), a3] (.ref x :: st) w Q := Wp.loc e170_863 rfl rfl rfl
theorem e170_864 : decode (j_co 170) 864 = .ok (.invokevirtual 98, 3) := by decide +kernel
set_option maxRecDepth 20000 in
theorem w170_864 {d : Nat} {st : List Value} {Q : Option Value × jW → Prop} {ls : jL} {xs : List Value} {I : fI} {L : fL} {r : Nat} (hs : j_sumc st ≤ 8) (ht : f_tg r = 11) : Wp (d + 1) 170 864 ls (.ref r :: st) (f_W xs I L) Q = Wp d 157 0 [some (.ref r), none] [] (f_W xs I L) (fun r1 => Wp (d + 1) 170 867 ls (r1.1.toList ++ st) r1.2 Q) := Wp.cv (y' := 157) (as := []) e170_864 rfl (by decide) rfl (show 1 ≤ 2 by decide) (by decide) hs ht
theorem e170_867 : decode (j_co 170) 867 = .ok (.if_icmp .eq 339, 3) := by decide +kernel
set_option maxRecDepth 20000 in
theorem w170_867 {d : Nat} {st : List Value} {Q : Option Value × jW → Prop} {ls : jL} {w : jW} {a b : Int32} : Wp d 170 867 ls (.int b :: .int a :: st) w Q = ((a = b → Wp d 170 1206 ls st w Q) ∧ (¬ a = b → Wp d 170 870 ls st w Q)) := Wp.if2 (c := a = b) (off := 339) e170_867 rfl rfl rfl rfl rfl
theorem e170_870 : decode (j_co 170) 870 = .ok (.iconst 0, 1) := by decide +kernel
set_option maxRecDepth 20000 in
theorem w170_870 {d : Nat} {st : List Value} {Q : Option Value × jW → Prop} {ls : jL} {w : jW} : Wp d 170 870 ls (st) w Q = Wp d 170 871 ls (.int (nI 0) :: st) w Q := Wp.alu e170_870 rfl rfl
theorem e170_871 : decode (j_co 170) 871 = .ok (.ireturn, 1) := by decide +kernel
set_option maxRecDepth 20000 in
theorem w170_871 {d : Nat} {Q : Option Value × jW → Prop} {ls : jL} {w : jW} {x : Int32} (hx : x = 0 ∨ x = 1) : Wp d 170 871 ls [.int x] w Q = Q (some (.int x), w) := Wp.ret e170_871 (by rcases hx with rfl | rfl <;> rfl)
theorem e170_872 : decode (j_co 170) 872 = .ok (.aload_n 1, 1) := by decide +kernel
set_option maxRecDepth 20000 in
theorem w170_872 {d : Nat} {st : List Value} {Q : Option Value × jW → Prop} {w : jW} {a0 a2 a3 : Option Value} {x : Nat} : Wp d 170 872 [a0, some (.ref x), a2, a3] (st) w Q = Wp d 170 873 [a0, some (.ref x), a2, a3] (.ref x :: st) w Q := Wp.loc e170_872 rfl rfl rfl
theorem e170_873 : decode (j_co 170) 873 = .ok (.aload_n 0, 1) := by decide +kernel
set_option maxRecDepth 20000 in
theorem w170_873 {d : Nat} {st : List Value} {Q : Option Value × jW → Prop} {w : jW} {a1 a2 a3 : Option Value} {x : Nat} : Wp d 170 873 [some (.ref x), a1, a2, a3] (st) w Q = Wp d 170 874 [some (.ref x), a1, a2, a3] (.ref x :: st) w Q := Wp.loc e170_873 rfl rfl rfl
theorem e170_874 : decode (j_co 170) 874 = .ok (.iload_n 3, 1) := by decide +kernel
set_option maxRecDepth 20000 in
theorem w170_874 {d : Nat} {st : List Value} {Q : Option Value × jW → Prop} {w : jW} {a0 a1 a2 : Option Value} {x : Int32} : Wp d 170 874 [a0, a1, a2, some (.int x)] (st) w Q = Wp d 170 875 [a0, a1, a2, some (.int x)] (.int x :: st) w Q := Wp.loc e170_874 rfl rfl rfl
theorem e170_875 : decode (j_co 170) 875 = .ok (.iconst 1, 1) := by decide +kernel
set_option maxRecDepth 20000 in
theorem w170_875 {d : Nat} {st : List Value} {Q : Option Value × jW → Prop} {ls : jL} {w : jW} : Wp d 170 875 ls (st) w Q = Wp d 170 876 ls (.int (nI 1) :: st) w Q := Wp.alu e170_875 rfl rfl
theorem e170_876 : decode (j_co 170) 876 = .ok (.iadd, 1) := by decide +kernel
set_option maxRecDepth 20000 in
theorem w170_876 {d : Nat} {st : List Value} {Q : Option Value × jW → Prop} {ls : jL} {w : jW} {a b : Int32} : Wp d 170 876 ls (.int b :: .int a :: st) w Q = Wp d 170 877 ls (.int (a + b) :: st) w Q := Wp.alu e170_876 rfl rfl
theorem e170_877 : decode (j_co 170) 877 = .ok (.iaload, 1) := by decide +kernel
theorem w170_877 {d k : Nat} {ls : jL} {st : List Value} {I : fI} {L : fL} {Q : Option Value × jW → Prop} {g : List Int32} (hk : k < g.length) (h31 : k < 2147483648) : Wp d 170 877 ls (.int (nI k) :: .ref 0 :: st) (f_W (g.map Value.int) I L) Q = Wp d 170 878 ls (.int (g.getD k 0) :: st) (f_W (g.map Value.int) I L) Q := Wp.iald0 e170_877 hk h31
theorem e170_878 : decode (j_co 170) 878 = .ok (.aload_n 0, 1) := by decide +kernel
set_option maxRecDepth 20000 in
theorem w170_878 {d : Nat} {st : List Value} {Q : Option Value × jW → Prop} {w : jW} {a1 a2 a3 : Option Value} {x : Nat} : Wp d 170 878 [some (.ref x), a1, a2, a3] (st) w Q = Wp d 170 879 [some (.ref x), a1, a2, a3] (.ref x :: st) w Q := Wp.loc e170_878 rfl rfl rfl
theorem e170_879 : decode (j_co 170) 879 = .ok (.iload_n 3, 1) := by decide +kernel
set_option maxRecDepth 20000 in
theorem w170_879 {d : Nat} {st : List Value} {Q : Option Value × jW → Prop} {w : jW} {a0 a1 a2 : Option Value} {x : Int32} : Wp d 170 879 [a0, a1, a2, some (.int x)] (st) w Q = Wp d 170 880 [a0, a1, a2, some (.int x)] (.int x :: st) w Q := Wp.loc e170_879 rfl rfl rfl
theorem e170_880 : decode (j_co 170) 880 = .ok (.iconst 2, 1) := by decide +kernel
set_option maxRecDepth 20000 in
theorem w170_880 {d : Nat} {st : List Value} {Q : Option Value × jW → Prop} {ls : jL} {w : jW} : Wp d 170 880 ls (st) w Q = Wp d 170 881 ls (.int (nI 2) :: st) w Q := Wp.alu e170_880 rfl rfl
theorem e170_881 : decode (j_co 170) 881 = .ok (.iadd, 1) := by decide +kernel
set_option maxRecDepth 20000 in
theorem w170_881 {d : Nat} {st : List Value} {Q : Option Value × jW → Prop} {ls : jL} {w : jW} {a b : Int32} : Wp d 170 881 ls (.int b :: .int a :: st) w Q = Wp d 170 882 ls (.int (a + b) :: st) w Q := Wp.alu e170_881 rfl rfl
theorem e170_882 : decode (j_co 170) 882 = .ok (.iaload, 1) := by decide +kernel
theorem w170_882 {d k : Nat} {ls : jL} {st : List Value} {I : fI} {L : fL} {Q : Option Value × jW → Prop} {g : List Int32} (hk : k < g.length) (h31 : k < 2147483648) : Wp d 170 882 ls (.int (nI k) :: .ref 0 :: st) (f_W (g.map Value.int) I L) Q = Wp d 170 883 ls (.int (g.getD k 0) :: st) (f_W (g.map Value.int) I L) Q := Wp.iald0 e170_882 hk h31
theorem e170_883 : decode (j_co 170) 883 = .ok (.aload_n 0, 1) := by decide +kernel
set_option maxRecDepth 20000 in
theorem w170_883 {d : Nat} {st : List Value} {Q : Option Value × jW → Prop} {w : jW} {a1 a2 a3 : Option Value} {x : Nat} : Wp d 170 883 [some (.ref x), a1, a2, a3] (st) w Q = Wp d 170 884 [some (.ref x), a1, a2, a3] (.ref x :: st) w Q := Wp.loc e170_883 rfl rfl rfl
theorem e170_884 : decode (j_co 170) 884 = .ok (.iload_n 3, 1) := by decide +kernel
set_option maxRecDepth 20000 in
theorem w170_884 {d : Nat} {st : List Value} {Q : Option Value × jW → Prop} {w : jW} {a0 a1 a2 : Option Value} {x : Int32} : Wp d 170 884 [a0, a1, a2, some (.int x)] (st) w Q = Wp d 170 885 [a0, a1, a2, some (.int x)] (.int x :: st) w Q := Wp.loc e170_884 rfl rfl rfl
theorem e170_885 : decode (j_co 170) 885 = .ok (.iconst 3, 1) := by decide +kernel
set_option maxRecDepth 20000 in
theorem w170_885 {d : Nat} {st : List Value} {Q : Option Value × jW → Prop} {ls : jL} {w : jW} : Wp d 170 885 ls (st) w Q = Wp d 170 886 ls (.int (nI 3) :: st) w Q := Wp.alu e170_885 rfl rfl
theorem e170_886 : decode (j_co 170) 886 = .ok (.iadd, 1) := by decide +kernel
set_option maxRecDepth 20000 in
theorem w170_886 {d : Nat} {st : List Value} {Q : Option Value × jW → Prop} {ls : jL} {w : jW} {a b : Int32} : Wp d 170 886 ls (.int b :: .int a :: st) w Q = Wp d 170 887 ls (.int (a + b) :: st) w Q := Wp.alu e170_886 rfl rfl
theorem e170_887 : decode (j_co 170) 887 = .ok (.iaload, 1) := by decide +kernel
theorem w170_887 {d k : Nat} {ls : jL} {st : List Value} {I : fI} {L : fL} {Q : Option Value × jW → Prop} {g : List Int32} (hk : k < g.length) (h31 : k < 2147483648) : Wp d 170 887 ls (.int (nI k) :: .ref 0 :: st) (f_W (g.map Value.int) I L) Q = Wp d 170 888 ls (.int (g.getD k 0) :: st) (f_W (g.map Value.int) I L) Q := Wp.iald0 e170_887 hk h31
theorem e170_888 : decode (j_co 170) 888 = .ok (.invokevirtual 99, 3) := by decide +kernel
set_option maxRecDepth 20000 in
theorem w170_888 {d : Nat} {st : List Value} {Q : Option Value × jW → Prop} {ls : jL} {xs : List Value} {I : fI} {L : fL} {r : Nat} {x0 : Int32} {x1 : Int32} {x2 : Int32} (hs : j_sumc st ≤ 8) (ht : f_tg r = 10) : Wp (d + 1) 170 888 ls (.int x2 :: .int x1 :: .int x0 :: .ref r :: st) (f_W xs I L) Q = Wp d 86 0 [some (.ref r), some (.int x0), some (.int x1), some (.int x2)] [] (f_W xs I L) (fun r1 => Wp (d + 1) 170 891 ls (r1.1.toList ++ st) r1.2 Q) := Wp.cv (y' := 86) (as := [.int x0, .int x1, .int x2]) e170_888 rfl (by decide) rfl (show 4 ≤ 4 by decide) (by decide) hs ht
theorem e170_891 : decode (j_co 170) 891 = .ok (.aload_n 2, 1) := by decide +kernel
set_option maxRecDepth 20000 in
theorem w170_891 {d : Nat} {st : List Value} {Q : Option Value × jW → Prop} {w : jW} {a0 a1 a3 : Option Value} {x : Nat} : Wp d 170 891 [a0, a1, some (.ref x), a3] (st) w Q = Wp d 170 892 [a0, a1, some (.ref x), a3] (.ref x :: st) w Q := Wp.loc e170_891 rfl rfl rfl
theorem e170_892 : decode (j_co 170) 892 = .ok (.aload_n 0, 1) := by decide +kernel
set_option maxRecDepth 20000 in
theorem w170_892 {d : Nat} {st : List Value} {Q : Option Value × jW → Prop} {w : jW} {a1 a2 a3 : Option Value} {x : Nat} : Wp d 170 892 [some (.ref x), a1, a2, a3] (st) w Q = Wp d 170 893 [some (.ref x), a1, a2, a3] (.ref x :: st) w Q := Wp.loc e170_892 rfl rfl rfl
theorem e170_893 : decode (j_co 170) 893 = .ok (.iload_n 3, 1) := by decide +kernel
set_option maxRecDepth 20000 in
theorem w170_893 {d : Nat} {st : List Value} {Q : Option Value × jW → Prop} {w : jW} {a0 a1 a2 : Option Value} {x : Int32} : Wp d 170 893 [a0, a1, a2, some (.int x)] (st) w Q = Wp d 170 894 [a0, a1, a2, some (.int x)] (.int x :: st) w Q := Wp.loc e170_893 rfl rfl rfl
theorem e170_894 : decode (j_co 170) 894 = .ok (.iconst 1, 1) := by decide +kernel
set_option maxRecDepth 20000 in
theorem w170_894 {d : Nat} {st : List Value} {Q : Option Value × jW → Prop} {ls : jL} {w : jW} : Wp d 170 894 ls (st) w Q = Wp d 170 895 ls (.int (nI 1) :: st) w Q := Wp.alu e170_894 rfl rfl
theorem e170_895 : decode (j_co 170) 895 = .ok (.iadd, 1) := by decide +kernel
set_option maxRecDepth 20000 in
theorem w170_895 {d : Nat} {st : List Value} {Q : Option Value × jW → Prop} {ls : jL} {w : jW} {a b : Int32} : Wp d 170 895 ls (.int b :: .int a :: st) w Q = Wp d 170 896 ls (.int (a + b) :: st) w Q := Wp.alu e170_895 rfl rfl
theorem e170_896 : decode (j_co 170) 896 = .ok (.iaload, 1) := by decide +kernel
theorem w170_896 {d k : Nat} {ls : jL} {st : List Value} {I : fI} {L : fL} {Q : Option Value × jW → Prop} {g : List Int32} (hk : k < g.length) (h31 : k < 2147483648) : Wp d 170 896 ls (.int (nI k) :: .ref 0 :: st) (f_W (g.map Value.int) I L) Q = Wp d 170 897 ls (.int (g.getD k 0) :: st) (f_W (g.map Value.int) I L) Q := Wp.iald0 e170_896 hk h31
theorem e170_897 : decode (j_co 170) 897 = .ok (.aload_n 0, 1) := by decide +kernel
set_option maxRecDepth 20000 in
theorem w170_897 {d : Nat} {st : List Value} {Q : Option Value × jW → Prop} {w : jW} {a1 a2 a3 : Option Value} {x : Nat} : Wp d 170 897 [some (.ref x), a1, a2, a3] (st) w Q = Wp d 170 898 [some (.ref x), a1, a2, a3] (.ref x :: st) w Q := Wp.loc e170_897 rfl rfl rfl
theorem e170_898 : decode (j_co 170) 898 = .ok (.iload_n 3, 1) := by decide +kernel
set_option maxRecDepth 20000 in
theorem w170_898 {d : Nat} {st : List Value} {Q : Option Value × jW → Prop} {w : jW} {a0 a1 a2 : Option Value} {x : Int32} : Wp d 170 898 [a0, a1, a2, some (.int x)] (st) w Q = Wp d 170 899 [a0, a1, a2, some (.int x)] (.int x :: st) w Q := Wp.loc e170_898 rfl rfl rfl
theorem e170_899 : decode (j_co 170) 899 = .ok (.iconst 2, 1) := by decide +kernel
set_option maxRecDepth 20000 in
theorem w170_899 {d : Nat} {st : List Value} {Q : Option Value × jW → Prop} {ls : jL} {w : jW} : Wp d 170 899 ls (st) w Q = Wp d 170 900 ls (.int (nI 2) :: st) w Q := Wp.alu e170_899 rfl rfl
theorem e170_900 : decode (j_co 170) 900 = .ok (.iadd, 1) := by decide +kernel
set_option maxRecDepth 20000 in
theorem w170_900 {d : Nat} {st : List Value} {Q : Option Value × jW → Prop} {ls : jL} {w : jW} {a b : Int32} : Wp d 170 900 ls (.int b :: .int a :: st) w Q = Wp d 170 901 ls (.int (a + b) :: st) w Q := Wp.alu e170_900 rfl rfl
theorem e170_901 : decode (j_co 170) 901 = .ok (.iaload, 1) := by decide +kernel
theorem w170_901 {d k : Nat} {ls : jL} {st : List Value} {I : fI} {L : fL} {Q : Option Value × jW → Prop} {g : List Int32} (hk : k < g.length) (h31 : k < 2147483648) : Wp d 170 901 ls (.int (nI k) :: .ref 0 :: st) (f_W (g.map Value.int) I L) Q = Wp d 170 902 ls (.int (g.getD k 0) :: st) (f_W (g.map Value.int) I L) Q := Wp.iald0 e170_901 hk h31
theorem e170_902 : decode (j_co 170) 902 = .ok (.aload_n 0, 1) := by decide +kernel
set_option maxRecDepth 20000 in
theorem w170_902 {d : Nat} {st : List Value} {Q : Option Value × jW → Prop} {w : jW} {a1 a2 a3 : Option Value} {x : Nat} : Wp d 170 902 [some (.ref x), a1, a2, a3] (st) w Q = Wp d 170 903 [some (.ref x), a1, a2, a3] (.ref x :: st) w Q := Wp.loc e170_902 rfl rfl rfl
theorem e170_903 : decode (j_co 170) 903 = .ok (.iload_n 3, 1) := by decide +kernel
set_option maxRecDepth 20000 in
theorem w170_903 {d : Nat} {st : List Value} {Q : Option Value × jW → Prop} {w : jW} {a0 a1 a2 : Option Value} {x : Int32} : Wp d 170 903 [a0, a1, a2, some (.int x)] (st) w Q = Wp d 170 904 [a0, a1, a2, some (.int x)] (.int x :: st) w Q := Wp.loc e170_903 rfl rfl rfl
theorem e170_904 : decode (j_co 170) 904 = .ok (.iconst 3, 1) := by decide +kernel
set_option maxRecDepth 20000 in
theorem w170_904 {d : Nat} {st : List Value} {Q : Option Value × jW → Prop} {ls : jL} {w : jW} : Wp d 170 904 ls (st) w Q = Wp d 170 905 ls (.int (nI 3) :: st) w Q := Wp.alu e170_904 rfl rfl
theorem e170_905 : decode (j_co 170) 905 = .ok (.iadd, 1) := by decide +kernel
set_option maxRecDepth 20000 in
theorem w170_905 {d : Nat} {st : List Value} {Q : Option Value × jW → Prop} {ls : jL} {w : jW} {a b : Int32} : Wp d 170 905 ls (.int b :: .int a :: st) w Q = Wp d 170 906 ls (.int (a + b) :: st) w Q := Wp.alu e170_905 rfl rfl
theorem e170_906 : decode (j_co 170) 906 = .ok (.iaload, 1) := by decide +kernel
theorem w170_906 {d k : Nat} {ls : jL} {st : List Value} {I : fI} {L : fL} {Q : Option Value × jW → Prop} {g : List Int32} (hk : k < g.length) (h31 : k < 2147483648) : Wp d 170 906 ls (.int (nI k) :: .ref 0 :: st) (f_W (g.map Value.int) I L) Q = Wp d 170 907 ls (.int (g.getD k 0) :: st) (f_W (g.map Value.int) I L) Q := Wp.iald0 e170_906 hk h31
theorem e170_907 : decode (j_co 170) 907 = .ok (.invokevirtual 103, 3) := by decide +kernel
set_option maxRecDepth 20000 in
theorem w170_907 {d : Nat} {st : List Value} {Q : Option Value × jW → Prop} {ls : jL} {xs : List Value} {I : fI} {L : fL} {r : Nat} {x0 : Int32} {x1 : Int32} {x2 : Int32} (hs : j_sumc st ≤ 8) (ht : f_tg r = 11) : Wp (d + 1) 170 907 ls (.int x2 :: .int x1 :: .int x0 :: .ref r :: st) (f_W xs I L) Q = Wp d 160 0 [some (.ref r), some (.int x0), some (.int x1), some (.int x2), none, none] [] (f_W xs I L) (fun r1 => Wp (d + 1) 170 910 ls (r1.1.toList ++ st) r1.2 Q) := Wp.cv (y' := 160) (as := [.int x0, .int x1, .int x2]) e170_907 rfl (by decide) rfl (show 4 ≤ 6 by decide) (by decide) hs ht
theorem e170_910 : decode (j_co 170) 910 = .ok (.if_icmp .eq 296, 3) := by decide +kernel
set_option maxRecDepth 20000 in
theorem w170_910 {d : Nat} {st : List Value} {Q : Option Value × jW → Prop} {ls : jL} {w : jW} {a b : Int32} : Wp d 170 910 ls (.int b :: .int a :: st) w Q = ((a = b → Wp d 170 1206 ls st w Q) ∧ (¬ a = b → Wp d 170 913 ls st w Q)) := Wp.if2 (c := a = b) (off := 296) e170_910 rfl rfl rfl rfl rfl
theorem e170_913 : decode (j_co 170) 913 = .ok (.iconst 0, 1) := by decide +kernel
set_option maxRecDepth 20000 in
theorem w170_913 {d : Nat} {st : List Value} {Q : Option Value × jW → Prop} {ls : jL} {w : jW} : Wp d 170 913 ls (st) w Q = Wp d 170 914 ls (.int (nI 0) :: st) w Q := Wp.alu e170_913 rfl rfl
theorem e170_914 : decode (j_co 170) 914 = .ok (.ireturn, 1) := by decide +kernel
set_option maxRecDepth 20000 in
theorem w170_914 {d : Nat} {Q : Option Value × jW → Prop} {ls : jL} {w : jW} {x : Int32} (hx : x = 0 ∨ x = 1) : Wp d 170 914 ls [.int x] w Q = Q (some (.int x), w) := Wp.ret e170_914 (by rcases hx with rfl | rfl <;> rfl)
theorem e170_915 : decode (j_co 170) 915 = .ok (.aload_n 1, 1) := by decide +kernel
set_option maxRecDepth 20000 in
theorem w170_915 {d : Nat} {st : List Value} {Q : Option Value × jW → Prop} {w : jW} {a0 a2 a3 : Option Value} {x : Nat} : Wp d 170 915 [a0, some (.ref x), a2, a3] (st) w Q = Wp d 170 916 [a0, some (.ref x), a2, a3] (.ref x :: st) w Q := Wp.loc e170_915 rfl rfl rfl
theorem e170_916 : decode (j_co 170) 916 = .ok (.aload_n 0, 1) := by decide +kernel
set_option maxRecDepth 20000 in
theorem w170_916 {d : Nat} {st : List Value} {Q : Option Value × jW → Prop} {w : jW} {a1 a2 a3 : Option Value} {x : Nat} : Wp d 170 916 [some (.ref x), a1, a2, a3] (st) w Q = Wp d 170 917 [some (.ref x), a1, a2, a3] (.ref x :: st) w Q := Wp.loc e170_916 rfl rfl rfl
theorem e170_917 : decode (j_co 170) 917 = .ok (.iload_n 3, 1) := by decide +kernel
set_option maxRecDepth 20000 in
theorem w170_917 {d : Nat} {st : List Value} {Q : Option Value × jW → Prop} {w : jW} {a0 a1 a2 : Option Value} {x : Int32} : Wp d 170 917 [a0, a1, a2, some (.int x)] (st) w Q = Wp d 170 918 [a0, a1, a2, some (.int x)] (.int x :: st) w Q := Wp.loc e170_917 rfl rfl rfl
theorem e170_918 : decode (j_co 170) 918 = .ok (.iconst 1, 1) := by decide +kernel
set_option maxRecDepth 20000 in
theorem w170_918 {d : Nat} {st : List Value} {Q : Option Value × jW → Prop} {ls : jL} {w : jW} : Wp d 170 918 ls (st) w Q = Wp d 170 919 ls (.int (nI 1) :: st) w Q := Wp.alu e170_918 rfl rfl
theorem e170_919 : decode (j_co 170) 919 = .ok (.iadd, 1) := by decide +kernel
set_option maxRecDepth 20000 in
theorem w170_919 {d : Nat} {st : List Value} {Q : Option Value × jW → Prop} {ls : jL} {w : jW} {a b : Int32} : Wp d 170 919 ls (.int b :: .int a :: st) w Q = Wp d 170 920 ls (.int (a + b) :: st) w Q := Wp.alu e170_919 rfl rfl
theorem e170_920 : decode (j_co 170) 920 = .ok (.iaload, 1) := by decide +kernel
theorem w170_920 {d k : Nat} {ls : jL} {st : List Value} {I : fI} {L : fL} {Q : Option Value × jW → Prop} {g : List Int32} (hk : k < g.length) (h31 : k < 2147483648) : Wp d 170 920 ls (.int (nI k) :: .ref 0 :: st) (f_W (g.map Value.int) I L) Q = Wp d 170 921 ls (.int (g.getD k 0) :: st) (f_W (g.map Value.int) I L) Q := Wp.iald0 e170_920 hk h31
theorem e170_921 : decode (j_co 170) 921 = .ok (.aload_n 0, 1) := by decide +kernel
set_option maxRecDepth 20000 in
theorem w170_921 {d : Nat} {st : List Value} {Q : Option Value × jW → Prop} {w : jW} {a1 a2 a3 : Option Value} {x : Nat} : Wp d 170 921 [some (.ref x), a1, a2, a3] (st) w Q = Wp d 170 922 [some (.ref x), a1, a2, a3] (.ref x :: st) w Q := Wp.loc e170_921 rfl rfl rfl
theorem e170_922 : decode (j_co 170) 922 = .ok (.iload_n 3, 1) := by decide +kernel
set_option maxRecDepth 20000 in
theorem w170_922 {d : Nat} {st : List Value} {Q : Option Value × jW → Prop} {w : jW} {a0 a1 a2 : Option Value} {x : Int32} : Wp d 170 922 [a0, a1, a2, some (.int x)] (st) w Q = Wp d 170 923 [a0, a1, a2, some (.int x)] (.int x :: st) w Q := Wp.loc e170_922 rfl rfl rfl
theorem e170_923 : decode (j_co 170) 923 = .ok (.iconst 2, 1) := by decide +kernel
set_option maxRecDepth 20000 in
theorem w170_923 {d : Nat} {st : List Value} {Q : Option Value × jW → Prop} {ls : jL} {w : jW} : Wp d 170 923 ls (st) w Q = Wp d 170 924 ls (.int (nI 2) :: st) w Q := Wp.alu e170_923 rfl rfl
theorem e170_924 : decode (j_co 170) 924 = .ok (.iadd, 1) := by decide +kernel
set_option maxRecDepth 20000 in
theorem w170_924 {d : Nat} {st : List Value} {Q : Option Value × jW → Prop} {ls : jL} {w : jW} {a b : Int32} : Wp d 170 924 ls (.int b :: .int a :: st) w Q = Wp d 170 925 ls (.int (a + b) :: st) w Q := Wp.alu e170_924 rfl rfl
theorem e170_925 : decode (j_co 170) 925 = .ok (.iaload, 1) := by decide +kernel
theorem w170_925 {d k : Nat} {ls : jL} {st : List Value} {I : fI} {L : fL} {Q : Option Value × jW → Prop} {g : List Int32} (hk : k < g.length) (h31 : k < 2147483648) : Wp d 170 925 ls (.int (nI k) :: .ref 0 :: st) (f_W (g.map Value.int) I L) Q = Wp d 170 926 ls (.int (g.getD k 0) :: st) (f_W (g.map Value.int) I L) Q := Wp.iald0 e170_925 hk h31
theorem e170_926 : decode (j_co 170) 926 = .ok (.aload_n 0, 1) := by decide +kernel
set_option maxRecDepth 20000 in
theorem w170_926 {d : Nat} {st : List Value} {Q : Option Value × jW → Prop} {w : jW} {a1 a2 a3 : Option Value} {x : Nat} : Wp d 170 926 [some (.ref x), a1, a2, a3] (st) w Q = Wp d 170 927 [some (.ref x), a1, a2, a3] (.ref x :: st) w Q := Wp.loc e170_926 rfl rfl rfl
theorem e170_927 : decode (j_co 170) 927 = .ok (.iload_n 3, 1) := by decide +kernel
set_option maxRecDepth 20000 in
theorem w170_927 {d : Nat} {st : List Value} {Q : Option Value × jW → Prop} {w : jW} {a0 a1 a2 : Option Value} {x : Int32} : Wp d 170 927 [a0, a1, a2, some (.int x)] (st) w Q = Wp d 170 928 [a0, a1, a2, some (.int x)] (.int x :: st) w Q := Wp.loc e170_927 rfl rfl rfl
theorem e170_928 : decode (j_co 170) 928 = .ok (.iconst 3, 1) := by decide +kernel
set_option maxRecDepth 20000 in
theorem w170_928 {d : Nat} {st : List Value} {Q : Option Value × jW → Prop} {ls : jL} {w : jW} : Wp d 170 928 ls (st) w Q = Wp d 170 929 ls (.int (nI 3) :: st) w Q := Wp.alu e170_928 rfl rfl
theorem e170_929 : decode (j_co 170) 929 = .ok (.iadd, 1) := by decide +kernel
set_option maxRecDepth 20000 in
theorem w170_929 {d : Nat} {st : List Value} {Q : Option Value × jW → Prop} {ls : jL} {w : jW} {a b : Int32} : Wp d 170 929 ls (.int b :: .int a :: st) w Q = Wp d 170 930 ls (.int (a + b) :: st) w Q := Wp.alu e170_929 rfl rfl
theorem e170_930 : decode (j_co 170) 930 = .ok (.iaload, 1) := by decide +kernel
theorem w170_930 {d k : Nat} {ls : jL} {st : List Value} {I : fI} {L : fL} {Q : Option Value × jW → Prop} {g : List Int32} (hk : k < g.length) (h31 : k < 2147483648) : Wp d 170 930 ls (.int (nI k) :: .ref 0 :: st) (f_W (g.map Value.int) I L) Q = Wp d 170 931 ls (.int (g.getD k 0) :: st) (f_W (g.map Value.int) I L) Q := Wp.iald0 e170_930 hk h31
theorem e170_931 : decode (j_co 170) 931 = .ok (.invokevirtual 104, 3) := by decide +kernel
set_option maxRecDepth 20000 in
theorem w170_931 {d : Nat} {st : List Value} {Q : Option Value × jW → Prop} {ls : jL} {xs : List Value} {I : fI} {L : fL} {r : Nat} {x0 : Int32} {x1 : Int32} {x2 : Int32} (hs : j_sumc st ≤ 8) (ht : f_tg r = 10) : Wp (d + 1) 170 931 ls (.int x2 :: .int x1 :: .int x0 :: .ref r :: st) (f_W xs I L) Q = Wp d 89 0 [some (.ref r), some (.int x0), some (.int x1), some (.int x2)] [] (f_W xs I L) (fun r1 => Wp (d + 1) 170 934 ls (r1.1.toList ++ st) r1.2 Q) := Wp.cv (y' := 89) (as := [.int x0, .int x1, .int x2]) e170_931 rfl (by decide) rfl (show 4 ≤ 4 by decide) (by decide) hs ht
theorem e170_934 : decode (j_co 170) 934 = .ok (.aload_n 2, 1) := by decide +kernel
set_option maxRecDepth 20000 in
theorem w170_934 {d : Nat} {st : List Value} {Q : Option Value × jW → Prop} {w : jW} {a0 a1 a3 : Option Value} {x : Nat} : Wp d 170 934 [a0, a1, some (.ref x), a3] (st) w Q = Wp d 170 935 [a0, a1, some (.ref x), a3] (.ref x :: st) w Q := Wp.loc e170_934 rfl rfl rfl
theorem e170_935 : decode (j_co 170) 935 = .ok (.aload_n 0, 1) := by decide +kernel
set_option maxRecDepth 20000 in
theorem w170_935 {d : Nat} {st : List Value} {Q : Option Value × jW → Prop} {w : jW} {a1 a2 a3 : Option Value} {x : Nat} : Wp d 170 935 [some (.ref x), a1, a2, a3] (st) w Q = Wp d 170 936 [some (.ref x), a1, a2, a3] (.ref x :: st) w Q := Wp.loc e170_935 rfl rfl rfl
theorem e170_936 : decode (j_co 170) 936 = .ok (.iload_n 3, 1) := by decide +kernel
set_option maxRecDepth 20000 in
theorem w170_936 {d : Nat} {st : List Value} {Q : Option Value × jW → Prop} {w : jW} {a0 a1 a2 : Option Value} {x : Int32} : Wp d 170 936 [a0, a1, a2, some (.int x)] (st) w Q = Wp d 170 937 [a0, a1, a2, some (.int x)] (.int x :: st) w Q := Wp.loc e170_936 rfl rfl rfl
theorem e170_937 : decode (j_co 170) 937 = .ok (.iconst 1, 1) := by decide +kernel
set_option maxRecDepth 20000 in
theorem w170_937 {d : Nat} {st : List Value} {Q : Option Value × jW → Prop} {ls : jL} {w : jW} : Wp d 170 937 ls (st) w Q = Wp d 170 938 ls (.int (nI 1) :: st) w Q := Wp.alu e170_937 rfl rfl
theorem e170_938 : decode (j_co 170) 938 = .ok (.iadd, 1) := by decide +kernel
set_option maxRecDepth 20000 in
theorem w170_938 {d : Nat} {st : List Value} {Q : Option Value × jW → Prop} {ls : jL} {w : jW} {a b : Int32} : Wp d 170 938 ls (.int b :: .int a :: st) w Q = Wp d 170 939 ls (.int (a + b) :: st) w Q := Wp.alu e170_938 rfl rfl
theorem e170_939 : decode (j_co 170) 939 = .ok (.iaload, 1) := by decide +kernel
theorem w170_939 {d k : Nat} {ls : jL} {st : List Value} {I : fI} {L : fL} {Q : Option Value × jW → Prop} {g : List Int32} (hk : k < g.length) (h31 : k < 2147483648) : Wp d 170 939 ls (.int (nI k) :: .ref 0 :: st) (f_W (g.map Value.int) I L) Q = Wp d 170 940 ls (.int (g.getD k 0) :: st) (f_W (g.map Value.int) I L) Q := Wp.iald0 e170_939 hk h31
theorem e170_940 : decode (j_co 170) 940 = .ok (.aload_n 0, 1) := by decide +kernel
set_option maxRecDepth 20000 in
theorem w170_940 {d : Nat} {st : List Value} {Q : Option Value × jW → Prop} {w : jW} {a1 a2 a3 : Option Value} {x : Nat} : Wp d 170 940 [some (.ref x), a1, a2, a3] (st) w Q = Wp d 170 941 [some (.ref x), a1, a2, a3] (.ref x :: st) w Q := Wp.loc e170_940 rfl rfl rfl
theorem e170_941 : decode (j_co 170) 941 = .ok (.iload_n 3, 1) := by decide +kernel
set_option maxRecDepth 20000 in
theorem w170_941 {d : Nat} {st : List Value} {Q : Option Value × jW → Prop} {w : jW} {a0 a1 a2 : Option Value} {x : Int32} : Wp d 170 941 [a0, a1, a2, some (.int x)] (st) w Q = Wp d 170 942 [a0, a1, a2, some (.int x)] (.int x :: st) w Q := Wp.loc e170_941 rfl rfl rfl
theorem e170_942 : decode (j_co 170) 942 = .ok (.iconst 2, 1) := by decide +kernel
set_option maxRecDepth 20000 in
theorem w170_942 {d : Nat} {st : List Value} {Q : Option Value × jW → Prop} {ls : jL} {w : jW} : Wp d 170 942 ls (st) w Q = Wp d 170 943 ls (.int (nI 2) :: st) w Q := Wp.alu e170_942 rfl rfl
theorem e170_943 : decode (j_co 170) 943 = .ok (.iadd, 1) := by decide +kernel
set_option maxRecDepth 20000 in
theorem w170_943 {d : Nat} {st : List Value} {Q : Option Value × jW → Prop} {ls : jL} {w : jW} {a b : Int32} : Wp d 170 943 ls (.int b :: .int a :: st) w Q = Wp d 170 944 ls (.int (a + b) :: st) w Q := Wp.alu e170_943 rfl rfl
theorem e170_944 : decode (j_co 170) 944 = .ok (.iaload, 1) := by decide +kernel
theorem w170_944 {d k : Nat} {ls : jL} {st : List Value} {I : fI} {L : fL} {Q : Option Value × jW → Prop} {g : List Int32} (hk : k < g.length) (h31 : k < 2147483648) : Wp d 170 944 ls (.int (nI k) :: .ref 0 :: st) (f_W (g.map Value.int) I L) Q = Wp d 170 945 ls (.int (g.getD k 0) :: st) (f_W (g.map Value.int) I L) Q := Wp.iald0 e170_944 hk h31
theorem e170_945 : decode (j_co 170) 945 = .ok (.aload_n 0, 1) := by decide +kernel
set_option maxRecDepth 20000 in
theorem w170_945 {d : Nat} {st : List Value} {Q : Option Value × jW → Prop} {w : jW} {a1 a2 a3 : Option Value} {x : Nat} : Wp d 170 945 [some (.ref x), a1, a2, a3] (st) w Q = Wp d 170 946 [some (.ref x), a1, a2, a3] (.ref x :: st) w Q := Wp.loc e170_945 rfl rfl rfl
theorem e170_946 : decode (j_co 170) 946 = .ok (.iload_n 3, 1) := by decide +kernel
set_option maxRecDepth 20000 in
theorem w170_946 {d : Nat} {st : List Value} {Q : Option Value × jW → Prop} {w : jW} {a0 a1 a2 : Option Value} {x : Int32} : Wp d 170 946 [a0, a1, a2, some (.int x)] (st) w Q = Wp d 170 947 [a0, a1, a2, some (.int x)] (.int x :: st) w Q := Wp.loc e170_946 rfl rfl rfl
theorem e170_947 : decode (j_co 170) 947 = .ok (.iconst 3, 1) := by decide +kernel
set_option maxRecDepth 20000 in
theorem w170_947 {d : Nat} {st : List Value} {Q : Option Value × jW → Prop} {ls : jL} {w : jW} : Wp d 170 947 ls (st) w Q = Wp d 170 948 ls (.int (nI 3) :: st) w Q := Wp.alu e170_947 rfl rfl
theorem e170_948 : decode (j_co 170) 948 = .ok (.iadd, 1) := by decide +kernel
set_option maxRecDepth 20000 in
theorem w170_948 {d : Nat} {st : List Value} {Q : Option Value × jW → Prop} {ls : jL} {w : jW} {a b : Int32} : Wp d 170 948 ls (.int b :: .int a :: st) w Q = Wp d 170 949 ls (.int (a + b) :: st) w Q := Wp.alu e170_948 rfl rfl
theorem e170_949 : decode (j_co 170) 949 = .ok (.iaload, 1) := by decide +kernel
theorem w170_949 {d k : Nat} {ls : jL} {st : List Value} {I : fI} {L : fL} {Q : Option Value × jW → Prop} {g : List Int32} (hk : k < g.length) (h31 : k < 2147483648) : Wp d 170 949 ls (.int (nI k) :: .ref 0 :: st) (f_W (g.map Value.int) I L) Q = Wp d 170 950 ls (.int (g.getD k 0) :: st) (f_W (g.map Value.int) I L) Q := Wp.iald0 e170_949 hk h31
theorem e170_950 : decode (j_co 170) 950 = .ok (.invokevirtual 107, 3) := by decide +kernel
set_option maxRecDepth 20000 in
theorem w170_950 {d : Nat} {st : List Value} {Q : Option Value × jW → Prop} {ls : jL} {xs : List Value} {I : fI} {L : fL} {r : Nat} {x0 : Int32} {x1 : Int32} {x2 : Int32} (hs : j_sumc st ≤ 8) (ht : f_tg r = 11) : Wp (d + 1) 170 950 ls (.int x2 :: .int x1 :: .int x0 :: .ref r :: st) (f_W xs I L) Q = Wp d 161 0 [some (.ref r), some (.int x0), some (.int x1), some (.int x2), none, none, none, none] [] (f_W xs I L) (fun r1 => Wp (d + 1) 170 953 ls (r1.1.toList ++ st) r1.2 Q) := Wp.cv (y' := 161) (as := [.int x0, .int x1, .int x2]) e170_950 rfl (by decide) rfl (show 4 ≤ 8 by decide) (by decide) hs ht
theorem e170_953 : decode (j_co 170) 953 = .ok (.if_icmp .eq 253, 3) := by decide +kernel
set_option maxRecDepth 20000 in
theorem w170_953 {d : Nat} {st : List Value} {Q : Option Value × jW → Prop} {ls : jL} {w : jW} {a b : Int32} : Wp d 170 953 ls (.int b :: .int a :: st) w Q = ((a = b → Wp d 170 1206 ls st w Q) ∧ (¬ a = b → Wp d 170 956 ls st w Q)) := Wp.if2 (c := a = b) (off := 253) e170_953 rfl rfl rfl rfl rfl
theorem e170_956 : decode (j_co 170) 956 = .ok (.iconst 0, 1) := by decide +kernel
set_option maxRecDepth 20000 in
theorem w170_956 {d : Nat} {st : List Value} {Q : Option Value × jW → Prop} {ls : jL} {w : jW} : Wp d 170 956 ls (st) w Q = Wp d 170 957 ls (.int (nI 0) :: st) w Q := Wp.alu e170_956 rfl rfl
theorem e170_957 : decode (j_co 170) 957 = .ok (.ireturn, 1) := by decide +kernel
set_option maxRecDepth 20000 in
theorem w170_957 {d : Nat} {Q : Option Value × jW → Prop} {ls : jL} {w : jW} {x : Int32} (hx : x = 0 ∨ x = 1) : Wp d 170 957 ls [.int x] w Q = Q (some (.int x), w) := Wp.ret e170_957 (by rcases hx with rfl | rfl <;> rfl)
theorem e170_958 : decode (j_co 170) 958 = .ok (.aload_n 1, 1) := by decide +kernel
set_option maxRecDepth 20000 in
theorem w170_958 {d : Nat} {st : List Value} {Q : Option Value × jW → Prop} {w : jW} {a0 a2 a3 : Option Value} {x : Nat} : Wp d 170 958 [a0, some (.ref x), a2, a3] (st) w Q = Wp d 170 959 [a0, some (.ref x), a2, a3] (.ref x :: st) w Q := Wp.loc e170_958 rfl rfl rfl
theorem e170_959 : decode (j_co 170) 959 = .ok (.aload_n 0, 1) := by decide +kernel
set_option maxRecDepth 20000 in
theorem w170_959 {d : Nat} {st : List Value} {Q : Option Value × jW → Prop} {w : jW} {a1 a2 a3 : Option Value} {x : Nat} : Wp d 170 959 [some (.ref x), a1, a2, a3] (st) w Q = Wp d 170 960 [some (.ref x), a1, a2, a3] (.ref x :: st) w Q := Wp.loc e170_959 rfl rfl rfl
theorem e170_960 : decode (j_co 170) 960 = .ok (.iload_n 3, 1) := by decide +kernel
set_option maxRecDepth 20000 in
theorem w170_960 {d : Nat} {st : List Value} {Q : Option Value × jW → Prop} {w : jW} {a0 a1 a2 : Option Value} {x : Int32} : Wp d 170 960 [a0, a1, a2, some (.int x)] (st) w Q = Wp d 170 961 [a0, a1, a2, some (.int x)] (.int x :: st) w Q := Wp.loc e170_960 rfl rfl rfl
theorem e170_961 : decode (j_co 170) 961 = .ok (.iconst 1, 1) := by decide +kernel
set_option maxRecDepth 20000 in
theorem w170_961 {d : Nat} {st : List Value} {Q : Option Value × jW → Prop} {ls : jL} {w : jW} : Wp d 170 961 ls (st) w Q = Wp d 170 962 ls (.int (nI 1) :: st) w Q := Wp.alu e170_961 rfl rfl
theorem e170_962 : decode (j_co 170) 962 = .ok (.iadd, 1) := by decide +kernel
set_option maxRecDepth 20000 in
theorem w170_962 {d : Nat} {st : List Value} {Q : Option Value × jW → Prop} {ls : jL} {w : jW} {a b : Int32} : Wp d 170 962 ls (.int b :: .int a :: st) w Q = Wp d 170 963 ls (.int (a + b) :: st) w Q := Wp.alu e170_962 rfl rfl
theorem e170_963 : decode (j_co 170) 963 = .ok (.iaload, 1) := by decide +kernel
theorem w170_963 {d k : Nat} {ls : jL} {st : List Value} {I : fI} {L : fL} {Q : Option Value × jW → Prop} {g : List Int32} (hk : k < g.length) (h31 : k < 2147483648) : Wp d 170 963 ls (.int (nI k) :: .ref 0 :: st) (f_W (g.map Value.int) I L) Q = Wp d 170 964 ls (.int (g.getD k 0) :: st) (f_W (g.map Value.int) I L) Q := Wp.iald0 e170_963 hk h31
theorem e170_964 : decode (j_co 170) 964 = .ok (.aload_n 0, 1) := by decide +kernel
set_option maxRecDepth 20000 in
theorem w170_964 {d : Nat} {st : List Value} {Q : Option Value × jW → Prop} {w : jW} {a1 a2 a3 : Option Value} {x : Nat} : Wp d 170 964 [some (.ref x), a1, a2, a3] (st) w Q = Wp d 170 965 [some (.ref x), a1, a2, a3] (.ref x :: st) w Q := Wp.loc e170_964 rfl rfl rfl
theorem e170_965 : decode (j_co 170) 965 = .ok (.iload_n 3, 1) := by decide +kernel
set_option maxRecDepth 20000 in
theorem w170_965 {d : Nat} {st : List Value} {Q : Option Value × jW → Prop} {w : jW} {a0 a1 a2 : Option Value} {x : Int32} : Wp d 170 965 [a0, a1, a2, some (.int x)] (st) w Q = Wp d 170 966 [a0, a1, a2, some (.int x)] (.int x :: st) w Q := Wp.loc e170_965 rfl rfl rfl
theorem e170_966 : decode (j_co 170) 966 = .ok (.iconst 2, 1) := by decide +kernel
set_option maxRecDepth 20000 in
theorem w170_966 {d : Nat} {st : List Value} {Q : Option Value × jW → Prop} {ls : jL} {w : jW} : Wp d 170 966 ls (st) w Q = Wp d 170 967 ls (.int (nI 2) :: st) w Q := Wp.alu e170_966 rfl rfl
theorem e170_967 : decode (j_co 170) 967 = .ok (.iadd, 1) := by decide +kernel
set_option maxRecDepth 20000 in
theorem w170_967 {d : Nat} {st : List Value} {Q : Option Value × jW → Prop} {ls : jL} {w : jW} {a b : Int32} : Wp d 170 967 ls (.int b :: .int a :: st) w Q = Wp d 170 968 ls (.int (a + b) :: st) w Q := Wp.alu e170_967 rfl rfl
theorem e170_968 : decode (j_co 170) 968 = .ok (.iaload, 1) := by decide +kernel
theorem w170_968 {d k : Nat} {ls : jL} {st : List Value} {I : fI} {L : fL} {Q : Option Value × jW → Prop} {g : List Int32} (hk : k < g.length) (h31 : k < 2147483648) : Wp d 170 968 ls (.int (nI k) :: .ref 0 :: st) (f_W (g.map Value.int) I L) Q = Wp d 170 969 ls (.int (g.getD k 0) :: st) (f_W (g.map Value.int) I L) Q := Wp.iald0 e170_968 hk h31
theorem e170_969 : decode (j_co 170) 969 = .ok (.aload_n 0, 1) := by decide +kernel
set_option maxRecDepth 20000 in
theorem w170_969 {d : Nat} {st : List Value} {Q : Option Value × jW → Prop} {w : jW} {a1 a2 a3 : Option Value} {x : Nat} : Wp d 170 969 [some (.ref x), a1, a2, a3] (st) w Q = Wp d 170 970 [some (.ref x), a1, a2, a3] (.ref x :: st) w Q := Wp.loc e170_969 rfl rfl rfl
theorem e170_970 : decode (j_co 170) 970 = .ok (.iload_n 3, 1) := by decide +kernel
set_option maxRecDepth 20000 in
theorem w170_970 {d : Nat} {st : List Value} {Q : Option Value × jW → Prop} {w : jW} {a0 a1 a2 : Option Value} {x : Int32} : Wp d 170 970 [a0, a1, a2, some (.int x)] (st) w Q = Wp d 170 971 [a0, a1, a2, some (.int x)] (.int x :: st) w Q := Wp.loc e170_970 rfl rfl rfl
theorem e170_971 : decode (j_co 170) 971 = .ok (.iconst 3, 1) := by decide +kernel
set_option maxRecDepth 20000 in
theorem w170_971 {d : Nat} {st : List Value} {Q : Option Value × jW → Prop} {ls : jL} {w : jW} : Wp d 170 971 ls (st) w Q = Wp d 170 972 ls (.int (nI 3) :: st) w Q := Wp.alu e170_971 rfl rfl
theorem e170_972 : decode (j_co 170) 972 = .ok (.iadd, 1) := by decide +kernel
set_option maxRecDepth 20000 in
theorem w170_972 {d : Nat} {st : List Value} {Q : Option Value × jW → Prop} {ls : jL} {w : jW} {a b : Int32} : Wp d 170 972 ls (.int b :: .int a :: st) w Q = Wp d 170 973 ls (.int (a + b) :: st) w Q := Wp.alu e170_972 rfl rfl
theorem e170_973 : decode (j_co 170) 973 = .ok (.iaload, 1) := by decide +kernel
theorem w170_973 {d k : Nat} {ls : jL} {st : List Value} {I : fI} {L : fL} {Q : Option Value × jW → Prop} {g : List Int32} (hk : k < g.length) (h31 : k < 2147483648) : Wp d 170 973 ls (.int (nI k) :: .ref 0 :: st) (f_W (g.map Value.int) I L) Q = Wp d 170 974 ls (.int (g.getD k 0) :: st) (f_W (g.map Value.int) I L) Q := Wp.iald0 e170_973 hk h31
theorem e170_974 : decode (j_co 170) 974 = .ok (.aload_n 0, 1) := by decide +kernel
set_option maxRecDepth 20000 in
theorem w170_974 {d : Nat} {st : List Value} {Q : Option Value × jW → Prop} {w : jW} {a1 a2 a3 : Option Value} {x : Nat} : Wp d 170 974 [some (.ref x), a1, a2, a3] (st) w Q = Wp d 170 975 [some (.ref x), a1, a2, a3] (.ref x :: st) w Q := Wp.loc e170_974 rfl rfl rfl
theorem e170_975 : decode (j_co 170) 975 = .ok (.iload_n 3, 1) := by decide +kernel
set_option maxRecDepth 20000 in
theorem w170_975 {d : Nat} {st : List Value} {Q : Option Value × jW → Prop} {w : jW} {a0 a1 a2 : Option Value} {x : Int32} : Wp d 170 975 [a0, a1, a2, some (.int x)] (st) w Q = Wp d 170 976 [a0, a1, a2, some (.int x)] (.int x :: st) w Q := Wp.loc e170_975 rfl rfl rfl
theorem e170_976 : decode (j_co 170) 976 = .ok (.iconst 4, 1) := by decide +kernel
set_option maxRecDepth 20000 in
theorem w170_976 {d : Nat} {st : List Value} {Q : Option Value × jW → Prop} {ls : jL} {w : jW} : Wp d 170 976 ls (st) w Q = Wp d 170 977 ls (.int (nI 4) :: st) w Q := Wp.alu e170_976 rfl rfl
theorem e170_977 : decode (j_co 170) 977 = .ok (.iadd, 1) := by decide +kernel
set_option maxRecDepth 20000 in
theorem w170_977 {d : Nat} {st : List Value} {Q : Option Value × jW → Prop} {ls : jL} {w : jW} {a b : Int32} : Wp d 170 977 ls (.int b :: .int a :: st) w Q = Wp d 170 978 ls (.int (a + b) :: st) w Q := Wp.alu e170_977 rfl rfl
theorem e170_978 : decode (j_co 170) 978 = .ok (.iaload, 1) := by decide +kernel
theorem w170_978 {d k : Nat} {ls : jL} {st : List Value} {I : fI} {L : fL} {Q : Option Value × jW → Prop} {g : List Int32} (hk : k < g.length) (h31 : k < 2147483648) : Wp d 170 978 ls (.int (nI k) :: .ref 0 :: st) (f_W (g.map Value.int) I L) Q = Wp d 170 979 ls (.int (g.getD k 0) :: st) (f_W (g.map Value.int) I L) Q := Wp.iald0 e170_978 hk h31
theorem e170_979 : decode (j_co 170) 979 = .ok (.invokevirtual 108, 3) := by decide +kernel
set_option maxRecDepth 20000 in
theorem w170_979 {d : Nat} {st : List Value} {Q : Option Value × jW → Prop} {ls : jL} {xs : List Value} {I : fI} {L : fL} {r : Nat} {x0 : Int32} {x1 : Int32} {x2 : Int32} {x3 : Int32} (hs : j_sumc st ≤ 8) (ht : f_tg r = 10) : Wp (d + 1) 170 979 ls (.int x3 :: .int x2 :: .int x1 :: .int x0 :: .ref r :: st) (f_W xs I L) Q = Wp d 92 0 [some (.ref r), some (.int x0), some (.int x1), some (.int x2), some (.int x3)] [] (f_W xs I L) (fun r1 => Wp (d + 1) 170 982 ls (r1.1.toList ++ st) r1.2 Q) := Wp.cv (y' := 92) (as := [.int x0, .int x1, .int x2, .int x3]) e170_979 rfl (by decide) rfl (show 5 ≤ 5 by decide) (by decide) hs ht
theorem e170_982 : decode (j_co 170) 982 = .ok (.aload_n 2, 1) := by decide +kernel
set_option maxRecDepth 20000 in
theorem w170_982 {d : Nat} {st : List Value} {Q : Option Value × jW → Prop} {w : jW} {a0 a1 a3 : Option Value} {x : Nat} : Wp d 170 982 [a0, a1, some (.ref x), a3] (st) w Q = Wp d 170 983 [a0, a1, some (.ref x), a3] (.ref x :: st) w Q := Wp.loc e170_982 rfl rfl rfl
theorem e170_983 : decode (j_co 170) 983 = .ok (.aload_n 0, 1) := by decide +kernel
set_option maxRecDepth 20000 in
theorem w170_983 {d : Nat} {st : List Value} {Q : Option Value × jW → Prop} {w : jW} {a1 a2 a3 : Option Value} {x : Nat} : Wp d 170 983 [some (.ref x), a1, a2, a3] (st) w Q = Wp d 170 984 [some (.ref x), a1, a2, a3] (.ref x :: st) w Q := Wp.loc e170_983 rfl rfl rfl
theorem e170_984 : decode (j_co 170) 984 = .ok (.iload_n 3, 1) := by decide +kernel
set_option maxRecDepth 20000 in
theorem w170_984 {d : Nat} {st : List Value} {Q : Option Value × jW → Prop} {w : jW} {a0 a1 a2 : Option Value} {x : Int32} : Wp d 170 984 [a0, a1, a2, some (.int x)] (st) w Q = Wp d 170 985 [a0, a1, a2, some (.int x)] (.int x :: st) w Q := Wp.loc e170_984 rfl rfl rfl
theorem e170_985 : decode (j_co 170) 985 = .ok (.iconst 1, 1) := by decide +kernel
set_option maxRecDepth 20000 in
theorem w170_985 {d : Nat} {st : List Value} {Q : Option Value × jW → Prop} {ls : jL} {w : jW} : Wp d 170 985 ls (st) w Q = Wp d 170 986 ls (.int (nI 1) :: st) w Q := Wp.alu e170_985 rfl rfl
theorem e170_986 : decode (j_co 170) 986 = .ok (.iadd, 1) := by decide +kernel
set_option maxRecDepth 20000 in
theorem w170_986 {d : Nat} {st : List Value} {Q : Option Value × jW → Prop} {ls : jL} {w : jW} {a b : Int32} : Wp d 170 986 ls (.int b :: .int a :: st) w Q = Wp d 170 987 ls (.int (a + b) :: st) w Q := Wp.alu e170_986 rfl rfl
theorem e170_987 : decode (j_co 170) 987 = .ok (.iaload, 1) := by decide +kernel
theorem w170_987 {d k : Nat} {ls : jL} {st : List Value} {I : fI} {L : fL} {Q : Option Value × jW → Prop} {g : List Int32} (hk : k < g.length) (h31 : k < 2147483648) : Wp d 170 987 ls (.int (nI k) :: .ref 0 :: st) (f_W (g.map Value.int) I L) Q = Wp d 170 988 ls (.int (g.getD k 0) :: st) (f_W (g.map Value.int) I L) Q := Wp.iald0 e170_987 hk h31
theorem e170_988 : decode (j_co 170) 988 = .ok (.aload_n 0, 1) := by decide +kernel
set_option maxRecDepth 20000 in
theorem w170_988 {d : Nat} {st : List Value} {Q : Option Value × jW → Prop} {w : jW} {a1 a2 a3 : Option Value} {x : Nat} : Wp d 170 988 [some (.ref x), a1, a2, a3] (st) w Q = Wp d 170 989 [some (.ref x), a1, a2, a3] (.ref x :: st) w Q := Wp.loc e170_988 rfl rfl rfl
theorem e170_989 : decode (j_co 170) 989 = .ok (.iload_n 3, 1) := by decide +kernel
set_option maxRecDepth 20000 in
theorem w170_989 {d : Nat} {st : List Value} {Q : Option Value × jW → Prop} {w : jW} {a0 a1 a2 : Option Value} {x : Int32} : Wp d 170 989 [a0, a1, a2, some (.int x)] (st) w Q = Wp d 170 990 [a0, a1, a2, some (.int x)] (.int x :: st) w Q := Wp.loc e170_989 rfl rfl rfl
theorem e170_990 : decode (j_co 170) 990 = .ok (.iconst 2, 1) := by decide +kernel
set_option maxRecDepth 20000 in
theorem w170_990 {d : Nat} {st : List Value} {Q : Option Value × jW → Prop} {ls : jL} {w : jW} : Wp d 170 990 ls (st) w Q = Wp d 170 991 ls (.int (nI 2) :: st) w Q := Wp.alu e170_990 rfl rfl
theorem e170_991 : decode (j_co 170) 991 = .ok (.iadd, 1) := by decide +kernel
set_option maxRecDepth 20000 in
theorem w170_991 {d : Nat} {st : List Value} {Q : Option Value × jW → Prop} {ls : jL} {w : jW} {a b : Int32} : Wp d 170 991 ls (.int b :: .int a :: st) w Q = Wp d 170 992 ls (.int (a + b) :: st) w Q := Wp.alu e170_991 rfl rfl
theorem e170_992 : decode (j_co 170) 992 = .ok (.iaload, 1) := by decide +kernel
theorem w170_992 {d k : Nat} {ls : jL} {st : List Value} {I : fI} {L : fL} {Q : Option Value × jW → Prop} {g : List Int32} (hk : k < g.length) (h31 : k < 2147483648) : Wp d 170 992 ls (.int (nI k) :: .ref 0 :: st) (f_W (g.map Value.int) I L) Q = Wp d 170 993 ls (.int (g.getD k 0) :: st) (f_W (g.map Value.int) I L) Q := Wp.iald0 e170_992 hk h31
theorem e170_993 : decode (j_co 170) 993 = .ok (.aload_n 0, 1) := by decide +kernel
set_option maxRecDepth 20000 in
theorem w170_993 {d : Nat} {st : List Value} {Q : Option Value × jW → Prop} {w : jW} {a1 a2 a3 : Option Value} {x : Nat} : Wp d 170 993 [some (.ref x), a1, a2, a3] (st) w Q = Wp d 170 994 [some (.ref x), a1, a2, a3] (.ref x :: st) w Q := Wp.loc e170_993 rfl rfl rfl
theorem e170_994 : decode (j_co 170) 994 = .ok (.iload_n 3, 1) := by decide +kernel
set_option maxRecDepth 20000 in
theorem w170_994 {d : Nat} {st : List Value} {Q : Option Value × jW → Prop} {w : jW} {a0 a1 a2 : Option Value} {x : Int32} : Wp d 170 994 [a0, a1, a2, some (.int x)] (st) w Q = Wp d 170 995 [a0, a1, a2, some (.int x)] (.int x :: st) w Q := Wp.loc e170_994 rfl rfl rfl
theorem e170_995 : decode (j_co 170) 995 = .ok (.iconst 3, 1) := by decide +kernel
set_option maxRecDepth 20000 in
theorem w170_995 {d : Nat} {st : List Value} {Q : Option Value × jW → Prop} {ls : jL} {w : jW} : Wp d 170 995 ls (st) w Q = Wp d 170 996 ls (.int (nI 3) :: st) w Q := Wp.alu e170_995 rfl rfl
theorem e170_996 : decode (j_co 170) 996 = .ok (.iadd, 1) := by decide +kernel
set_option maxRecDepth 20000 in
theorem w170_996 {d : Nat} {st : List Value} {Q : Option Value × jW → Prop} {ls : jL} {w : jW} {a b : Int32} : Wp d 170 996 ls (.int b :: .int a :: st) w Q = Wp d 170 997 ls (.int (a + b) :: st) w Q := Wp.alu e170_996 rfl rfl
theorem e170_997 : decode (j_co 170) 997 = .ok (.iaload, 1) := by decide +kernel
theorem w170_997 {d k : Nat} {ls : jL} {st : List Value} {I : fI} {L : fL} {Q : Option Value × jW → Prop} {g : List Int32} (hk : k < g.length) (h31 : k < 2147483648) : Wp d 170 997 ls (.int (nI k) :: .ref 0 :: st) (f_W (g.map Value.int) I L) Q = Wp d 170 998 ls (.int (g.getD k 0) :: st) (f_W (g.map Value.int) I L) Q := Wp.iald0 e170_997 hk h31
theorem e170_998 : decode (j_co 170) 998 = .ok (.aload_n 0, 1) := by decide +kernel
set_option maxRecDepth 20000 in
theorem w170_998 {d : Nat} {st : List Value} {Q : Option Value × jW → Prop} {w : jW} {a1 a2 a3 : Option Value} {x : Nat} : Wp d 170 998 [some (.ref x), a1, a2, a3] (st) w Q = Wp d 170 999 [some (.ref x), a1, a2, a3] (.ref x :: st) w Q := Wp.loc e170_998 rfl rfl rfl
theorem e170_999 : decode (j_co 170) 999 = .ok (.iload_n 3, 1) := by decide +kernel
set_option maxRecDepth 20000 in
theorem w170_999 {d : Nat} {st : List Value} {Q : Option Value × jW → Prop} {w : jW} {a0 a1 a2 : Option Value} {x : Int32} : Wp d 170 999 [a0, a1, a2, some (.int x)] (st) w Q = Wp d 170 1000 [a0, a1, a2, some (.int x)] (.int x :: st) w Q := Wp.loc e170_999 rfl rfl rfl
theorem e170_1000 : decode (j_co 170) 1000 = .ok (.iconst 4, 1) := by decide +kernel
set_option maxRecDepth 20000 in
theorem w170_1000 {d : Nat} {st : List Value} {Q : Option Value × jW → Prop} {ls : jL} {w : jW} : Wp d 170 1000 ls (st) w Q = Wp d 170 1001 ls (.int (nI 4) :: st) w Q := Wp.alu e170_1000 rfl rfl
theorem e170_1001 : decode (j_co 170) 1001 = .ok (.iadd, 1) := by decide +kernel
set_option maxRecDepth 20000 in
theorem w170_1001 {d : Nat} {st : List Value} {Q : Option Value × jW → Prop} {ls : jL} {w : jW} {a b : Int32} : Wp d 170 1001 ls (.int b :: .int a :: st) w Q = Wp d 170 1002 ls (.int (a + b) :: st) w Q := Wp.alu e170_1001 rfl rfl
theorem e170_1002 : decode (j_co 170) 1002 = .ok (.iaload, 1) := by decide +kernel
theorem w170_1002 {d k : Nat} {ls : jL} {st : List Value} {I : fI} {L : fL} {Q : Option Value × jW → Prop} {g : List Int32} (hk : k < g.length) (h31 : k < 2147483648) : Wp d 170 1002 ls (.int (nI k) :: .ref 0 :: st) (f_W (g.map Value.int) I L) Q = Wp d 170 1003 ls (.int (g.getD k 0) :: st) (f_W (g.map Value.int) I L) Q := Wp.iald0 e170_1002 hk h31
theorem e170_1003 : decode (j_co 170) 1003 = .ok (.invokevirtual 111, 3) := by decide +kernel
set_option maxRecDepth 20000 in
theorem w170_1003 {d : Nat} {st : List Value} {Q : Option Value × jW → Prop} {ls : jL} {xs : List Value} {I : fI} {L : fL} {r : Nat} {x0 : Int32} {x1 : Int32} {x2 : Int32} {x3 : Int32} (hs : j_sumc st ≤ 8) (ht : f_tg r = 11) : Wp (d + 1) 170 1003 ls (.int x3 :: .int x2 :: .int x1 :: .int x0 :: .ref r :: st) (f_W xs I L) Q = Wp d 163 0 [some (.ref r), some (.int x0), some (.int x1), some (.int x2), some (.int x3), none, none, none] [] (f_W xs I L) (fun r1 => Wp (d + 1) 170 1006 ls (r1.1.toList ++ st) r1.2 Q) := Wp.cv (y' := 163) (as := [.int x0, .int x1, .int x2, .int x3]) e170_1003 rfl (by decide) rfl (show 5 ≤ 8 by decide) (by decide) hs ht
theorem e170_1006 : decode (j_co 170) 1006 = .ok (.if_icmp .eq 200, 3) := by decide +kernel
set_option maxRecDepth 20000 in
theorem w170_1006 {d : Nat} {st : List Value} {Q : Option Value × jW → Prop} {ls : jL} {w : jW} {a b : Int32} : Wp d 170 1006 ls (.int b :: .int a :: st) w Q = ((a = b → Wp d 170 1206 ls st w Q) ∧ (¬ a = b → Wp d 170 1009 ls st w Q)) := Wp.if2 (c := a = b) (off := 200) e170_1006 rfl rfl rfl rfl rfl
theorem e170_1009 : decode (j_co 170) 1009 = .ok (.iconst 0, 1) := by decide +kernel
set_option maxRecDepth 20000 in
theorem w170_1009 {d : Nat} {st : List Value} {Q : Option Value × jW → Prop} {ls : jL} {w : jW} : Wp d 170 1009 ls (st) w Q = Wp d 170 1010 ls (.int (nI 0) :: st) w Q := Wp.alu e170_1009 rfl rfl
theorem e170_1010 : decode (j_co 170) 1010 = .ok (.ireturn, 1) := by decide +kernel
set_option maxRecDepth 20000 in
theorem w170_1010 {d : Nat} {Q : Option Value × jW → Prop} {ls : jL} {w : jW} {x : Int32} (hx : x = 0 ∨ x = 1) : Wp d 170 1010 ls [.int x] w Q = Q (some (.int x), w) := Wp.ret e170_1010 (by rcases hx with rfl | rfl <;> rfl)
theorem e170_1011 : decode (j_co 170) 1011 = .ok (.aload_n 1, 1) := by decide +kernel
set_option maxRecDepth 20000 in
theorem w170_1011 {d : Nat} {st : List Value} {Q : Option Value × jW → Prop} {w : jW} {a0 a2 a3 : Option Value} {x : Nat} : Wp d 170 1011 [a0, some (.ref x), a2, a3] (st) w Q = Wp d 170 1012 [a0, some (.ref x), a2, a3] (.ref x :: st) w Q := Wp.loc e170_1011 rfl rfl rfl
theorem e170_1012 : decode (j_co 170) 1012 = .ok (.aload_n 0, 1) := by decide +kernel
set_option maxRecDepth 20000 in
theorem w170_1012 {d : Nat} {st : List Value} {Q : Option Value × jW → Prop} {w : jW} {a1 a2 a3 : Option Value} {x : Nat} : Wp d 170 1012 [some (.ref x), a1, a2, a3] (st) w Q = Wp d 170 1013 [some (.ref x), a1, a2, a3] (.ref x :: st) w Q := Wp.loc e170_1012 rfl rfl rfl
theorem e170_1013 : decode (j_co 170) 1013 = .ok (.iload_n 3, 1) := by decide +kernel
set_option maxRecDepth 20000 in
theorem w170_1013 {d : Nat} {st : List Value} {Q : Option Value × jW → Prop} {w : jW} {a0 a1 a2 : Option Value} {x : Int32} : Wp d 170 1013 [a0, a1, a2, some (.int x)] (st) w Q = Wp d 170 1014 [a0, a1, a2, some (.int x)] (.int x :: st) w Q := Wp.loc e170_1013 rfl rfl rfl
theorem e170_1014 : decode (j_co 170) 1014 = .ok (.iconst 1, 1) := by decide +kernel
set_option maxRecDepth 20000 in
theorem w170_1014 {d : Nat} {st : List Value} {Q : Option Value × jW → Prop} {ls : jL} {w : jW} : Wp d 170 1014 ls (st) w Q = Wp d 170 1015 ls (.int (nI 1) :: st) w Q := Wp.alu e170_1014 rfl rfl
theorem e170_1015 : decode (j_co 170) 1015 = .ok (.iadd, 1) := by decide +kernel
set_option maxRecDepth 20000 in
theorem w170_1015 {d : Nat} {st : List Value} {Q : Option Value × jW → Prop} {ls : jL} {w : jW} {a b : Int32} : Wp d 170 1015 ls (.int b :: .int a :: st) w Q = Wp d 170 1016 ls (.int (a + b) :: st) w Q := Wp.alu e170_1015 rfl rfl
theorem e170_1016 : decode (j_co 170) 1016 = .ok (.iaload, 1) := by decide +kernel
theorem w170_1016 {d k : Nat} {ls : jL} {st : List Value} {I : fI} {L : fL} {Q : Option Value × jW → Prop} {g : List Int32} (hk : k < g.length) (h31 : k < 2147483648) : Wp d 170 1016 ls (.int (nI k) :: .ref 0 :: st) (f_W (g.map Value.int) I L) Q = Wp d 170 1017 ls (.int (g.getD k 0) :: st) (f_W (g.map Value.int) I L) Q := Wp.iald0 e170_1016 hk h31
theorem e170_1017 : decode (j_co 170) 1017 = .ok (.invokevirtual 112, 3) := by decide +kernel
set_option maxRecDepth 20000 in
theorem w170_1017 {d : Nat} {st : List Value} {Q : Option Value × jW → Prop} {ls : jL} {xs : List Value} {I : fI} {L : fL} {r : Nat} {x0 : Int32} (hs : j_sumc st ≤ 8) (ht : f_tg r = 10) : Wp (d + 1) 170 1017 ls (.int x0 :: .ref r :: st) (f_W xs I L) Q = Wp d 94 0 [some (.ref r), some (.int x0)] [] (f_W xs I L) (fun r1 => Wp (d + 1) 170 1020 ls (r1.1.toList ++ st) r1.2 Q) := Wp.cv (y' := 94) (as := [.int x0]) e170_1017 rfl (by decide) rfl (show 2 ≤ 2 by decide) (by decide) hs ht
theorem e170_1020 : decode (j_co 170) 1020 = .ok (.aload_n 2, 1) := by decide +kernel
set_option maxRecDepth 20000 in
theorem w170_1020 {d : Nat} {st : List Value} {Q : Option Value × jW → Prop} {w : jW} {a0 a1 a3 : Option Value} {x : Nat} : Wp d 170 1020 [a0, a1, some (.ref x), a3] (st) w Q = Wp d 170 1021 [a0, a1, some (.ref x), a3] (.ref x :: st) w Q := Wp.loc e170_1020 rfl rfl rfl
theorem e170_1021 : decode (j_co 170) 1021 = .ok (.aload_n 0, 1) := by decide +kernel
set_option maxRecDepth 20000 in
theorem w170_1021 {d : Nat} {st : List Value} {Q : Option Value × jW → Prop} {w : jW} {a1 a2 a3 : Option Value} {x : Nat} : Wp d 170 1021 [some (.ref x), a1, a2, a3] (st) w Q = Wp d 170 1022 [some (.ref x), a1, a2, a3] (.ref x :: st) w Q := Wp.loc e170_1021 rfl rfl rfl
theorem e170_1022 : decode (j_co 170) 1022 = .ok (.iload_n 3, 1) := by decide +kernel
set_option maxRecDepth 20000 in
theorem w170_1022 {d : Nat} {st : List Value} {Q : Option Value × jW → Prop} {w : jW} {a0 a1 a2 : Option Value} {x : Int32} : Wp d 170 1022 [a0, a1, a2, some (.int x)] (st) w Q = Wp d 170 1023 [a0, a1, a2, some (.int x)] (.int x :: st) w Q := Wp.loc e170_1022 rfl rfl rfl
theorem e170_1023 : decode (j_co 170) 1023 = .ok (.iconst 1, 1) := by decide +kernel
set_option maxRecDepth 20000 in
theorem w170_1023 {d : Nat} {st : List Value} {Q : Option Value × jW → Prop} {ls : jL} {w : jW} : Wp d 170 1023 ls (st) w Q = Wp d 170 1024 ls (.int (nI 1) :: st) w Q := Wp.alu e170_1023 rfl rfl
theorem e170_1024 : decode (j_co 170) 1024 = .ok (.iadd, 1) := by decide +kernel
set_option maxRecDepth 20000 in
theorem w170_1024 {d : Nat} {st : List Value} {Q : Option Value × jW → Prop} {ls : jL} {w : jW} {a b : Int32} : Wp d 170 1024 ls (.int b :: .int a :: st) w Q = Wp d 170 1025 ls (.int (a + b) :: st) w Q := Wp.alu e170_1024 rfl rfl
theorem e170_1025 : decode (j_co 170) 1025 = .ok (.iaload, 1) := by decide +kernel
theorem w170_1025 {d k : Nat} {ls : jL} {st : List Value} {I : fI} {L : fL} {Q : Option Value × jW → Prop} {g : List Int32} (hk : k < g.length) (h31 : k < 2147483648) : Wp d 170 1025 ls (.int (nI k) :: .ref 0 :: st) (f_W (g.map Value.int) I L) Q = Wp d 170 1026 ls (.int (g.getD k 0) :: st) (f_W (g.map Value.int) I L) Q := Wp.iald0 e170_1025 hk h31
theorem e170_1026 : decode (j_co 170) 1026 = .ok (.invokevirtual 115, 3) := by decide +kernel
set_option maxRecDepth 20000 in
theorem w170_1026 {d : Nat} {st : List Value} {Q : Option Value × jW → Prop} {ls : jL} {xs : List Value} {I : fI} {L : fL} {r : Nat} {x0 : Int32} (hs : j_sumc st ≤ 8) (ht : f_tg r = 11) : Wp (d + 1) 170 1026 ls (.int x0 :: .ref r :: st) (f_W xs I L) Q = Wp d 165 0 [some (.ref r), some (.int x0), none, none] [] (f_W xs I L) (fun r1 => Wp (d + 1) 170 1029 ls (r1.1.toList ++ st) r1.2 Q) := Wp.cv (y' := 165) (as := [.int x0]) e170_1026 rfl (by decide) rfl (show 2 ≤ 4 by decide) (by decide) hs ht
theorem e170_1029 : decode (j_co 170) 1029 = .ok (.if_icmp .eq 177, 3) := by decide +kernel
set_option maxRecDepth 20000 in
theorem w170_1029 {d : Nat} {st : List Value} {Q : Option Value × jW → Prop} {ls : jL} {w : jW} {a b : Int32} : Wp d 170 1029 ls (.int b :: .int a :: st) w Q = ((a = b → Wp d 170 1206 ls st w Q) ∧ (¬ a = b → Wp d 170 1032 ls st w Q)) := Wp.if2 (c := a = b) (off := 177) e170_1029 rfl rfl rfl rfl rfl
theorem e170_1032 : decode (j_co 170) 1032 = .ok (.iconst 0, 1) := by decide +kernel
set_option maxRecDepth 20000 in
theorem w170_1032 {d : Nat} {st : List Value} {Q : Option Value × jW → Prop} {ls : jL} {w : jW} : Wp d 170 1032 ls (st) w Q = Wp d 170 1033 ls (.int (nI 0) :: st) w Q := Wp.alu e170_1032 rfl rfl
theorem e170_1033 : decode (j_co 170) 1033 = .ok (.ireturn, 1) := by decide +kernel
set_option maxRecDepth 20000 in
theorem w170_1033 {d : Nat} {Q : Option Value × jW → Prop} {ls : jL} {w : jW} {x : Int32} (hx : x = 0 ∨ x = 1) : Wp d 170 1033 ls [.int x] w Q = Q (some (.int x), w) := Wp.ret e170_1033 (by rcases hx with rfl | rfl <;> rfl)
theorem e170_1034 : decode (j_co 170) 1034 = .ok (.aload_n 1, 1) := by decide +kernel
set_option maxRecDepth 20000 in
theorem w170_1034 {d : Nat} {st : List Value} {Q : Option Value × jW → Prop} {w : jW} {a0 a2 a3 : Option Value} {x : Nat} : Wp d 170 1034 [a0, some (.ref x), a2, a3] (st) w Q = Wp d 170 1035 [a0, some (.ref x), a2, a3] (.ref x :: st) w Q := Wp.loc e170_1034 rfl rfl rfl
theorem e170_1035 : decode (j_co 170) 1035 = .ok (.aload_n 0, 1) := by decide +kernel
set_option maxRecDepth 20000 in
theorem w170_1035 {d : Nat} {st : List Value} {Q : Option Value × jW → Prop} {w : jW} {a1 a2 a3 : Option Value} {x : Nat} : Wp d 170 1035 [some (.ref x), a1, a2, a3] (st) w Q = Wp d 170 1036 [some (.ref x), a1, a2, a3] (.ref x :: st) w Q := Wp.loc e170_1035 rfl rfl rfl
theorem e170_1036 : decode (j_co 170) 1036 = .ok (.iload_n 3, 1) := by decide +kernel
set_option maxRecDepth 20000 in
theorem w170_1036 {d : Nat} {st : List Value} {Q : Option Value × jW → Prop} {w : jW} {a0 a1 a2 : Option Value} {x : Int32} : Wp d 170 1036 [a0, a1, a2, some (.int x)] (st) w Q = Wp d 170 1037 [a0, a1, a2, some (.int x)] (.int x :: st) w Q := Wp.loc e170_1036 rfl rfl rfl
theorem e170_1037 : decode (j_co 170) 1037 = .ok (.iconst 1, 1) := by decide +kernel
set_option maxRecDepth 20000 in
theorem w170_1037 {d : Nat} {st : List Value} {Q : Option Value × jW → Prop} {ls : jL} {w : jW} : Wp d 170 1037 ls (st) w Q = Wp d 170 1038 ls (.int (nI 1) :: st) w Q := Wp.alu e170_1037 rfl rfl
theorem e170_1038 : decode (j_co 170) 1038 = .ok (.iadd, 1) := by decide +kernel
set_option maxRecDepth 20000 in
theorem w170_1038 {d : Nat} {st : List Value} {Q : Option Value × jW → Prop} {ls : jL} {w : jW} {a b : Int32} : Wp d 170 1038 ls (.int b :: .int a :: st) w Q = Wp d 170 1039 ls (.int (a + b) :: st) w Q := Wp.alu e170_1038 rfl rfl
theorem e170_1039 : decode (j_co 170) 1039 = .ok (.iaload, 1) := by decide +kernel
theorem w170_1039 {d k : Nat} {ls : jL} {st : List Value} {I : fI} {L : fL} {Q : Option Value × jW → Prop} {g : List Int32} (hk : k < g.length) (h31 : k < 2147483648) : Wp d 170 1039 ls (.int (nI k) :: .ref 0 :: st) (f_W (g.map Value.int) I L) Q = Wp d 170 1040 ls (.int (g.getD k 0) :: st) (f_W (g.map Value.int) I L) Q := Wp.iald0 e170_1039 hk h31
theorem e170_1040 : decode (j_co 170) 1040 = .ok (.aload_n 0, 1) := by decide +kernel
set_option maxRecDepth 20000 in
theorem w170_1040 {d : Nat} {st : List Value} {Q : Option Value × jW → Prop} {w : jW} {a1 a2 a3 : Option Value} {x : Nat} : Wp d 170 1040 [some (.ref x), a1, a2, a3] (st) w Q = Wp d 170 1041 [some (.ref x), a1, a2, a3] (.ref x :: st) w Q := Wp.loc e170_1040 rfl rfl rfl
theorem e170_1041 : decode (j_co 170) 1041 = .ok (.iload_n 3, 1) := by decide +kernel
set_option maxRecDepth 20000 in
theorem w170_1041 {d : Nat} {st : List Value} {Q : Option Value × jW → Prop} {w : jW} {a0 a1 a2 : Option Value} {x : Int32} : Wp d 170 1041 [a0, a1, a2, some (.int x)] (st) w Q = Wp d 170 1042 [a0, a1, a2, some (.int x)] (.int x :: st) w Q := Wp.loc e170_1041 rfl rfl rfl
theorem e170_1042 : decode (j_co 170) 1042 = .ok (.iconst 2, 1) := by decide +kernel
set_option maxRecDepth 20000 in
theorem w170_1042 {d : Nat} {st : List Value} {Q : Option Value × jW → Prop} {ls : jL} {w : jW} : Wp d 170 1042 ls (st) w Q = Wp d 170 1043 ls (.int (nI 2) :: st) w Q := Wp.alu e170_1042 rfl rfl
theorem e170_1043 : decode (j_co 170) 1043 = .ok (.iadd, 1) := by decide +kernel
set_option maxRecDepth 20000 in
theorem w170_1043 {d : Nat} {st : List Value} {Q : Option Value × jW → Prop} {ls : jL} {w : jW} {a b : Int32} : Wp d 170 1043 ls (.int b :: .int a :: st) w Q = Wp d 170 1044 ls (.int (a + b) :: st) w Q := Wp.alu e170_1043 rfl rfl
theorem e170_1044 : decode (j_co 170) 1044 = .ok (.iaload, 1) := by decide +kernel
theorem w170_1044 {d k : Nat} {ls : jL} {st : List Value} {I : fI} {L : fL} {Q : Option Value × jW → Prop} {g : List Int32} (hk : k < g.length) (h31 : k < 2147483648) : Wp d 170 1044 ls (.int (nI k) :: .ref 0 :: st) (f_W (g.map Value.int) I L) Q = Wp d 170 1045 ls (.int (g.getD k 0) :: st) (f_W (g.map Value.int) I L) Q := Wp.iald0 e170_1044 hk h31
theorem e170_1045 : decode (j_co 170) 1045 = .ok (.aload_n 0, 1) := by decide +kernel
set_option maxRecDepth 20000 in
theorem w170_1045 {d : Nat} {st : List Value} {Q : Option Value × jW → Prop} {w : jW} {a1 a2 a3 : Option Value} {x : Nat} : Wp d 170 1045 [some (.ref x), a1, a2, a3] (st) w Q = Wp d 170 1046 [some (.ref x), a1, a2, a3] (.ref x :: st) w Q := Wp.loc e170_1045 rfl rfl rfl
theorem e170_1046 : decode (j_co 170) 1046 = .ok (.iload_n 3, 1) := by decide +kernel
set_option maxRecDepth 20000 in
theorem w170_1046 {d : Nat} {st : List Value} {Q : Option Value × jW → Prop} {w : jW} {a0 a1 a2 : Option Value} {x : Int32} : Wp d 170 1046 [a0, a1, a2, some (.int x)] (st) w Q = Wp d 170 1047 [a0, a1, a2, some (.int x)] (.int x :: st) w Q := Wp.loc e170_1046 rfl rfl rfl
theorem e170_1047 : decode (j_co 170) 1047 = .ok (.iconst 3, 1) := by decide +kernel
set_option maxRecDepth 20000 in
theorem w170_1047 {d : Nat} {st : List Value} {Q : Option Value × jW → Prop} {ls : jL} {w : jW} : Wp d 170 1047 ls (st) w Q = Wp d 170 1048 ls (.int (nI 3) :: st) w Q := Wp.alu e170_1047 rfl rfl
theorem e170_1048 : decode (j_co 170) 1048 = .ok (.iadd, 1) := by decide +kernel
set_option maxRecDepth 20000 in
theorem w170_1048 {d : Nat} {st : List Value} {Q : Option Value × jW → Prop} {ls : jL} {w : jW} {a b : Int32} : Wp d 170 1048 ls (.int b :: .int a :: st) w Q = Wp d 170 1049 ls (.int (a + b) :: st) w Q := Wp.alu e170_1048 rfl rfl
theorem e170_1049 : decode (j_co 170) 1049 = .ok (.iaload, 1) := by decide +kernel
theorem w170_1049 {d k : Nat} {ls : jL} {st : List Value} {I : fI} {L : fL} {Q : Option Value × jW → Prop} {g : List Int32} (hk : k < g.length) (h31 : k < 2147483648) : Wp d 170 1049 ls (.int (nI k) :: .ref 0 :: st) (f_W (g.map Value.int) I L) Q = Wp d 170 1050 ls (.int (g.getD k 0) :: st) (f_W (g.map Value.int) I L) Q := Wp.iald0 e170_1049 hk h31
theorem e170_1050 : decode (j_co 170) 1050 = .ok (.invokevirtual 116, 3) := by decide +kernel
set_option maxRecDepth 20000 in
theorem w170_1050 {d : Nat} {st : List Value} {Q : Option Value × jW → Prop} {ls : jL} {xs : List Value} {I : fI} {L : fL} {r : Nat} {x0 : Int32} {x1 : Int32} {x2 : Int32} (hs : j_sumc st ≤ 8) (ht : f_tg r = 10) : Wp (d + 1) 170 1050 ls (.int x2 :: .int x1 :: .int x0 :: .ref r :: st) (f_W xs I L) Q = Wp d 97 0 [some (.ref r), some (.int x0), some (.int x1), some (.int x2)] [] (f_W xs I L) (fun r1 => Wp (d + 1) 170 1053 ls (r1.1.toList ++ st) r1.2 Q) := Wp.cv (y' := 97) (as := [.int x0, .int x1, .int x2]) e170_1050 rfl (by decide) rfl (show 4 ≤ 4 by decide) (by decide) hs ht
theorem e170_1053 : decode (j_co 170) 1053 = .ok (.aload_n 2, 1) := by decide +kernel
set_option maxRecDepth 20000 in
theorem w170_1053 {d : Nat} {st : List Value} {Q : Option Value × jW → Prop} {w : jW} {a0 a1 a3 : Option Value} {x : Nat} : Wp d 170 1053 [a0, a1, some (.ref x), a3] (st) w Q = Wp d 170 1054 [a0, a1, some (.ref x), a3] (.ref x :: st) w Q := Wp.loc e170_1053 rfl rfl rfl
theorem e170_1054 : decode (j_co 170) 1054 = .ok (.aload_n 0, 1) := by decide +kernel
set_option maxRecDepth 20000 in
theorem w170_1054 {d : Nat} {st : List Value} {Q : Option Value × jW → Prop} {w : jW} {a1 a2 a3 : Option Value} {x : Nat} : Wp d 170 1054 [some (.ref x), a1, a2, a3] (st) w Q = Wp d 170 1055 [some (.ref x), a1, a2, a3] (.ref x :: st) w Q := Wp.loc e170_1054 rfl rfl rfl
theorem e170_1055 : decode (j_co 170) 1055 = .ok (.iload_n 3, 1) := by decide +kernel
set_option maxRecDepth 20000 in
theorem w170_1055 {d : Nat} {st : List Value} {Q : Option Value × jW → Prop} {w : jW} {a0 a1 a2 : Option Value} {x : Int32} : Wp d 170 1055 [a0, a1, a2, some (.int x)] (st) w Q = Wp d 170 1056 [a0, a1, a2, some (.int x)] (.int x :: st) w Q := Wp.loc e170_1055 rfl rfl rfl
theorem e170_1056 : decode (j_co 170) 1056 = .ok (.iconst 1, 1) := by decide +kernel
set_option maxRecDepth 20000 in
theorem w170_1056 {d : Nat} {st : List Value} {Q : Option Value × jW → Prop} {ls : jL} {w : jW} : Wp d 170 1056 ls (st) w Q = Wp d 170 1057 ls (.int (nI 1) :: st) w Q := Wp.alu e170_1056 rfl rfl
theorem e170_1057 : decode (j_co 170) 1057 = .ok (.iadd, 1) := by decide +kernel
set_option maxRecDepth 20000 in
theorem w170_1057 {d : Nat} {st : List Value} {Q : Option Value × jW → Prop} {ls : jL} {w : jW} {a b : Int32} : Wp d 170 1057 ls (.int b :: .int a :: st) w Q = Wp d 170 1058 ls (.int (a + b) :: st) w Q := Wp.alu e170_1057 rfl rfl
theorem e170_1058 : decode (j_co 170) 1058 = .ok (.iaload, 1) := by decide +kernel
theorem w170_1058 {d k : Nat} {ls : jL} {st : List Value} {I : fI} {L : fL} {Q : Option Value × jW → Prop} {g : List Int32} (hk : k < g.length) (h31 : k < 2147483648) : Wp d 170 1058 ls (.int (nI k) :: .ref 0 :: st) (f_W (g.map Value.int) I L) Q = Wp d 170 1059 ls (.int (g.getD k 0) :: st) (f_W (g.map Value.int) I L) Q := Wp.iald0 e170_1058 hk h31
theorem e170_1059 : decode (j_co 170) 1059 = .ok (.aload_n 0, 1) := by decide +kernel
set_option maxRecDepth 20000 in
theorem w170_1059 {d : Nat} {st : List Value} {Q : Option Value × jW → Prop} {w : jW} {a1 a2 a3 : Option Value} {x : Nat} : Wp d 170 1059 [some (.ref x), a1, a2, a3] (st) w Q = Wp d 170 1060 [some (.ref x), a1, a2, a3] (.ref x :: st) w Q := Wp.loc e170_1059 rfl rfl rfl
theorem e170_1060 : decode (j_co 170) 1060 = .ok (.iload_n 3, 1) := by decide +kernel
set_option maxRecDepth 20000 in
theorem w170_1060 {d : Nat} {st : List Value} {Q : Option Value × jW → Prop} {w : jW} {a0 a1 a2 : Option Value} {x : Int32} : Wp d 170 1060 [a0, a1, a2, some (.int x)] (st) w Q = Wp d 170 1061 [a0, a1, a2, some (.int x)] (.int x :: st) w Q := Wp.loc e170_1060 rfl rfl rfl
theorem e170_1061 : decode (j_co 170) 1061 = .ok (.iconst 2, 1) := by decide +kernel
set_option maxRecDepth 20000 in
theorem w170_1061 {d : Nat} {st : List Value} {Q : Option Value × jW → Prop} {ls : jL} {w : jW} : Wp d 170 1061 ls (st) w Q = Wp d 170 1062 ls (.int (nI 2) :: st) w Q := Wp.alu e170_1061 rfl rfl
theorem e170_1062 : decode (j_co 170) 1062 = .ok (.iadd, 1) := by decide +kernel
set_option maxRecDepth 20000 in
theorem w170_1062 {d : Nat} {st : List Value} {Q : Option Value × jW → Prop} {ls : jL} {w : jW} {a b : Int32} : Wp d 170 1062 ls (.int b :: .int a :: st) w Q = Wp d 170 1063 ls (.int (a + b) :: st) w Q := Wp.alu e170_1062 rfl rfl
theorem e170_1063 : decode (j_co 170) 1063 = .ok (.iaload, 1) := by decide +kernel
theorem w170_1063 {d k : Nat} {ls : jL} {st : List Value} {I : fI} {L : fL} {Q : Option Value × jW → Prop} {g : List Int32} (hk : k < g.length) (h31 : k < 2147483648) : Wp d 170 1063 ls (.int (nI k) :: .ref 0 :: st) (f_W (g.map Value.int) I L) Q = Wp d 170 1064 ls (.int (g.getD k 0) :: st) (f_W (g.map Value.int) I L) Q := Wp.iald0 e170_1063 hk h31
theorem e170_1064 : decode (j_co 170) 1064 = .ok (.aload_n 0, 1) := by decide +kernel
set_option maxRecDepth 20000 in
theorem w170_1064 {d : Nat} {st : List Value} {Q : Option Value × jW → Prop} {w : jW} {a1 a2 a3 : Option Value} {x : Nat} : Wp d 170 1064 [some (.ref x), a1, a2, a3] (st) w Q = Wp d 170 1065 [some (.ref x), a1, a2, a3] (.ref x :: st) w Q := Wp.loc e170_1064 rfl rfl rfl
theorem e170_1065 : decode (j_co 170) 1065 = .ok (.iload_n 3, 1) := by decide +kernel
set_option maxRecDepth 20000 in
theorem w170_1065 {d : Nat} {st : List Value} {Q : Option Value × jW → Prop} {w : jW} {a0 a1 a2 : Option Value} {x : Int32} : Wp d 170 1065 [a0, a1, a2, some (.int x)] (st) w Q = Wp d 170 1066 [a0, a1, a2, some (.int x)] (.int x :: st) w Q := Wp.loc e170_1065 rfl rfl rfl
theorem e170_1066 : decode (j_co 170) 1066 = .ok (.iconst 3, 1) := by decide +kernel
set_option maxRecDepth 20000 in
theorem w170_1066 {d : Nat} {st : List Value} {Q : Option Value × jW → Prop} {ls : jL} {w : jW} : Wp d 170 1066 ls (st) w Q = Wp d 170 1067 ls (.int (nI 3) :: st) w Q := Wp.alu e170_1066 rfl rfl
theorem e170_1067 : decode (j_co 170) 1067 = .ok (.iadd, 1) := by decide +kernel
set_option maxRecDepth 20000 in
theorem w170_1067 {d : Nat} {st : List Value} {Q : Option Value × jW → Prop} {ls : jL} {w : jW} {a b : Int32} : Wp d 170 1067 ls (.int b :: .int a :: st) w Q = Wp d 170 1068 ls (.int (a + b) :: st) w Q := Wp.alu e170_1067 rfl rfl
theorem e170_1068 : decode (j_co 170) 1068 = .ok (.iaload, 1) := by decide +kernel
theorem w170_1068 {d k : Nat} {ls : jL} {st : List Value} {I : fI} {L : fL} {Q : Option Value × jW → Prop} {g : List Int32} (hk : k < g.length) (h31 : k < 2147483648) : Wp d 170 1068 ls (.int (nI k) :: .ref 0 :: st) (f_W (g.map Value.int) I L) Q = Wp d 170 1069 ls (.int (g.getD k 0) :: st) (f_W (g.map Value.int) I L) Q := Wp.iald0 e170_1068 hk h31
theorem e170_1069 : decode (j_co 170) 1069 = .ok (.invokevirtual 119, 3) := by decide +kernel
set_option maxRecDepth 20000 in
theorem w170_1069 {d : Nat} {st : List Value} {Q : Option Value × jW → Prop} {ls : jL} {xs : List Value} {I : fI} {L : fL} {r : Nat} {x0 : Int32} {x1 : Int32} {x2 : Int32} (hs : j_sumc st ≤ 8) (ht : f_tg r = 11) : Wp (d + 1) 170 1069 ls (.int x2 :: .int x1 :: .int x0 :: .ref r :: st) (f_W xs I L) Q = Wp d 166 0 [some (.ref r), some (.int x0), some (.int x1), some (.int x2), none] [] (f_W xs I L) (fun r1 => Wp (d + 1) 170 1072 ls (r1.1.toList ++ st) r1.2 Q) := Wp.cv (y' := 166) (as := [.int x0, .int x1, .int x2]) e170_1069 rfl (by decide) rfl (show 4 ≤ 5 by decide) (by decide) hs ht
theorem e170_1072 : decode (j_co 170) 1072 = .ok (.if_icmp .eq 134, 3) := by decide +kernel
set_option maxRecDepth 20000 in
theorem w170_1072 {d : Nat} {st : List Value} {Q : Option Value × jW → Prop} {ls : jL} {w : jW} {a b : Int32} : Wp d 170 1072 ls (.int b :: .int a :: st) w Q = ((a = b → Wp d 170 1206 ls st w Q) ∧ (¬ a = b → Wp d 170 1075 ls st w Q)) := Wp.if2 (c := a = b) (off := 134) e170_1072 rfl rfl rfl rfl rfl
theorem e170_1075 : decode (j_co 170) 1075 = .ok (.iconst 0, 1) := by decide +kernel
set_option maxRecDepth 20000 in
theorem w170_1075 {d : Nat} {st : List Value} {Q : Option Value × jW → Prop} {ls : jL} {w : jW} : Wp d 170 1075 ls (st) w Q = Wp d 170 1076 ls (.int (nI 0) :: st) w Q := Wp.alu e170_1075 rfl rfl
theorem e170_1076 : decode (j_co 170) 1076 = .ok (.ireturn, 1) := by decide +kernel
set_option maxRecDepth 20000 in
theorem w170_1076 {d : Nat} {Q : Option Value × jW → Prop} {ls : jL} {w : jW} {x : Int32} (hx : x = 0 ∨ x = 1) : Wp d 170 1076 ls [.int x] w Q = Q (some (.int x), w) := Wp.ret e170_1076 (by rcases hx with rfl | rfl <;> rfl)
theorem e170_1077 : decode (j_co 170) 1077 = .ok (.aload_n 1, 1) := by decide +kernel
set_option maxRecDepth 20000 in
theorem w170_1077 {d : Nat} {st : List Value} {Q : Option Value × jW → Prop} {w : jW} {a0 a2 a3 : Option Value} {x : Nat} : Wp d 170 1077 [a0, some (.ref x), a2, a3] (st) w Q = Wp d 170 1078 [a0, some (.ref x), a2, a3] (.ref x :: st) w Q := Wp.loc e170_1077 rfl rfl rfl
theorem e170_1078 : decode (j_co 170) 1078 = .ok (.aload_n 0, 1) := by decide +kernel
set_option maxRecDepth 20000 in
theorem w170_1078 {d : Nat} {st : List Value} {Q : Option Value × jW → Prop} {w : jW} {a1 a2 a3 : Option Value} {x : Nat} : Wp d 170 1078 [some (.ref x), a1, a2, a3] (st) w Q = Wp d 170 1079 [some (.ref x), a1, a2, a3] (.ref x :: st) w Q := Wp.loc e170_1078 rfl rfl rfl
theorem e170_1079 : decode (j_co 170) 1079 = .ok (.iload_n 3, 1) := by decide +kernel
set_option maxRecDepth 20000 in
theorem w170_1079 {d : Nat} {st : List Value} {Q : Option Value × jW → Prop} {w : jW} {a0 a1 a2 : Option Value} {x : Int32} : Wp d 170 1079 [a0, a1, a2, some (.int x)] (st) w Q = Wp d 170 1080 [a0, a1, a2, some (.int x)] (.int x :: st) w Q := Wp.loc e170_1079 rfl rfl rfl
theorem e170_1080 : decode (j_co 170) 1080 = .ok (.iconst 1, 1) := by decide +kernel
set_option maxRecDepth 20000 in
theorem w170_1080 {d : Nat} {st : List Value} {Q : Option Value × jW → Prop} {ls : jL} {w : jW} : Wp d 170 1080 ls (st) w Q = Wp d 170 1081 ls (.int (nI 1) :: st) w Q := Wp.alu e170_1080 rfl rfl
theorem e170_1081 : decode (j_co 170) 1081 = .ok (.iadd, 1) := by decide +kernel
set_option maxRecDepth 20000 in
theorem w170_1081 {d : Nat} {st : List Value} {Q : Option Value × jW → Prop} {ls : jL} {w : jW} {a b : Int32} : Wp d 170 1081 ls (.int b :: .int a :: st) w Q = Wp d 170 1082 ls (.int (a + b) :: st) w Q := Wp.alu e170_1081 rfl rfl
theorem e170_1082 : decode (j_co 170) 1082 = .ok (.iaload, 1) := by decide +kernel
theorem w170_1082 {d k : Nat} {ls : jL} {st : List Value} {I : fI} {L : fL} {Q : Option Value × jW → Prop} {g : List Int32} (hk : k < g.length) (h31 : k < 2147483648) : Wp d 170 1082 ls (.int (nI k) :: .ref 0 :: st) (f_W (g.map Value.int) I L) Q = Wp d 170 1083 ls (.int (g.getD k 0) :: st) (f_W (g.map Value.int) I L) Q := Wp.iald0 e170_1082 hk h31
theorem e170_1083 : decode (j_co 170) 1083 = .ok (.aload_n 0, 1) := by decide +kernel
set_option maxRecDepth 20000 in
theorem w170_1083 {d : Nat} {st : List Value} {Q : Option Value × jW → Prop} {w : jW} {a1 a2 a3 : Option Value} {x : Nat} : Wp d 170 1083 [some (.ref x), a1, a2, a3] (st) w Q = Wp d 170 1084 [some (.ref x), a1, a2, a3] (.ref x :: st) w Q := Wp.loc e170_1083 rfl rfl rfl
theorem e170_1084 : decode (j_co 170) 1084 = .ok (.iload_n 3, 1) := by decide +kernel
set_option maxRecDepth 20000 in
theorem w170_1084 {d : Nat} {st : List Value} {Q : Option Value × jW → Prop} {w : jW} {a0 a1 a2 : Option Value} {x : Int32} : Wp d 170 1084 [a0, a1, a2, some (.int x)] (st) w Q = Wp d 170 1085 [a0, a1, a2, some (.int x)] (.int x :: st) w Q := Wp.loc e170_1084 rfl rfl rfl
theorem e170_1085 : decode (j_co 170) 1085 = .ok (.iconst 2, 1) := by decide +kernel
set_option maxRecDepth 20000 in
theorem w170_1085 {d : Nat} {st : List Value} {Q : Option Value × jW → Prop} {ls : jL} {w : jW} : Wp d 170 1085 ls (st) w Q = Wp d 170 1086 ls (.int (nI 2) :: st) w Q := Wp.alu e170_1085 rfl rfl
theorem e170_1086 : decode (j_co 170) 1086 = .ok (.iadd, 1) := by decide +kernel
set_option maxRecDepth 20000 in
theorem w170_1086 {d : Nat} {st : List Value} {Q : Option Value × jW → Prop} {ls : jL} {w : jW} {a b : Int32} : Wp d 170 1086 ls (.int b :: .int a :: st) w Q = Wp d 170 1087 ls (.int (a + b) :: st) w Q := Wp.alu e170_1086 rfl rfl
theorem e170_1087 : decode (j_co 170) 1087 = .ok (.iaload, 1) := by decide +kernel
theorem w170_1087 {d k : Nat} {ls : jL} {st : List Value} {I : fI} {L : fL} {Q : Option Value × jW → Prop} {g : List Int32} (hk : k < g.length) (h31 : k < 2147483648) : Wp d 170 1087 ls (.int (nI k) :: .ref 0 :: st) (f_W (g.map Value.int) I L) Q = Wp d 170 1088 ls (.int (g.getD k 0) :: st) (f_W (g.map Value.int) I L) Q := Wp.iald0 e170_1087 hk h31
theorem e170_1088 : decode (j_co 170) 1088 = .ok (.aload_n 0, 1) := by decide +kernel
set_option maxRecDepth 20000 in
theorem w170_1088 {d : Nat} {st : List Value} {Q : Option Value × jW → Prop} {w : jW} {a1 a2 a3 : Option Value} {x : Nat} : Wp d 170 1088 [some (.ref x), a1, a2, a3] (st) w Q = Wp d 170 1089 [some (.ref x), a1, a2, a3] (.ref x :: st) w Q := Wp.loc e170_1088 rfl rfl rfl
theorem e170_1089 : decode (j_co 170) 1089 = .ok (.iload_n 3, 1) := by decide +kernel
set_option maxRecDepth 20000 in
theorem w170_1089 {d : Nat} {st : List Value} {Q : Option Value × jW → Prop} {w : jW} {a0 a1 a2 : Option Value} {x : Int32} : Wp d 170 1089 [a0, a1, a2, some (.int x)] (st) w Q = Wp d 170 1090 [a0, a1, a2, some (.int x)] (.int x :: st) w Q := Wp.loc e170_1089 rfl rfl rfl
theorem e170_1090 : decode (j_co 170) 1090 = .ok (.iconst 3, 1) := by decide +kernel
set_option maxRecDepth 20000 in
theorem w170_1090 {d : Nat} {st : List Value} {Q : Option Value × jW → Prop} {ls : jL} {w : jW} : Wp d 170 1090 ls (st) w Q = Wp d 170 1091 ls (.int (nI 3) :: st) w Q := Wp.alu e170_1090 rfl rfl
theorem e170_1091 : decode (j_co 170) 1091 = .ok (.iadd, 1) := by decide +kernel
set_option maxRecDepth 20000 in
theorem w170_1091 {d : Nat} {st : List Value} {Q : Option Value × jW → Prop} {ls : jL} {w : jW} {a b : Int32} : Wp d 170 1091 ls (.int b :: .int a :: st) w Q = Wp d 170 1092 ls (.int (a + b) :: st) w Q := Wp.alu e170_1091 rfl rfl
theorem e170_1092 : decode (j_co 170) 1092 = .ok (.iaload, 1) := by decide +kernel
theorem w170_1092 {d k : Nat} {ls : jL} {st : List Value} {I : fI} {L : fL} {Q : Option Value × jW → Prop} {g : List Int32} (hk : k < g.length) (h31 : k < 2147483648) : Wp d 170 1092 ls (.int (nI k) :: .ref 0 :: st) (f_W (g.map Value.int) I L) Q = Wp d 170 1093 ls (.int (g.getD k 0) :: st) (f_W (g.map Value.int) I L) Q := Wp.iald0 e170_1092 hk h31
theorem e170_1093 : decode (j_co 170) 1093 = .ok (.invokevirtual 120, 3) := by decide +kernel
set_option maxRecDepth 20000 in
theorem w170_1093 {d : Nat} {st : List Value} {Q : Option Value × jW → Prop} {ls : jL} {xs : List Value} {I : fI} {L : fL} {r : Nat} {x0 : Int32} {x1 : Int32} {x2 : Int32} (hs : j_sumc st ≤ 8) (ht : f_tg r = 10) : Wp (d + 1) 170 1093 ls (.int x2 :: .int x1 :: .int x0 :: .ref r :: st) (f_W xs I L) Q = Wp d 101 0 [some (.ref r), some (.int x0), some (.int x1), some (.int x2)] [] (f_W xs I L) (fun r1 => Wp (d + 1) 170 1096 ls (r1.1.toList ++ st) r1.2 Q) := Wp.cv (y' := 101) (as := [.int x0, .int x1, .int x2]) e170_1093 rfl (by decide) rfl (show 4 ≤ 4 by decide) (by decide) hs ht
theorem e170_1096 : decode (j_co 170) 1096 = .ok (.aload_n 2, 1) := by decide +kernel
set_option maxRecDepth 20000 in
theorem w170_1096 {d : Nat} {st : List Value} {Q : Option Value × jW → Prop} {w : jW} {a0 a1 a3 : Option Value} {x : Nat} : Wp d 170 1096 [a0, a1, some (.ref x), a3] (st) w Q = Wp d 170 1097 [a0, a1, some (.ref x), a3] (.ref x :: st) w Q := Wp.loc e170_1096 rfl rfl rfl
theorem e170_1097 : decode (j_co 170) 1097 = .ok (.aload_n 0, 1) := by decide +kernel
set_option maxRecDepth 20000 in
theorem w170_1097 {d : Nat} {st : List Value} {Q : Option Value × jW → Prop} {w : jW} {a1 a2 a3 : Option Value} {x : Nat} : Wp d 170 1097 [some (.ref x), a1, a2, a3] (st) w Q = Wp d 170 1098 [some (.ref x), a1, a2, a3] (.ref x :: st) w Q := Wp.loc e170_1097 rfl rfl rfl
theorem e170_1098 : decode (j_co 170) 1098 = .ok (.iload_n 3, 1) := by decide +kernel
set_option maxRecDepth 20000 in
theorem w170_1098 {d : Nat} {st : List Value} {Q : Option Value × jW → Prop} {w : jW} {a0 a1 a2 : Option Value} {x : Int32} : Wp d 170 1098 [a0, a1, a2, some (.int x)] (st) w Q = Wp d 170 1099 [a0, a1, a2, some (.int x)] (.int x :: st) w Q := Wp.loc e170_1098 rfl rfl rfl
theorem e170_1099 : decode (j_co 170) 1099 = .ok (.iconst 1, 1) := by decide +kernel
set_option maxRecDepth 20000 in
theorem w170_1099 {d : Nat} {st : List Value} {Q : Option Value × jW → Prop} {ls : jL} {w : jW} : Wp d 170 1099 ls (st) w Q = Wp d 170 1100 ls (.int (nI 1) :: st) w Q := Wp.alu e170_1099 rfl rfl
theorem e170_1100 : decode (j_co 170) 1100 = .ok (.iadd, 1) := by decide +kernel
set_option maxRecDepth 20000 in
theorem w170_1100 {d : Nat} {st : List Value} {Q : Option Value × jW → Prop} {ls : jL} {w : jW} {a b : Int32} : Wp d 170 1100 ls (.int b :: .int a :: st) w Q = Wp d 170 1101 ls (.int (a + b) :: st) w Q := Wp.alu e170_1100 rfl rfl
theorem e170_1101 : decode (j_co 170) 1101 = .ok (.iaload, 1) := by decide +kernel
theorem w170_1101 {d k : Nat} {ls : jL} {st : List Value} {I : fI} {L : fL} {Q : Option Value × jW → Prop} {g : List Int32} (hk : k < g.length) (h31 : k < 2147483648) : Wp d 170 1101 ls (.int (nI k) :: .ref 0 :: st) (f_W (g.map Value.int) I L) Q = Wp d 170 1102 ls (.int (g.getD k 0) :: st) (f_W (g.map Value.int) I L) Q := Wp.iald0 e170_1101 hk h31
theorem e170_1102 : decode (j_co 170) 1102 = .ok (.aload_n 0, 1) := by decide +kernel
set_option maxRecDepth 20000 in
theorem w170_1102 {d : Nat} {st : List Value} {Q : Option Value × jW → Prop} {w : jW} {a1 a2 a3 : Option Value} {x : Nat} : Wp d 170 1102 [some (.ref x), a1, a2, a3] (st) w Q = Wp d 170 1103 [some (.ref x), a1, a2, a3] (.ref x :: st) w Q := Wp.loc e170_1102 rfl rfl rfl
theorem e170_1103 : decode (j_co 170) 1103 = .ok (.iload_n 3, 1) := by decide +kernel
set_option maxRecDepth 20000 in
theorem w170_1103 {d : Nat} {st : List Value} {Q : Option Value × jW → Prop} {w : jW} {a0 a1 a2 : Option Value} {x : Int32} : Wp d 170 1103 [a0, a1, a2, some (.int x)] (st) w Q = Wp d 170 1104 [a0, a1, a2, some (.int x)] (.int x :: st) w Q := Wp.loc e170_1103 rfl rfl rfl
theorem e170_1104 : decode (j_co 170) 1104 = .ok (.iconst 2, 1) := by decide +kernel
set_option maxRecDepth 20000 in
theorem w170_1104 {d : Nat} {st : List Value} {Q : Option Value × jW → Prop} {ls : jL} {w : jW} : Wp d 170 1104 ls (st) w Q = Wp d 170 1105 ls (.int (nI 2) :: st) w Q := Wp.alu e170_1104 rfl rfl
theorem e170_1105 : decode (j_co 170) 1105 = .ok (.iadd, 1) := by decide +kernel
set_option maxRecDepth 20000 in
theorem w170_1105 {d : Nat} {st : List Value} {Q : Option Value × jW → Prop} {ls : jL} {w : jW} {a b : Int32} : Wp d 170 1105 ls (.int b :: .int a :: st) w Q = Wp d 170 1106 ls (.int (a + b) :: st) w Q := Wp.alu e170_1105 rfl rfl
theorem e170_1106 : decode (j_co 170) 1106 = .ok (.iaload, 1) := by decide +kernel
theorem w170_1106 {d k : Nat} {ls : jL} {st : List Value} {I : fI} {L : fL} {Q : Option Value × jW → Prop} {g : List Int32} (hk : k < g.length) (h31 : k < 2147483648) : Wp d 170 1106 ls (.int (nI k) :: .ref 0 :: st) (f_W (g.map Value.int) I L) Q = Wp d 170 1107 ls (.int (g.getD k 0) :: st) (f_W (g.map Value.int) I L) Q := Wp.iald0 e170_1106 hk h31
theorem e170_1107 : decode (j_co 170) 1107 = .ok (.aload_n 0, 1) := by decide +kernel
set_option maxRecDepth 20000 in
theorem w170_1107 {d : Nat} {st : List Value} {Q : Option Value × jW → Prop} {w : jW} {a1 a2 a3 : Option Value} {x : Nat} : Wp d 170 1107 [some (.ref x), a1, a2, a3] (st) w Q = Wp d 170 1108 [some (.ref x), a1, a2, a3] (.ref x :: st) w Q := Wp.loc e170_1107 rfl rfl rfl
theorem e170_1108 : decode (j_co 170) 1108 = .ok (.iload_n 3, 1) := by decide +kernel
set_option maxRecDepth 20000 in
theorem w170_1108 {d : Nat} {st : List Value} {Q : Option Value × jW → Prop} {w : jW} {a0 a1 a2 : Option Value} {x : Int32} : Wp d 170 1108 [a0, a1, a2, some (.int x)] (st) w Q = Wp d 170 1109 [a0, a1, a2, some (.int x)] (.int x :: st) w Q := Wp.loc e170_1108 rfl rfl rfl
theorem e170_1109 : decode (j_co 170) 1109 = .ok (.iconst 3, 1) := by decide +kernel
set_option maxRecDepth 20000 in
theorem w170_1109 {d : Nat} {st : List Value} {Q : Option Value × jW → Prop} {ls : jL} {w : jW} : Wp d 170 1109 ls (st) w Q = Wp d 170 1110 ls (.int (nI 3) :: st) w Q := Wp.alu e170_1109 rfl rfl
theorem e170_1110 : decode (j_co 170) 1110 = .ok (.iadd, 1) := by decide +kernel
set_option maxRecDepth 20000 in
theorem w170_1110 {d : Nat} {st : List Value} {Q : Option Value × jW → Prop} {ls : jL} {w : jW} {a b : Int32} : Wp d 170 1110 ls (.int b :: .int a :: st) w Q = Wp d 170 1111 ls (.int (a + b) :: st) w Q := Wp.alu e170_1110 rfl rfl
theorem e170_1111 : decode (j_co 170) 1111 = .ok (.iaload, 1) := by decide +kernel
theorem w170_1111 {d k : Nat} {ls : jL} {st : List Value} {I : fI} {L : fL} {Q : Option Value × jW → Prop} {g : List Int32} (hk : k < g.length) (h31 : k < 2147483648) : Wp d 170 1111 ls (.int (nI k) :: .ref 0 :: st) (f_W (g.map Value.int) I L) Q = Wp d 170 1112 ls (.int (g.getD k 0) :: st) (f_W (g.map Value.int) I L) Q := Wp.iald0 e170_1111 hk h31
theorem e170_1112 : decode (j_co 170) 1112 = .ok (.invokevirtual 123, 3) := by decide +kernel
set_option maxRecDepth 20000 in
theorem w170_1112 {d : Nat} {st : List Value} {Q : Option Value × jW → Prop} {ls : jL} {xs : List Value} {I : fI} {L : fL} {r : Nat} {x0 : Int32} {x1 : Int32} {x2 : Int32} (hs : j_sumc st ≤ 8) (ht : f_tg r = 11) : Wp (d + 1) 170 1112 ls (.int x2 :: .int x1 :: .int x0 :: .ref r :: st) (f_W xs I L) Q = Wp d 167 0 [some (.ref r), some (.int x0), some (.int x1), some (.int x2)] [] (f_W xs I L) (fun r1 => Wp (d + 1) 170 1115 ls (r1.1.toList ++ st) r1.2 Q) := Wp.cv (y' := 167) (as := [.int x0, .int x1, .int x2]) e170_1112 rfl (by decide) rfl (show 4 ≤ 4 by decide) (by decide) hs ht
theorem e170_1115 : decode (j_co 170) 1115 = .ok (.if_icmp .eq 91, 3) := by decide +kernel
set_option maxRecDepth 20000 in
theorem w170_1115 {d : Nat} {st : List Value} {Q : Option Value × jW → Prop} {ls : jL} {w : jW} {a b : Int32} : Wp d 170 1115 ls (.int b :: .int a :: st) w Q = ((a = b → Wp d 170 1206 ls st w Q) ∧ (¬ a = b → Wp d 170 1118 ls st w Q)) := Wp.if2 (c := a = b) (off := 91) e170_1115 rfl rfl rfl rfl rfl
theorem e170_1118 : decode (j_co 170) 1118 = .ok (.iconst 0, 1) := by decide +kernel
set_option maxRecDepth 20000 in
theorem w170_1118 {d : Nat} {st : List Value} {Q : Option Value × jW → Prop} {ls : jL} {w : jW} : Wp d 170 1118 ls (st) w Q = Wp d 170 1119 ls (.int (nI 0) :: st) w Q := Wp.alu e170_1118 rfl rfl
theorem e170_1119 : decode (j_co 170) 1119 = .ok (.ireturn, 1) := by decide +kernel
set_option maxRecDepth 20000 in
theorem w170_1119 {d : Nat} {Q : Option Value × jW → Prop} {ls : jL} {w : jW} {x : Int32} (hx : x = 0 ∨ x = 1) : Wp d 170 1119 ls [.int x] w Q = Q (some (.int x), w) := Wp.ret e170_1119 (by rcases hx with rfl | rfl <;> rfl)
theorem e170_1120 : decode (j_co 170) 1120 = .ok (.aload_n 1, 1) := by decide +kernel
set_option maxRecDepth 20000 in
theorem w170_1120 {d : Nat} {st : List Value} {Q : Option Value × jW → Prop} {w : jW} {a0 a2 a3 : Option Value} {x : Nat} : Wp d 170 1120 [a0, some (.ref x), a2, a3] (st) w Q = Wp d 170 1121 [a0, some (.ref x), a2, a3] (.ref x :: st) w Q := Wp.loc e170_1120 rfl rfl rfl
theorem e170_1121 : decode (j_co 170) 1121 = .ok (.aload_n 0, 1) := by decide +kernel
set_option maxRecDepth 20000 in
theorem w170_1121 {d : Nat} {st : List Value} {Q : Option Value × jW → Prop} {w : jW} {a1 a2 a3 : Option Value} {x : Nat} : Wp d 170 1121 [some (.ref x), a1, a2, a3] (st) w Q = Wp d 170 1122 [some (.ref x), a1, a2, a3] (.ref x :: st) w Q := Wp.loc e170_1121 rfl rfl rfl
theorem e170_1122 : decode (j_co 170) 1122 = .ok (.iload_n 3, 1) := by decide +kernel
set_option maxRecDepth 20000 in
theorem w170_1122 {d : Nat} {st : List Value} {Q : Option Value × jW → Prop} {w : jW} {a0 a1 a2 : Option Value} {x : Int32} : Wp d 170 1122 [a0, a1, a2, some (.int x)] (st) w Q = Wp d 170 1123 [a0, a1, a2, some (.int x)] (.int x :: st) w Q := Wp.loc e170_1122 rfl rfl rfl
theorem e170_1123 : decode (j_co 170) 1123 = .ok (.iconst 1, 1) := by decide +kernel
set_option maxRecDepth 20000 in
theorem w170_1123 {d : Nat} {st : List Value} {Q : Option Value × jW → Prop} {ls : jL} {w : jW} : Wp d 170 1123 ls (st) w Q = Wp d 170 1124 ls (.int (nI 1) :: st) w Q := Wp.alu e170_1123 rfl rfl
theorem e170_1124 : decode (j_co 170) 1124 = .ok (.iadd, 1) := by decide +kernel
set_option maxRecDepth 20000 in
theorem w170_1124 {d : Nat} {st : List Value} {Q : Option Value × jW → Prop} {ls : jL} {w : jW} {a b : Int32} : Wp d 170 1124 ls (.int b :: .int a :: st) w Q = Wp d 170 1125 ls (.int (a + b) :: st) w Q := Wp.alu e170_1124 rfl rfl
theorem e170_1125 : decode (j_co 170) 1125 = .ok (.iaload, 1) := by decide +kernel
theorem w170_1125 {d k : Nat} {ls : jL} {st : List Value} {I : fI} {L : fL} {Q : Option Value × jW → Prop} {g : List Int32} (hk : k < g.length) (h31 : k < 2147483648) : Wp d 170 1125 ls (.int (nI k) :: .ref 0 :: st) (f_W (g.map Value.int) I L) Q = Wp d 170 1126 ls (.int (g.getD k 0) :: st) (f_W (g.map Value.int) I L) Q := Wp.iald0 e170_1125 hk h31
theorem e170_1126 : decode (j_co 170) 1126 = .ok (.aload_n 0, 1) := by decide +kernel
set_option maxRecDepth 20000 in
theorem w170_1126 {d : Nat} {st : List Value} {Q : Option Value × jW → Prop} {w : jW} {a1 a2 a3 : Option Value} {x : Nat} : Wp d 170 1126 [some (.ref x), a1, a2, a3] (st) w Q = Wp d 170 1127 [some (.ref x), a1, a2, a3] (.ref x :: st) w Q := Wp.loc e170_1126 rfl rfl rfl
theorem e170_1127 : decode (j_co 170) 1127 = .ok (.iload_n 3, 1) := by decide +kernel
set_option maxRecDepth 20000 in
theorem w170_1127 {d : Nat} {st : List Value} {Q : Option Value × jW → Prop} {w : jW} {a0 a1 a2 : Option Value} {x : Int32} : Wp d 170 1127 [a0, a1, a2, some (.int x)] (st) w Q = Wp d 170 1128 [a0, a1, a2, some (.int x)] (.int x :: st) w Q := Wp.loc e170_1127 rfl rfl rfl
theorem e170_1128 : decode (j_co 170) 1128 = .ok (.iconst 2, 1) := by decide +kernel
set_option maxRecDepth 20000 in
theorem w170_1128 {d : Nat} {st : List Value} {Q : Option Value × jW → Prop} {ls : jL} {w : jW} : Wp d 170 1128 ls (st) w Q = Wp d 170 1129 ls (.int (nI 2) :: st) w Q := Wp.alu e170_1128 rfl rfl
theorem e170_1129 : decode (j_co 170) 1129 = .ok (.iadd, 1) := by decide +kernel
set_option maxRecDepth 20000 in
theorem w170_1129 {d : Nat} {st : List Value} {Q : Option Value × jW → Prop} {ls : jL} {w : jW} {a b : Int32} : Wp d 170 1129 ls (.int b :: .int a :: st) w Q = Wp d 170 1130 ls (.int (a + b) :: st) w Q := Wp.alu e170_1129 rfl rfl
theorem e170_1130 : decode (j_co 170) 1130 = .ok (.iaload, 1) := by decide +kernel
theorem w170_1130 {d k : Nat} {ls : jL} {st : List Value} {I : fI} {L : fL} {Q : Option Value × jW → Prop} {g : List Int32} (hk : k < g.length) (h31 : k < 2147483648) : Wp d 170 1130 ls (.int (nI k) :: .ref 0 :: st) (f_W (g.map Value.int) I L) Q = Wp d 170 1131 ls (.int (g.getD k 0) :: st) (f_W (g.map Value.int) I L) Q := Wp.iald0 e170_1130 hk h31
theorem e170_1131 : decode (j_co 170) 1131 = .ok (.aload_n 0, 1) := by decide +kernel
set_option maxRecDepth 20000 in
theorem w170_1131 {d : Nat} {st : List Value} {Q : Option Value × jW → Prop} {w : jW} {a1 a2 a3 : Option Value} {x : Nat} : Wp d 170 1131 [some (.ref x), a1, a2, a3] (st) w Q = Wp d 170 1132 [some (.ref x), a1, a2, a3] (.ref x :: st) w Q := Wp.loc e170_1131 rfl rfl rfl
theorem e170_1132 : decode (j_co 170) 1132 = .ok (.iload_n 3, 1) := by decide +kernel
set_option maxRecDepth 20000 in
theorem w170_1132 {d : Nat} {st : List Value} {Q : Option Value × jW → Prop} {w : jW} {a0 a1 a2 : Option Value} {x : Int32} : Wp d 170 1132 [a0, a1, a2, some (.int x)] (st) w Q = Wp d 170 1133 [a0, a1, a2, some (.int x)] (.int x :: st) w Q := Wp.loc e170_1132 rfl rfl rfl
theorem e170_1133 : decode (j_co 170) 1133 = .ok (.iconst 3, 1) := by decide +kernel
set_option maxRecDepth 20000 in
theorem w170_1133 {d : Nat} {st : List Value} {Q : Option Value × jW → Prop} {ls : jL} {w : jW} : Wp d 170 1133 ls (st) w Q = Wp d 170 1134 ls (.int (nI 3) :: st) w Q := Wp.alu e170_1133 rfl rfl
theorem e170_1134 : decode (j_co 170) 1134 = .ok (.iadd, 1) := by decide +kernel
set_option maxRecDepth 20000 in
theorem w170_1134 {d : Nat} {st : List Value} {Q : Option Value × jW → Prop} {ls : jL} {w : jW} {a b : Int32} : Wp d 170 1134 ls (.int b :: .int a :: st) w Q = Wp d 170 1135 ls (.int (a + b) :: st) w Q := Wp.alu e170_1134 rfl rfl
theorem e170_1135 : decode (j_co 170) 1135 = .ok (.iaload, 1) := by decide +kernel
theorem w170_1135 {d k : Nat} {ls : jL} {st : List Value} {I : fI} {L : fL} {Q : Option Value × jW → Prop} {g : List Int32} (hk : k < g.length) (h31 : k < 2147483648) : Wp d 170 1135 ls (.int (nI k) :: .ref 0 :: st) (f_W (g.map Value.int) I L) Q = Wp d 170 1136 ls (.int (g.getD k 0) :: st) (f_W (g.map Value.int) I L) Q := Wp.iald0 e170_1135 hk h31
theorem e170_1136 : decode (j_co 170) 1136 = .ok (.aload_n 0, 1) := by decide +kernel
set_option maxRecDepth 20000 in
theorem w170_1136 {d : Nat} {st : List Value} {Q : Option Value × jW → Prop} {w : jW} {a1 a2 a3 : Option Value} {x : Nat} : Wp d 170 1136 [some (.ref x), a1, a2, a3] (st) w Q = Wp d 170 1137 [some (.ref x), a1, a2, a3] (.ref x :: st) w Q := Wp.loc e170_1136 rfl rfl rfl
theorem e170_1137 : decode (j_co 170) 1137 = .ok (.iload_n 3, 1) := by decide +kernel
set_option maxRecDepth 20000 in
theorem w170_1137 {d : Nat} {st : List Value} {Q : Option Value × jW → Prop} {w : jW} {a0 a1 a2 : Option Value} {x : Int32} : Wp d 170 1137 [a0, a1, a2, some (.int x)] (st) w Q = Wp d 170 1138 [a0, a1, a2, some (.int x)] (.int x :: st) w Q := Wp.loc e170_1137 rfl rfl rfl
theorem e170_1138 : decode (j_co 170) 1138 = .ok (.iconst 4, 1) := by decide +kernel
set_option maxRecDepth 20000 in
theorem w170_1138 {d : Nat} {st : List Value} {Q : Option Value × jW → Prop} {ls : jL} {w : jW} : Wp d 170 1138 ls (st) w Q = Wp d 170 1139 ls (.int (nI 4) :: st) w Q := Wp.alu e170_1138 rfl rfl
theorem e170_1139 : decode (j_co 170) 1139 = .ok (.iadd, 1) := by decide +kernel
set_option maxRecDepth 20000 in
theorem w170_1139 {d : Nat} {st : List Value} {Q : Option Value × jW → Prop} {ls : jL} {w : jW} {a b : Int32} : Wp d 170 1139 ls (.int b :: .int a :: st) w Q = Wp d 170 1140 ls (.int (a + b) :: st) w Q := Wp.alu e170_1139 rfl rfl
theorem e170_1140 : decode (j_co 170) 1140 = .ok (.iaload, 1) := by decide +kernel
theorem w170_1140 {d k : Nat} {ls : jL} {st : List Value} {I : fI} {L : fL} {Q : Option Value × jW → Prop} {g : List Int32} (hk : k < g.length) (h31 : k < 2147483648) : Wp d 170 1140 ls (.int (nI k) :: .ref 0 :: st) (f_W (g.map Value.int) I L) Q = Wp d 170 1141 ls (.int (g.getD k 0) :: st) (f_W (g.map Value.int) I L) Q := Wp.iald0 e170_1140 hk h31
theorem e170_1141 : decode (j_co 170) 1141 = .ok (.aload_n 0, 1) := by decide +kernel
set_option maxRecDepth 20000 in
theorem w170_1141 {d : Nat} {st : List Value} {Q : Option Value × jW → Prop} {w : jW} {a1 a2 a3 : Option Value} {x : Nat} : Wp d 170 1141 [some (.ref x), a1, a2, a3] (st) w Q = Wp d 170 1142 [some (.ref x), a1, a2, a3] (.ref x :: st) w Q := Wp.loc e170_1141 rfl rfl rfl
theorem e170_1142 : decode (j_co 170) 1142 = .ok (.iload_n 3, 1) := by decide +kernel
set_option maxRecDepth 20000 in
theorem w170_1142 {d : Nat} {st : List Value} {Q : Option Value × jW → Prop} {w : jW} {a0 a1 a2 : Option Value} {x : Int32} : Wp d 170 1142 [a0, a1, a2, some (.int x)] (st) w Q = Wp d 170 1143 [a0, a1, a2, some (.int x)] (.int x :: st) w Q := Wp.loc e170_1142 rfl rfl rfl
theorem e170_1143 : decode (j_co 170) 1143 = .ok (.iconst 5, 1) := by decide +kernel
set_option maxRecDepth 20000 in
theorem w170_1143 {d : Nat} {st : List Value} {Q : Option Value × jW → Prop} {ls : jL} {w : jW} : Wp d 170 1143 ls (st) w Q = Wp d 170 1144 ls (.int (nI 5) :: st) w Q := Wp.alu e170_1143 rfl rfl
theorem e170_1144 : decode (j_co 170) 1144 = .ok (.iadd, 1) := by decide +kernel
set_option maxRecDepth 20000 in
theorem w170_1144 {d : Nat} {st : List Value} {Q : Option Value × jW → Prop} {ls : jL} {w : jW} {a b : Int32} : Wp d 170 1144 ls (.int b :: .int a :: st) w Q = Wp d 170 1145 ls (.int (a + b) :: st) w Q := Wp.alu e170_1144 rfl rfl
theorem e170_1145 : decode (j_co 170) 1145 = .ok (.iaload, 1) := by decide +kernel
theorem w170_1145 {d k : Nat} {ls : jL} {st : List Value} {I : fI} {L : fL} {Q : Option Value × jW → Prop} {g : List Int32} (hk : k < g.length) (h31 : k < 2147483648) : Wp d 170 1145 ls (.int (nI k) :: .ref 0 :: st) (f_W (g.map Value.int) I L) Q = Wp d 170 1146 ls (.int (g.getD k 0) :: st) (f_W (g.map Value.int) I L) Q := Wp.iald0 e170_1145 hk h31
theorem e170_1146 : decode (j_co 170) 1146 = .ok (.invokevirtual 124, 3) := by decide +kernel
set_option maxRecDepth 20000 in
theorem w170_1146 {d : Nat} {st : List Value} {Q : Option Value × jW → Prop} {ls : jL} {xs : List Value} {I : fI} {L : fL} {r : Nat} {x0 : Int32} {x1 : Int32} {x2 : Int32} {x3 : Int32} {x4 : Int32} (hs : j_sumc st ≤ 8) (ht : f_tg r = 10) : Wp (d + 1) 170 1146 ls (.int x4 :: .int x3 :: .int x2 :: .int x1 :: .int x0 :: .ref r :: st) (f_W xs I L) Q = Wp d 105 0 [some (.ref r), some (.int x0), some (.int x1), some (.int x2), some (.int x3), some (.int x4), none, none] [] (f_W xs I L) (fun r1 => Wp (d + 1) 170 1149 ls (r1.1.toList ++ st) r1.2 Q) := Wp.cv (y' := 105) (as := [.int x0, .int x1, .int x2, .int x3, .int x4]) e170_1146 rfl (by decide) rfl (show 6 ≤ 8 by decide) (by decide) hs ht
theorem e170_1149 : decode (j_co 170) 1149 = .ok (.aload_n 2, 1) := by decide +kernel
set_option maxRecDepth 20000 in
theorem w170_1149 {d : Nat} {st : List Value} {Q : Option Value × jW → Prop} {w : jW} {a0 a1 a3 : Option Value} {x : Nat} : Wp d 170 1149 [a0, a1, some (.ref x), a3] (st) w Q = Wp d 170 1150 [a0, a1, some (.ref x), a3] (.ref x :: st) w Q := Wp.loc e170_1149 rfl rfl rfl
theorem e170_1150 : decode (j_co 170) 1150 = .ok (.aload_n 0, 1) := by decide +kernel
set_option maxRecDepth 20000 in
theorem w170_1150 {d : Nat} {st : List Value} {Q : Option Value × jW → Prop} {w : jW} {a1 a2 a3 : Option Value} {x : Nat} : Wp d 170 1150 [some (.ref x), a1, a2, a3] (st) w Q = Wp d 170 1151 [some (.ref x), a1, a2, a3] (.ref x :: st) w Q := Wp.loc e170_1150 rfl rfl rfl
theorem e170_1151 : decode (j_co 170) 1151 = .ok (.iload_n 3, 1) := by decide +kernel
set_option maxRecDepth 20000 in
theorem w170_1151 {d : Nat} {st : List Value} {Q : Option Value × jW → Prop} {w : jW} {a0 a1 a2 : Option Value} {x : Int32} : Wp d 170 1151 [a0, a1, a2, some (.int x)] (st) w Q = Wp d 170 1152 [a0, a1, a2, some (.int x)] (.int x :: st) w Q := Wp.loc e170_1151 rfl rfl rfl
theorem e170_1152 : decode (j_co 170) 1152 = .ok (.iconst 1, 1) := by decide +kernel
set_option maxRecDepth 20000 in
theorem w170_1152 {d : Nat} {st : List Value} {Q : Option Value × jW → Prop} {ls : jL} {w : jW} : Wp d 170 1152 ls (st) w Q = Wp d 170 1153 ls (.int (nI 1) :: st) w Q := Wp.alu e170_1152 rfl rfl
theorem e170_1153 : decode (j_co 170) 1153 = .ok (.iadd, 1) := by decide +kernel
set_option maxRecDepth 20000 in
theorem w170_1153 {d : Nat} {st : List Value} {Q : Option Value × jW → Prop} {ls : jL} {w : jW} {a b : Int32} : Wp d 170 1153 ls (.int b :: .int a :: st) w Q = Wp d 170 1154 ls (.int (a + b) :: st) w Q := Wp.alu e170_1153 rfl rfl
theorem e170_1154 : decode (j_co 170) 1154 = .ok (.iaload, 1) := by decide +kernel
theorem w170_1154 {d k : Nat} {ls : jL} {st : List Value} {I : fI} {L : fL} {Q : Option Value × jW → Prop} {g : List Int32} (hk : k < g.length) (h31 : k < 2147483648) : Wp d 170 1154 ls (.int (nI k) :: .ref 0 :: st) (f_W (g.map Value.int) I L) Q = Wp d 170 1155 ls (.int (g.getD k 0) :: st) (f_W (g.map Value.int) I L) Q := Wp.iald0 e170_1154 hk h31
theorem e170_1155 : decode (j_co 170) 1155 = .ok (.aload_n 0, 1) := by decide +kernel
set_option maxRecDepth 20000 in
theorem w170_1155 {d : Nat} {st : List Value} {Q : Option Value × jW → Prop} {w : jW} {a1 a2 a3 : Option Value} {x : Nat} : Wp d 170 1155 [some (.ref x), a1, a2, a3] (st) w Q = Wp d 170 1156 [some (.ref x), a1, a2, a3] (.ref x :: st) w Q := Wp.loc e170_1155 rfl rfl rfl
theorem e170_1156 : decode (j_co 170) 1156 = .ok (.iload_n 3, 1) := by decide +kernel
set_option maxRecDepth 20000 in
theorem w170_1156 {d : Nat} {st : List Value} {Q : Option Value × jW → Prop} {w : jW} {a0 a1 a2 : Option Value} {x : Int32} : Wp d 170 1156 [a0, a1, a2, some (.int x)] (st) w Q = Wp d 170 1157 [a0, a1, a2, some (.int x)] (.int x :: st) w Q := Wp.loc e170_1156 rfl rfl rfl
theorem e170_1157 : decode (j_co 170) 1157 = .ok (.iconst 2, 1) := by decide +kernel
set_option maxRecDepth 20000 in
theorem w170_1157 {d : Nat} {st : List Value} {Q : Option Value × jW → Prop} {ls : jL} {w : jW} : Wp d 170 1157 ls (st) w Q = Wp d 170 1158 ls (.int (nI 2) :: st) w Q := Wp.alu e170_1157 rfl rfl
theorem e170_1158 : decode (j_co 170) 1158 = .ok (.iadd, 1) := by decide +kernel
set_option maxRecDepth 20000 in
theorem w170_1158 {d : Nat} {st : List Value} {Q : Option Value × jW → Prop} {ls : jL} {w : jW} {a b : Int32} : Wp d 170 1158 ls (.int b :: .int a :: st) w Q = Wp d 170 1159 ls (.int (a + b) :: st) w Q := Wp.alu e170_1158 rfl rfl
theorem e170_1159 : decode (j_co 170) 1159 = .ok (.iaload, 1) := by decide +kernel
theorem w170_1159 {d k : Nat} {ls : jL} {st : List Value} {I : fI} {L : fL} {Q : Option Value × jW → Prop} {g : List Int32} (hk : k < g.length) (h31 : k < 2147483648) : Wp d 170 1159 ls (.int (nI k) :: .ref 0 :: st) (f_W (g.map Value.int) I L) Q = Wp d 170 1160 ls (.int (g.getD k 0) :: st) (f_W (g.map Value.int) I L) Q := Wp.iald0 e170_1159 hk h31
theorem e170_1160 : decode (j_co 170) 1160 = .ok (.aload_n 0, 1) := by decide +kernel
set_option maxRecDepth 20000 in
theorem w170_1160 {d : Nat} {st : List Value} {Q : Option Value × jW → Prop} {w : jW} {a1 a2 a3 : Option Value} {x : Nat} : Wp d 170 1160 [some (.ref x), a1, a2, a3] (st) w Q = Wp d 170 1161 [some (.ref x), a1, a2, a3] (.ref x :: st) w Q := Wp.loc e170_1160 rfl rfl rfl
theorem e170_1161 : decode (j_co 170) 1161 = .ok (.iload_n 3, 1) := by decide +kernel
set_option maxRecDepth 20000 in
theorem w170_1161 {d : Nat} {st : List Value} {Q : Option Value × jW → Prop} {w : jW} {a0 a1 a2 : Option Value} {x : Int32} : Wp d 170 1161 [a0, a1, a2, some (.int x)] (st) w Q = Wp d 170 1162 [a0, a1, a2, some (.int x)] (.int x :: st) w Q := Wp.loc e170_1161 rfl rfl rfl
theorem e170_1162 : decode (j_co 170) 1162 = .ok (.iconst 3, 1) := by decide +kernel
set_option maxRecDepth 20000 in
theorem w170_1162 {d : Nat} {st : List Value} {Q : Option Value × jW → Prop} {ls : jL} {w : jW} : Wp d 170 1162 ls (st) w Q = Wp d 170 1163 ls (.int (nI 3) :: st) w Q := Wp.alu e170_1162 rfl rfl
theorem e170_1163 : decode (j_co 170) 1163 = .ok (.iadd, 1) := by decide +kernel
set_option maxRecDepth 20000 in
theorem w170_1163 {d : Nat} {st : List Value} {Q : Option Value × jW → Prop} {ls : jL} {w : jW} {a b : Int32} : Wp d 170 1163 ls (.int b :: .int a :: st) w Q = Wp d 170 1164 ls (.int (a + b) :: st) w Q := Wp.alu e170_1163 rfl rfl
theorem e170_1164 : decode (j_co 170) 1164 = .ok (.iaload, 1) := by decide +kernel
theorem w170_1164 {d k : Nat} {ls : jL} {st : List Value} {I : fI} {L : fL} {Q : Option Value × jW → Prop} {g : List Int32} (hk : k < g.length) (h31 : k < 2147483648) : Wp d 170 1164 ls (.int (nI k) :: .ref 0 :: st) (f_W (g.map Value.int) I L) Q = Wp d 170 1165 ls (.int (g.getD k 0) :: st) (f_W (g.map Value.int) I L) Q := Wp.iald0 e170_1164 hk h31
theorem e170_1165 : decode (j_co 170) 1165 = .ok (.aload_n 0, 1) := by decide +kernel
set_option maxRecDepth 20000 in
theorem w170_1165 {d : Nat} {st : List Value} {Q : Option Value × jW → Prop} {w : jW} {a1 a2 a3 : Option Value} {x : Nat} : Wp d 170 1165 [some (.ref x), a1, a2, a3] (st) w Q = Wp d 170 1166 [some (.ref x), a1, a2, a3] (.ref x :: st) w Q := Wp.loc e170_1165 rfl rfl rfl
theorem e170_1166 : decode (j_co 170) 1166 = .ok (.iload_n 3, 1) := by decide +kernel
set_option maxRecDepth 20000 in
theorem w170_1166 {d : Nat} {st : List Value} {Q : Option Value × jW → Prop} {w : jW} {a0 a1 a2 : Option Value} {x : Int32} : Wp d 170 1166 [a0, a1, a2, some (.int x)] (st) w Q = Wp d 170 1167 [a0, a1, a2, some (.int x)] (.int x :: st) w Q := Wp.loc e170_1166 rfl rfl rfl
theorem e170_1167 : decode (j_co 170) 1167 = .ok (.iconst 4, 1) := by decide +kernel
set_option maxRecDepth 20000 in
theorem w170_1167 {d : Nat} {st : List Value} {Q : Option Value × jW → Prop} {ls : jL} {w : jW} : Wp d 170 1167 ls (st) w Q = Wp d 170 1168 ls (.int (nI 4) :: st) w Q := Wp.alu e170_1167 rfl rfl
theorem e170_1168 : decode (j_co 170) 1168 = .ok (.iadd, 1) := by decide +kernel
set_option maxRecDepth 20000 in
theorem w170_1168 {d : Nat} {st : List Value} {Q : Option Value × jW → Prop} {ls : jL} {w : jW} {a b : Int32} : Wp d 170 1168 ls (.int b :: .int a :: st) w Q = Wp d 170 1169 ls (.int (a + b) :: st) w Q := Wp.alu e170_1168 rfl rfl
theorem e170_1169 : decode (j_co 170) 1169 = .ok (.iaload, 1) := by decide +kernel
theorem w170_1169 {d k : Nat} {ls : jL} {st : List Value} {I : fI} {L : fL} {Q : Option Value × jW → Prop} {g : List Int32} (hk : k < g.length) (h31 : k < 2147483648) : Wp d 170 1169 ls (.int (nI k) :: .ref 0 :: st) (f_W (g.map Value.int) I L) Q = Wp d 170 1170 ls (.int (g.getD k 0) :: st) (f_W (g.map Value.int) I L) Q := Wp.iald0 e170_1169 hk h31
theorem e170_1170 : decode (j_co 170) 1170 = .ok (.aload_n 0, 1) := by decide +kernel
set_option maxRecDepth 20000 in
theorem w170_1170 {d : Nat} {st : List Value} {Q : Option Value × jW → Prop} {w : jW} {a1 a2 a3 : Option Value} {x : Nat} : Wp d 170 1170 [some (.ref x), a1, a2, a3] (st) w Q = Wp d 170 1171 [some (.ref x), a1, a2, a3] (.ref x :: st) w Q := Wp.loc e170_1170 rfl rfl rfl
theorem e170_1171 : decode (j_co 170) 1171 = .ok (.iload_n 3, 1) := by decide +kernel
set_option maxRecDepth 20000 in
theorem w170_1171 {d : Nat} {st : List Value} {Q : Option Value × jW → Prop} {w : jW} {a0 a1 a2 : Option Value} {x : Int32} : Wp d 170 1171 [a0, a1, a2, some (.int x)] (st) w Q = Wp d 170 1172 [a0, a1, a2, some (.int x)] (.int x :: st) w Q := Wp.loc e170_1171 rfl rfl rfl
theorem e170_1172 : decode (j_co 170) 1172 = .ok (.iconst 5, 1) := by decide +kernel
set_option maxRecDepth 20000 in
theorem w170_1172 {d : Nat} {st : List Value} {Q : Option Value × jW → Prop} {ls : jL} {w : jW} : Wp d 170 1172 ls (st) w Q = Wp d 170 1173 ls (.int (nI 5) :: st) w Q := Wp.alu e170_1172 rfl rfl
theorem e170_1173 : decode (j_co 170) 1173 = .ok (.iadd, 1) := by decide +kernel
set_option maxRecDepth 20000 in
theorem w170_1173 {d : Nat} {st : List Value} {Q : Option Value × jW → Prop} {ls : jL} {w : jW} {a b : Int32} : Wp d 170 1173 ls (.int b :: .int a :: st) w Q = Wp d 170 1174 ls (.int (a + b) :: st) w Q := Wp.alu e170_1173 rfl rfl
theorem e170_1174 : decode (j_co 170) 1174 = .ok (.iaload, 1) := by decide +kernel
theorem w170_1174 {d k : Nat} {ls : jL} {st : List Value} {I : fI} {L : fL} {Q : Option Value × jW → Prop} {g : List Int32} (hk : k < g.length) (h31 : k < 2147483648) : Wp d 170 1174 ls (.int (nI k) :: .ref 0 :: st) (f_W (g.map Value.int) I L) Q = Wp d 170 1175 ls (.int (g.getD k 0) :: st) (f_W (g.map Value.int) I L) Q := Wp.iald0 e170_1174 hk h31
theorem e170_1175 : decode (j_co 170) 1175 = .ok (.invokevirtual 128, 3) := by decide +kernel
set_option maxRecDepth 20000 in
theorem w170_1175 {d : Nat} {st : List Value} {Q : Option Value × jW → Prop} {ls : jL} {xs : List Value} {I : fI} {L : fL} {r : Nat} {x0 : Int32} {x1 : Int32} {x2 : Int32} {x3 : Int32} {x4 : Int32} (hs : j_sumc st ≤ 8) (ht : f_tg r = 11) : Wp (d + 1) 170 1175 ls (.int x4 :: .int x3 :: .int x2 :: .int x1 :: .int x0 :: .ref r :: st) (f_W xs I L) Q = Wp d 168 0 [some (.ref r), some (.int x0), some (.int x1), some (.int x2), some (.int x3), some (.int x4), none, none, none] [] (f_W xs I L) (fun r1 => Wp (d + 1) 170 1178 ls (r1.1.toList ++ st) r1.2 Q) := Wp.cv (y' := 168) (as := [.int x0, .int x1, .int x2, .int x3, .int x4]) e170_1175 rfl (by decide) rfl (show 6 ≤ 9 by decide) (by decide) hs ht
theorem e170_1178 : decode (j_co 170) 1178 = .ok (.if_icmp .eq 28, 3) := by decide +kernel
set_option maxRecDepth 20000 in
theorem w170_1178 {d : Nat} {st : List Value} {Q : Option Value × jW → Prop} {ls : jL} {w : jW} {a b : Int32} : Wp d 170 1178 ls (.int b :: .int a :: st) w Q = ((a = b → Wp d 170 1206 ls st w Q) ∧ (¬ a = b → Wp d 170 1181 ls st w Q)) := Wp.if2 (c := a = b) (off := 28) e170_1178 rfl rfl rfl rfl rfl
theorem e170_1181 : decode (j_co 170) 1181 = .ok (.iconst 0, 1) := by decide +kernel
set_option maxRecDepth 20000 in
theorem w170_1181 {d : Nat} {st : List Value} {Q : Option Value × jW → Prop} {ls : jL} {w : jW} : Wp d 170 1181 ls (st) w Q = Wp d 170 1182 ls (.int (nI 0) :: st) w Q := Wp.alu e170_1181 rfl rfl
theorem e170_1182 : decode (j_co 170) 1182 = .ok (.ireturn, 1) := by decide +kernel
set_option maxRecDepth 20000 in
theorem w170_1182 {d : Nat} {Q : Option Value × jW → Prop} {ls : jL} {w : jW} {x : Int32} (hx : x = 0 ∨ x = 1) : Wp d 170 1182 ls [.int x] w Q = Q (some (.int x), w) := Wp.ret e170_1182 (by rcases hx with rfl | rfl <;> rfl)
theorem e170_1183 : decode (j_co 170) 1183 = .ok (.aload_n 1, 1) := by decide +kernel
set_option maxRecDepth 20000 in
theorem w170_1183 {d : Nat} {st : List Value} {Q : Option Value × jW → Prop} {w : jW} {a0 a2 a3 : Option Value} {x : Nat} : Wp d 170 1183 [a0, some (.ref x), a2, a3] (st) w Q = Wp d 170 1184 [a0, some (.ref x), a2, a3] (.ref x :: st) w Q := Wp.loc e170_1183 rfl rfl rfl
theorem e170_1184 : decode (j_co 170) 1184 = .ok (.aload_n 0, 1) := by decide +kernel
set_option maxRecDepth 20000 in
theorem w170_1184 {d : Nat} {st : List Value} {Q : Option Value × jW → Prop} {w : jW} {a1 a2 a3 : Option Value} {x : Nat} : Wp d 170 1184 [some (.ref x), a1, a2, a3] (st) w Q = Wp d 170 1185 [some (.ref x), a1, a2, a3] (.ref x :: st) w Q := Wp.loc e170_1184 rfl rfl rfl
theorem e170_1185 : decode (j_co 170) 1185 = .ok (.iload_n 3, 1) := by decide +kernel
set_option maxRecDepth 20000 in
theorem w170_1185 {d : Nat} {st : List Value} {Q : Option Value × jW → Prop} {w : jW} {a0 a1 a2 : Option Value} {x : Int32} : Wp d 170 1185 [a0, a1, a2, some (.int x)] (st) w Q = Wp d 170 1186 [a0, a1, a2, some (.int x)] (.int x :: st) w Q := Wp.loc e170_1185 rfl rfl rfl
theorem e170_1186 : decode (j_co 170) 1186 = .ok (.iconst 1, 1) := by decide +kernel
set_option maxRecDepth 20000 in
theorem w170_1186 {d : Nat} {st : List Value} {Q : Option Value × jW → Prop} {ls : jL} {w : jW} : Wp d 170 1186 ls (st) w Q = Wp d 170 1187 ls (.int (nI 1) :: st) w Q := Wp.alu e170_1186 rfl rfl
theorem e170_1187 : decode (j_co 170) 1187 = .ok (.iadd, 1) := by decide +kernel
set_option maxRecDepth 20000 in
theorem w170_1187 {d : Nat} {st : List Value} {Q : Option Value × jW → Prop} {ls : jL} {w : jW} {a b : Int32} : Wp d 170 1187 ls (.int b :: .int a :: st) w Q = Wp d 170 1188 ls (.int (a + b) :: st) w Q := Wp.alu e170_1187 rfl rfl
theorem e170_1188 : decode (j_co 170) 1188 = .ok (.iaload, 1) := by decide +kernel
theorem w170_1188 {d k : Nat} {ls : jL} {st : List Value} {I : fI} {L : fL} {Q : Option Value × jW → Prop} {g : List Int32} (hk : k < g.length) (h31 : k < 2147483648) : Wp d 170 1188 ls (.int (nI k) :: .ref 0 :: st) (f_W (g.map Value.int) I L) Q = Wp d 170 1189 ls (.int (g.getD k 0) :: st) (f_W (g.map Value.int) I L) Q := Wp.iald0 e170_1188 hk h31
theorem e170_1189 : decode (j_co 170) 1189 = .ok (.invokevirtual 129, 3) := by decide +kernel
set_option maxRecDepth 20000 in
theorem w170_1189 {d : Nat} {st : List Value} {Q : Option Value × jW → Prop} {ls : jL} {xs : List Value} {I : fI} {L : fL} {r : Nat} {x0 : Int32} (hs : j_sumc st ≤ 8) (ht : f_tg r = 10) : Wp (d + 1) 170 1189 ls (.int x0 :: .ref r :: st) (f_W xs I L) Q = Wp d 109 0 [some (.ref r), some (.int x0)] [] (f_W xs I L) (fun r1 => Wp (d + 1) 170 1192 ls (r1.1.toList ++ st) r1.2 Q) := Wp.cv (y' := 109) (as := [.int x0]) e170_1189 rfl (by decide) rfl (show 2 ≤ 2 by decide) (by decide) hs ht
theorem e170_1192 : decode (j_co 170) 1192 = .ok (.aload_n 2, 1) := by decide +kernel
set_option maxRecDepth 20000 in
theorem w170_1192 {d : Nat} {st : List Value} {Q : Option Value × jW → Prop} {w : jW} {a0 a1 a3 : Option Value} {x : Nat} : Wp d 170 1192 [a0, a1, some (.ref x), a3] (st) w Q = Wp d 170 1193 [a0, a1, some (.ref x), a3] (.ref x :: st) w Q := Wp.loc e170_1192 rfl rfl rfl
theorem e170_1193 : decode (j_co 170) 1193 = .ok (.aload_n 0, 1) := by decide +kernel
set_option maxRecDepth 20000 in
theorem w170_1193 {d : Nat} {st : List Value} {Q : Option Value × jW → Prop} {w : jW} {a1 a2 a3 : Option Value} {x : Nat} : Wp d 170 1193 [some (.ref x), a1, a2, a3] (st) w Q = Wp d 170 1194 [some (.ref x), a1, a2, a3] (.ref x :: st) w Q := Wp.loc e170_1193 rfl rfl rfl
theorem e170_1194 : decode (j_co 170) 1194 = .ok (.iload_n 3, 1) := by decide +kernel
set_option maxRecDepth 20000 in
theorem w170_1194 {d : Nat} {st : List Value} {Q : Option Value × jW → Prop} {w : jW} {a0 a1 a2 : Option Value} {x : Int32} : Wp d 170 1194 [a0, a1, a2, some (.int x)] (st) w Q = Wp d 170 1195 [a0, a1, a2, some (.int x)] (.int x :: st) w Q := Wp.loc e170_1194 rfl rfl rfl
theorem e170_1195 : decode (j_co 170) 1195 = .ok (.iconst 1, 1) := by decide +kernel
set_option maxRecDepth 20000 in
theorem w170_1195 {d : Nat} {st : List Value} {Q : Option Value × jW → Prop} {ls : jL} {w : jW} : Wp d 170 1195 ls (st) w Q = Wp d 170 1196 ls (.int (nI 1) :: st) w Q := Wp.alu e170_1195 rfl rfl
theorem e170_1196 : decode (j_co 170) 1196 = .ok (.iadd, 1) := by decide +kernel
set_option maxRecDepth 20000 in
theorem w170_1196 {d : Nat} {st : List Value} {Q : Option Value × jW → Prop} {ls : jL} {w : jW} {a b : Int32} : Wp d 170 1196 ls (.int b :: .int a :: st) w Q = Wp d 170 1197 ls (.int (a + b) :: st) w Q := Wp.alu e170_1196 rfl rfl
theorem e170_1197 : decode (j_co 170) 1197 = .ok (.iaload, 1) := by decide +kernel
theorem w170_1197 {d k : Nat} {ls : jL} {st : List Value} {I : fI} {L : fL} {Q : Option Value × jW → Prop} {g : List Int32} (hk : k < g.length) (h31 : k < 2147483648) : Wp d 170 1197 ls (.int (nI k) :: .ref 0 :: st) (f_W (g.map Value.int) I L) Q = Wp d 170 1198 ls (.int (g.getD k 0) :: st) (f_W (g.map Value.int) I L) Q := Wp.iald0 e170_1197 hk h31
theorem e170_1198 : decode (j_co 170) 1198 = .ok (.invokevirtual 132, 3) := by decide +kernel
set_option maxRecDepth 20000 in
theorem w170_1198 {d : Nat} {st : List Value} {Q : Option Value × jW → Prop} {ls : jL} {xs : List Value} {I : fI} {L : fL} {r : Nat} {x0 : Int32} (hs : j_sumc st ≤ 8) (ht : f_tg r = 11) : Wp (d + 1) 170 1198 ls (.int x0 :: .ref r :: st) (f_W xs I L) Q = Wp d 169 0 [some (.ref r), some (.int x0)] [] (f_W xs I L) (fun r1 => Wp (d + 1) 170 1201 ls (r1.1.toList ++ st) r1.2 Q) := Wp.cv (y' := 169) (as := [.int x0]) e170_1198 rfl (by decide) rfl (show 2 ≤ 2 by decide) (by decide) hs ht
theorem e170_1201 : decode (j_co 170) 1201 = .ok (.if_icmp .eq 5, 3) := by decide +kernel
set_option maxRecDepth 20000 in
theorem w170_1201 {d : Nat} {st : List Value} {Q : Option Value × jW → Prop} {ls : jL} {w : jW} {a b : Int32} : Wp d 170 1201 ls (.int b :: .int a :: st) w Q = ((a = b → Wp d 170 1206 ls st w Q) ∧ (¬ a = b → Wp d 170 1204 ls st w Q)) := Wp.if2 (c := a = b) (off := 5) e170_1201 rfl rfl rfl rfl rfl
theorem e170_1204 : decode (j_co 170) 1204 = .ok (.iconst 0, 1) := by decide +kernel
set_option maxRecDepth 20000 in
theorem w170_1204 {d : Nat} {st : List Value} {Q : Option Value × jW → Prop} {ls : jL} {w : jW} : Wp d 170 1204 ls (st) w Q = Wp d 170 1205 ls (.int (nI 0) :: st) w Q := Wp.alu e170_1204 rfl rfl
theorem e170_1205 : decode (j_co 170) 1205 = .ok (.ireturn, 1) := by decide +kernel
set_option maxRecDepth 20000 in
theorem w170_1205 {d : Nat} {Q : Option Value × jW → Prop} {ls : jL} {w : jW} {x : Int32} (hx : x = 0 ∨ x = 1) : Wp d 170 1205 ls [.int x] w Q = Q (some (.int x), w) := Wp.ret e170_1205 (by rcases hx with rfl | rfl <;> rfl)
theorem e170_1206 : decode (j_co 170) 1206 = .ok (.iinc 3 6, 3) := by decide +kernel
set_option maxRecDepth 20000 in
theorem w170_1206 {d : Nat} {st : List Value} {Q : Option Value × jW → Prop} {w : jW} {a0 a1 a2 : Option Value} {x : Int32} (h : j_cp a2) : Wp d 170 1206 [a0, a1, a2, some (.int x)] (st) w Q = Wp d 170 1209 [a0, a1, a2, some (.int (x + nI 6))] (st) w Q := Wp.loc e170_1206 rfl rfl (v_inc (ls := [a0, a1, a2, some (.int x)]) (k := 3) (n := 6) rfl (show 3 < 4 by decide) h)
theorem e170_1209 : decode (j_co 170) 1209 = .ok (.goto (-1191), 3) := by decide +kernel
set_option maxRecDepth 20000 in
theorem w170_1209 {d : Nat} {st : List Value} {Q : Option Value × jW → Prop} {ls : jL} {w : jW} : Wp d 170 1209 ls (st) w Q = Wp d 170 18 ls (st) w Q := Wp.br e170_1209 (Or.inl rfl) rfl rfl rfl rfl
theorem e170_1212 : decode (j_co 170) 1212 = .ok (.iconst 1, 1) := by decide +kernel
set_option maxRecDepth 20000 in
theorem w170_1212 {d : Nat} {st : List Value} {Q : Option Value × jW → Prop} {ls : jL} {w : jW} : Wp d 170 1212 ls (st) w Q = Wp d 170 1213 ls (.int (nI 1) :: st) w Q := Wp.alu e170_1212 rfl rfl
theorem e170_1213 : decode (j_co 170) 1213 = .ok (.ireturn, 1) := by decide +kernel
set_option maxRecDepth 20000 in
theorem w170_1213 {d : Nat} {Q : Option Value × jW → Prop} {ls : jL} {w : jW} {x : Int32} (hx : x = 0 ∨ x = 1) : Wp d 170 1213 ls [.int x] w Q = Q (some (.int x), w) := Wp.ret e170_1213 (by rcases hx with rfl | rfl <;> rfl)
