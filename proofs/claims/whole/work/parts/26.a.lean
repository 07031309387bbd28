/-! Box.putAll -/
theorem e4_0 : decode (j_co 4) 0 = .ok (.iconst 0, 1) := by decide +kernel
set_option maxRecDepth 20000 in
theorem w4_0 {d : Nat} {st : List Value} {Q : Option Value × jW → Prop} {ls : jL} {w : jW} : Wp d 4 0 ls (st) w Q = Wp d 4 1 ls (.int (nI 0) :: st) w Q := Wp.alu e4_0 rfl rfl
theorem e4_1 : decode (j_co 4) 1 = .ok (.istore_n 3, 1) := by decide +kernel
set_option maxRecDepth 20000 in
theorem w4_1 {d : Nat} {st : List Value} {Q : Option Value × jW → Prop} {w : jW} {a0 a1 a2 a3 : Option Value} {x : Int32} (h : j_cp a2) : Wp d 4 1 [a0, a1, a2, a3] (.int x :: st) w Q = Wp d 4 2 [a0, a1, a2, some (.int x)] (st) w Q := Wp.loc e4_1 rfl rfl (v_stI (ls := [a0, a1, a2, a3]) (k := 3) (show 3 < 4 by decide) h)
theorem e4_2 : decode (j_co 4) 2 = .ok (.iload_n 3, 1) := by decide +kernel
set_option maxRecDepth 20000 in
theorem w4_2 {d : Nat} {st : List Value} {Q : Option Value × jW → Prop} {w : jW} {a0 a1 a2 : Option Value} {x : Int32} : Wp d 4 2 [a0, a1, a2, some (.int x)] (st) w Q = Wp d 4 3 [a0, a1, a2, some (.int x)] (.int x :: st) w Q := Wp.loc e4_2 rfl rfl rfl
theorem e4_3 : decode (j_co 4) 3 = .ok (.iconst 3, 1) := by decide +kernel
set_option maxRecDepth 20000 in
theorem w4_3 {d : Nat} {st : List Value} {Q : Option Value × jW → Prop} {ls : jL} {w : jW} : Wp d 4 3 ls (st) w Q = Wp d 4 4 ls (.int (nI 3) :: st) w Q := Wp.alu e4_3 rfl rfl
theorem e4_4 : decode (j_co 4) 4 = .ok (.if_icmp .ge 16, 3) := by decide +kernel
set_option maxRecDepth 20000 in
theorem w4_4 {d : Nat} {st : List Value} {Q : Option Value × jW → Prop} {ls : jL} {w : jW} {a b : Int32} : Wp d 4 4 ls (.int b :: .int a :: st) w Q = ((b ≤ a → Wp d 4 20 ls st w Q) ∧ (¬ b ≤ a → Wp d 4 7 ls st w Q)) := Wp.if2 (c := b ≤ a) (off := 16) e4_4 rfl rfl rfl rfl rfl
theorem e4_7 : decode (j_co 4) 7 = .ok (.aload_n 0, 1) := by decide +kernel
set_option maxRecDepth 20000 in
theorem w4_7 {d : Nat} {st : List Value} {Q : Option Value × jW → Prop} {w : jW} {a1 a2 a3 : Option Value} {x : Nat} : Wp d 4 7 [some (.ref x), a1, a2, a3] (st) w Q = Wp d 4 8 [some (.ref x), a1, a2, a3] (.ref x :: st) w Q := Wp.loc e4_7 rfl rfl rfl
theorem e4_8 : decode (j_co 4) 8 = .ok (.iload_n 3, 1) := by decide +kernel
set_option maxRecDepth 20000 in
theorem w4_8 {d : Nat} {st : List Value} {Q : Option Value × jW → Prop} {w : jW} {a0 a1 a2 : Option Value} {x : Int32} : Wp d 4 8 [a0, a1, a2, some (.int x)] (st) w Q = Wp d 4 9 [a0, a1, a2, some (.int x)] (.int x :: st) w Q := Wp.loc e4_8 rfl rfl rfl
theorem e4_9 : decode (j_co 4) 9 = .ok (.iload_n 1, 1) := by decide +kernel
set_option maxRecDepth 20000 in
theorem w4_9 {d : Nat} {st : List Value} {Q : Option Value × jW → Prop} {w : jW} {a0 a2 a3 : Option Value} {x : Int32} : Wp d 4 9 [a0, some (.int x), a2, a3] (st) w Q = Wp d 4 10 [a0, some (.int x), a2, a3] (.int x :: st) w Q := Wp.loc e4_9 rfl rfl rfl
theorem e4_10 : decode (j_co 4) 10 = .ok (.iload_n 2, 1) := by decide +kernel
set_option maxRecDepth 20000 in
theorem w4_10 {d : Nat} {st : List Value} {Q : Option Value × jW → Prop} {w : jW} {a0 a1 a3 : Option Value} {x : Int32} : Wp d 4 10 [a0, a1, some (.int x), a3] (st) w Q = Wp d 4 11 [a0, a1, some (.int x), a3] (.int x :: st) w Q := Wp.loc e4_10 rfl rfl rfl
theorem e4_11 : decode (j_co 4) 11 = .ok (.invokevirtual 15, 3) := by decide +kernel
set_option maxRecDepth 20000 in
theorem w4_11 {d : Nat} {st : List Value} {Q : Option Value × jW → Prop} {ls : jL} {xs : List Value} {I : fI} {L : fL} {r : Nat} {x0 : Int32} {x1 : Int32} {x2 : Int32} (hs : j_sumc st ≤ 8) (ht : f_tg r = 0) : Wp (d + 1) 4 11 ls (.int x2 :: .int x1 :: .int x0 :: .ref r :: st) (f_W xs I L) Q = Wp d 5 0 [some (.ref r), some (.int x0), some (.int x1), some (.int x2)] [] (f_W xs I L) (fun r1 => Wp (d + 1) 4 14 ls (r1.1.toList ++ st) r1.2 Q) := Wp.cv (y' := 5) (as := [.int x0, .int x1, .int x2]) e4_11 rfl (by decide) rfl (show 4 ≤ 4 by decide) (by decide) hs ht
theorem e4_14 : decode (j_co 4) 14 = .ok (.iinc 3 1, 3) := by decide +kernel
set_option maxRecDepth 20000 in
theorem w4_14 {d : Nat} {st : List Value} {Q : Option Value × jW → Prop} {w : jW} {a0 a1 a2 : Option Value} {x : Int32} (h : j_cp a2) : Wp d 4 14 [a0, a1, a2, some (.int x)] (st) w Q = Wp d 4 17 [a0, a1, a2, some (.int (x + nI 1))] (st) w Q := Wp.loc e4_14 rfl rfl (v_inc (ls := [a0, a1, a2, some (.int x)]) (k := 3) (n := 1) rfl (show 3 < 4 by decide) h)
theorem e4_17 : decode (j_co 4) 17 = .ok (.goto (-15), 3) := by decide +kernel
set_option maxRecDepth 20000 in
theorem w4_17 {d : Nat} {st : List Value} {Q : Option Value × jW → Prop} {ls : jL} {w : jW} : Wp d 4 17 ls (st) w Q = Wp d 4 2 ls (st) w Q := Wp.br e4_17 (Or.inl rfl) rfl rfl rfl rfl
theorem e4_20 : decode (j_co 4) 20 = .ok (.return_, 1) := by decide +kernel
set_option maxRecDepth 20000 in
theorem w4_20 {d : Nat} {Q : Option Value × jW → Prop} {ls : jL} {w : jW} : Wp d 4 20 ls [] w Q = Q (none, w) := Wp.ret e4_20 rfl
/-! Box.put -/
theorem e5_0 : decode (j_co 5) 0 = .ok (.iload_n 1, 1) := by decide +kernel
set_option maxRecDepth 20000 in
theorem w5_0 {d : Nat} {st : List Value} {Q : Option Value × jW → Prop} {w : jW} {a0 a2 a3 : Option Value} {x : Int32} : Wp d 5 0 [a0, some (.int x), a2, a3] (st) w Q = Wp d 5 1 [a0, some (.int x), a2, a3] (.int x :: st) w Q := Wp.loc e5_0 rfl rfl rfl
theorem e5_1 : decode (j_co 5) 1 = .ok (.ifCond .lt 28, 3) := by decide +kernel
set_option maxRecDepth 20000 in
theorem w5_1 {d : Nat} {st : List Value} {Q : Option Value × jW → Prop} {ls : jL} {w : jW} {a : Int32} : Wp d 5 1 ls (.int a :: st) w Q = ((a < nI 0 → Wp d 5 29 ls st w Q) ∧ (¬ a < nI 0 → Wp d 5 4 ls st w Q)) := Wp.if2 (c := a < nI 0) (off := 28) e5_1 rfl rfl rfl rfl rfl
theorem e5_4 : decode (j_co 5) 4 = .ok (.iload_n 1, 1) := by decide +kernel
set_option maxRecDepth 20000 in
theorem w5_4 {d : Nat} {st : List Value} {Q : Option Value × jW → Prop} {w : jW} {a0 a2 a3 : Option Value} {x : Int32} : Wp d 5 4 [a0, some (.int x), a2, a3] (st) w Q = Wp d 5 5 [a0, some (.int x), a2, a3] (.int x :: st) w Q := Wp.loc e5_4 rfl rfl rfl
theorem e5_5 : decode (j_co 5) 5 = .ok (.iconst 3, 1) := by decide +kernel
set_option maxRecDepth 20000 in
theorem w5_5 {d : Nat} {st : List Value} {Q : Option Value × jW → Prop} {ls : jL} {w : jW} : Wp d 5 5 ls (st) w Q = Wp d 5 6 ls (.int (nI 3) :: st) w Q := Wp.alu e5_5 rfl rfl
theorem e5_6 : decode (j_co 5) 6 = .ok (.if_icmp .ge 23, 3) := by decide +kernel
set_option maxRecDepth 20000 in
theorem w5_6 {d : Nat} {st : List Value} {Q : Option Value × jW → Prop} {ls : jL} {w : jW} {a b : Int32} : Wp d 5 6 ls (.int b :: .int a :: st) w Q = ((b ≤ a → Wp d 5 29 ls st w Q) ∧ (¬ b ≤ a → Wp d 5 9 ls st w Q)) := Wp.if2 (c := b ≤ a) (off := 23) e5_6 rfl rfl rfl rfl rfl
theorem e5_9 : decode (j_co 5) 9 = .ok (.aload_n 0, 1) := by decide +kernel
set_option maxRecDepth 20000 in
theorem w5_9 {d : Nat} {st : List Value} {Q : Option Value × jW → Prop} {w : jW} {a1 a2 a3 : Option Value} {x : Nat} : Wp d 5 9 [some (.ref x), a1, a2, a3] (st) w Q = Wp d 5 10 [some (.ref x), a1, a2, a3] (.ref x :: st) w Q := Wp.loc e5_9 rfl rfl rfl
theorem e5_10 : decode (j_co 5) 10 = .ok (.getfield 9, 3) := by decide +kernel
set_option maxRecDepth 20000 in
theorem w5_10 {d : Nat} {st : List Value} {Q : Option Value × jW → Prop} {ls : jL} {xs : List Value} {I : fI} {L : fL} {o : Nat} (ht : f_tg o = 0) : Wp d 5 10 ls (.ref o :: st) (f_W xs I L) Q = Wp d 5 13 ls (.ref (f_rf o 0) :: st) (f_W xs I L) Q := Wp.getR (ci := 0) (k := 0) e5_10 rfl (by decide) (by decide) rfl ht
theorem e5_13 : decode (j_co 5) 13 = .ok (.iconst 2, 1) := by decide +kernel
set_option maxRecDepth 20000 in
theorem w5_13 {d : Nat} {st : List Value} {Q : Option Value × jW → Prop} {ls : jL} {w : jW} : Wp d 5 13 ls (st) w Q = Wp d 5 14 ls (.int (nI 2) :: st) w Q := Wp.alu e5_13 rfl rfl
theorem e5_14 : decode (j_co 5) 14 = .ok (.iload_n 1, 1) := by decide +kernel
set_option maxRecDepth 20000 in
theorem w5_14 {d : Nat} {st : List Value} {Q : Option Value × jW → Prop} {w : jW} {a0 a2 a3 : Option Value} {x : Int32} : Wp d 5 14 [a0, some (.int x), a2, a3] (st) w Q = Wp d 5 15 [a0, some (.int x), a2, a3] (.int x :: st) w Q := Wp.loc e5_14 rfl rfl rfl
theorem e5_15 : decode (j_co 5) 15 = .ok (.imul, 1) := by decide +kernel
set_option maxRecDepth 20000 in
theorem w5_15 {d : Nat} {st : List Value} {Q : Option Value × jW → Prop} {ls : jL} {w : jW} {a b : Int32} : Wp d 5 15 ls (.int b :: .int a :: st) w Q = Wp d 5 16 ls (.int (a * b) :: st) w Q := Wp.alu e5_15 rfl rfl
theorem e5_16 : decode (j_co 5) 16 = .ok (.iload_n 2, 1) := by decide +kernel
set_option maxRecDepth 20000 in
theorem w5_16 {d : Nat} {st : List Value} {Q : Option Value × jW → Prop} {w : jW} {a0 a1 a3 : Option Value} {x : Int32} : Wp d 5 16 [a0, a1, some (.int x), a3] (st) w Q = Wp d 5 17 [a0, a1, some (.int x), a3] (.int x :: st) w Q := Wp.loc e5_16 rfl rfl rfl
theorem e5_17 : decode (j_co 5) 17 = .ok (.iastore, 1) := by decide +kernel
set_option maxRecDepth 20000 in
theorem w5_17 {d : Nat} {st : List Value} {Q : Option Value × jW → Prop} {ls : jL} {xs : List Value} {I : fI} {L : fL} {o : Nat} {i x : Int32} (ht : f_tg o = 100) (hi : ¬ (i < 0 ∨ f_ln o ≤ i.toNatClampNeg)) : Wp d 5 17 ls (.int x :: .int i :: .ref o :: st) (f_W xs I L) Q = Wp d 5 18 ls (st) (f_W xs (f_up I o i.toNatClampNeg x) L) Q := Wp.iast e5_17 ht hi
theorem e5_18 : decode (j_co 5) 18 = .ok (.aload_n 0, 1) := by decide +kernel
set_option maxRecDepth 20000 in
theorem w5_18 {d : Nat} {st : List Value} {Q : Option Value × jW → Prop} {w : jW} {a1 a2 a3 : Option Value} {x : Nat} : Wp d 5 18 [some (.ref x), a1, a2, a3] (st) w Q = Wp d 5 19 [some (.ref x), a1, a2, a3] (.ref x :: st) w Q := Wp.loc e5_18 rfl rfl rfl
theorem e5_19 : decode (j_co 5) 19 = .ok (.getfield 9, 3) := by decide +kernel
set_option maxRecDepth 20000 in
theorem w5_19 {d : Nat} {st : List Value} {Q : Option Value × jW → Prop} {ls : jL} {xs : List Value} {I : fI} {L : fL} {o : Nat} (ht : f_tg o = 0) : Wp d 5 19 ls (.ref o :: st) (f_W xs I L) Q = Wp d 5 22 ls (.ref (f_rf o 0) :: st) (f_W xs I L) Q := Wp.getR (ci := 0) (k := 0) e5_19 rfl (by decide) (by decide) rfl ht
theorem e5_22 : decode (j_co 5) 22 = .ok (.iconst 2, 1) := by decide +kernel
set_option maxRecDepth 20000 in
theorem w5_22 {d : Nat} {st : List Value} {Q : Option Value × jW → Prop} {ls : jL} {w : jW} : Wp d 5 22 ls (st) w Q = Wp d 5 23 ls (.int (nI 2) :: st) w Q := Wp.alu e5_22 rfl rfl
theorem e5_23 : decode (j_co 5) 23 = .ok (.iload_n 1, 1) := by decide +kernel
set_option maxRecDepth 20000 in
theorem w5_23 {d : Nat} {st : List Value} {Q : Option Value × jW → Prop} {w : jW} {a0 a2 a3 : Option Value} {x : Int32} : Wp d 5 23 [a0, some (.int x), a2, a3] (st) w Q = Wp d 5 24 [a0, some (.int x), a2, a3] (.int x :: st) w Q := Wp.loc e5_23 rfl rfl rfl
theorem e5_24 : decode (j_co 5) 24 = .ok (.imul, 1) := by decide +kernel
set_option maxRecDepth 20000 in
theorem w5_24 {d : Nat} {st : List Value} {Q : Option Value × jW → Prop} {ls : jL} {w : jW} {a b : Int32} : Wp d 5 24 ls (.int b :: .int a :: st) w Q = Wp d 5 25 ls (.int (a * b) :: st) w Q := Wp.alu e5_24 rfl rfl
theorem e5_25 : decode (j_co 5) 25 = .ok (.iconst 1, 1) := by decide +kernel
set_option maxRecDepth 20000 in
theorem w5_25 {d : Nat} {st : List Value} {Q : Option Value × jW → Prop} {ls : jL} {w : jW} : Wp d 5 25 ls (st) w Q = Wp d 5 26 ls (.int (nI 1) :: st) w Q := Wp.alu e5_25 rfl rfl
theorem e5_26 : decode (j_co 5) 26 = .ok (.iadd, 1) := by decide +kernel
set_option maxRecDepth 20000 in
theorem w5_26 {d : Nat} {st : List Value} {Q : Option Value × jW → Prop} {ls : jL} {w : jW} {a b : Int32} : Wp d 5 26 ls (.int b :: .int a :: st) w Q = Wp d 5 27 ls (.int (a + b) :: st) w Q := Wp.alu e5_26 rfl rfl
theorem e5_27 : decode (j_co 5) 27 = .ok (.iload_n 3, 1) := by decide +kernel
set_option maxRecDepth 20000 in
theorem w5_27 {d : Nat} {st : List Value} {Q : Option Value × jW → Prop} {w : jW} {a0 a1 a2 : Option Value} {x : Int32} : Wp d 5 27 [a0, a1, a2, some (.int x)] (st) w Q = Wp d 5 28 [a0, a1, a2, some (.int x)] (.int x :: st) w Q := Wp.loc e5_27 rfl rfl rfl
theorem e5_28 : decode (j_co 5) 28 = .ok (.iastore, 1) := by decide +kernel
set_option maxRecDepth 20000 in
theorem w5_28 {d : Nat} {st : List Value} {Q : Option Value × jW → Prop} {ls : jL} {xs : List Value} {I : fI} {L : fL} {o : Nat} {i x : Int32} (ht : f_tg o = 100) (hi : ¬ (i < 0 ∨ f_ln o ≤ i.toNatClampNeg)) : Wp d 5 28 ls (.int x :: .int i :: .ref o :: st) (f_W xs I L) Q = Wp d 5 29 ls (st) (f_W xs (f_up I o i.toNatClampNeg x) L) Q := Wp.iast e5_28 ht hi
theorem e5_29 : decode (j_co 5) 29 = .ok (.return_, 1) := by decide +kernel
set_option maxRecDepth 20000 in
theorem w5_29 {d : Nat} {Q : Option Value × jW → Prop} {ls : jL} {w : jW} : Wp d 5 29 ls [] w Q = Q (none, w) := Wp.ret e5_29 rfl
/-! Box.copy -/
theorem e31_0 : decode (j_co 31) 0 = .ok (.iconst 0, 1) := by decide +kernel
set_option maxRecDepth 20000 in
theorem w31_0 {d : Nat} {st : List Value} {Q : Option Value × jW → Prop} {ls : jL} {w : jW} : Wp d 31 0 ls (st) w Q = Wp d 31 1 ls (.int (nI 0) :: st) w Q := Wp.alu e31_0 rfl rfl
theorem e31_1 : decode (j_co 31) 1 = .ok (.istore_n 2, 1) := by decide +kernel
set_option maxRecDepth 20000 in
theorem w31_1 {d : Nat} {st : List Value} {Q : Option Value × jW → Prop} {w : jW} {a0 a1 a2 : Option Value} {x : Int32} (h : j_cp a1) : Wp d 31 1 [a0, a1, a2] (.int x :: st) w Q = Wp d 31 2 [a0, a1, some (.int x)] (st) w Q := Wp.loc e31_1 rfl rfl (v_stI (ls := [a0, a1, a2]) (k := 2) (show 2 < 3 by decide) h)
theorem e31_2 : decode (j_co 31) 2 = .ok (.iload_n 2, 1) := by decide +kernel
set_option maxRecDepth 20000 in
theorem w31_2 {d : Nat} {st : List Value} {Q : Option Value × jW → Prop} {w : jW} {a0 a1 : Option Value} {x : Int32} : Wp d 31 2 [a0, a1, some (.int x)] (st) w Q = Wp d 31 3 [a0, a1, some (.int x)] (.int x :: st) w Q := Wp.loc e31_2 rfl rfl rfl
theorem e31_3 : decode (j_co 31) 3 = .ok (.aload_n 0, 1) := by decide +kernel
set_option maxRecDepth 20000 in
theorem w31_3 {d : Nat} {st : List Value} {Q : Option Value × jW → Prop} {w : jW} {a1 a2 : Option Value} {x : Nat} : Wp d 31 3 [some (.ref x), a1, a2] (st) w Q = Wp d 31 4 [some (.ref x), a1, a2] (.ref x :: st) w Q := Wp.loc e31_3 rfl rfl rfl
theorem e31_4 : decode (j_co 31) 4 = .ok (.getfield 9, 3) := by decide +kernel
set_option maxRecDepth 20000 in
theorem w31_4 {d : Nat} {st : List Value} {Q : Option Value × jW → Prop} {ls : jL} {xs : List Value} {I : fI} {L : fL} {o : Nat} (ht : f_tg o = 0) : Wp d 31 4 ls (.ref o :: st) (f_W xs I L) Q = Wp d 31 7 ls (.ref (f_rf o 0) :: st) (f_W xs I L) Q := Wp.getR (ci := 0) (k := 0) e31_4 rfl (by decide) (by decide) rfl ht
theorem e31_7 : decode (j_co 31) 7 = .ok (.arraylength, 1) := by decide +kernel
set_option maxRecDepth 20000 in
theorem w31_7 {d : Nat} {st : List Value} {Q : Option Value × jW → Prop} {ls : jL} {xs : List Value} {I : fI} {L : fL} {o : Nat} (ht : f_tg o = 100 ∨ f_tg o = 101 ∨ f_tg o = 102) : Wp d 31 7 ls (.ref o :: st) (f_W xs I L) Q = Wp d 31 8 ls (.int (nI (f_ln o)) :: st) (f_W xs I L) Q := Wp.alen e31_7 rfl ht
theorem e31_8 : decode (j_co 31) 8 = .ok (.if_icmp .ge 21, 3) := by decide +kernel
set_option maxRecDepth 20000 in
theorem w31_8 {d : Nat} {st : List Value} {Q : Option Value × jW → Prop} {ls : jL} {w : jW} {a b : Int32} : Wp d 31 8 ls (.int b :: .int a :: st) w Q = ((b ≤ a → Wp d 31 29 ls st w Q) ∧ (¬ b ≤ a → Wp d 31 11 ls st w Q)) := Wp.if2 (c := b ≤ a) (off := 21) e31_8 rfl rfl rfl rfl rfl
theorem e31_11 : decode (j_co 31) 11 = .ok (.aload_n 0, 1) := by decide +kernel
set_option maxRecDepth 20000 in
theorem w31_11 {d : Nat} {st : List Value} {Q : Option Value × jW → Prop} {w : jW} {a1 a2 : Option Value} {x : Nat} : Wp d 31 11 [some (.ref x), a1, a2] (st) w Q = Wp d 31 12 [some (.ref x), a1, a2] (.ref x :: st) w Q := Wp.loc e31_11 rfl rfl rfl
theorem e31_12 : decode (j_co 31) 12 = .ok (.getfield 9, 3) := by decide +kernel
set_option maxRecDepth 20000 in
theorem w31_12 {d : Nat} {st : List Value} {Q : Option Value × jW → Prop} {ls : jL} {xs : List Value} {I : fI} {L : fL} {o : Nat} (ht : f_tg o = 0) : Wp d 31 12 ls (.ref o :: st) (f_W xs I L) Q = Wp d 31 15 ls (.ref (f_rf o 0) :: st) (f_W xs I L) Q := Wp.getR (ci := 0) (k := 0) e31_12 rfl (by decide) (by decide) rfl ht
theorem e31_15 : decode (j_co 31) 15 = .ok (.iload_n 2, 1) := by decide +kernel
set_option maxRecDepth 20000 in
theorem w31_15 {d : Nat} {st : List Value} {Q : Option Value × jW → Prop} {w : jW} {a0 a1 : Option Value} {x : Int32} : Wp d 31 15 [a0, a1, some (.int x)] (st) w Q = Wp d 31 16 [a0, a1, some (.int x)] (.int x :: st) w Q := Wp.loc e31_15 rfl rfl rfl
theorem e31_16 : decode (j_co 31) 16 = .ok (.aload_n 1, 1) := by decide +kernel
set_option maxRecDepth 20000 in
theorem w31_16 {d : Nat} {st : List Value} {Q : Option Value × jW → Prop} {w : jW} {a0 a2 : Option Value} {x : Nat} : Wp d 31 16 [a0, some (.ref x), a2] (st) w Q = Wp d 31 17 [a0, some (.ref x), a2] (.ref x :: st) w Q := Wp.loc e31_16 rfl rfl rfl
theorem e31_17 : decode (j_co 31) 17 = .ok (.getfield 9, 3) := by decide +kernel
set_option maxRecDepth 20000 in
theorem w31_17 {d : Nat} {st : List Value} {Q : Option Value × jW → Prop} {ls : jL} {xs : List Value} {I : fI} {L : fL} {o : Nat} (ht : f_tg o = 0) : Wp d 31 17 ls (.ref o :: st) (f_W xs I L) Q = Wp d 31 20 ls (.ref (f_rf o 0) :: st) (f_W xs I L) Q := Wp.getR (ci := 0) (k := 0) e31_17 rfl (by decide) (by decide) rfl ht
theorem e31_20 : decode (j_co 31) 20 = .ok (.iload_n 2, 1) := by decide +kernel
set_option maxRecDepth 20000 in
theorem w31_20 {d : Nat} {st : List Value} {Q : Option Value × jW → Prop} {w : jW} {a0 a1 : Option Value} {x : Int32} : Wp d 31 20 [a0, a1, some (.int x)] (st) w Q = Wp d 31 21 [a0, a1, some (.int x)] (.int x :: st) w Q := Wp.loc e31_20 rfl rfl rfl
theorem e31_21 : decode (j_co 31) 21 = .ok (.iaload, 1) := by decide +kernel
set_option maxRecDepth 20000 in
theorem w31_21 {d : Nat} {st : List Value} {Q : Option Value × jW → Prop} {ls : jL} {xs : List Value} {I : fI} {L : fL} {o : Nat} {i : Int32} (ht : f_tg o = 100) (hi : ¬ (i < 0 ∨ f_ln o ≤ i.toNatClampNeg)) : Wp d 31 21 ls (.int i :: .ref o :: st) (f_W xs I L) Q = Wp d 31 22 ls (.int (I o i.toNatClampNeg) :: st) (f_W xs I L) Q := Wp.iald e31_21 ht hi
theorem e31_22 : decode (j_co 31) 22 = .ok (.iastore, 1) := by decide +kernel
set_option maxRecDepth 20000 in
theorem w31_22 {d : Nat} {st : List Value} {Q : Option Value × jW → Prop} {ls : jL} {xs : List Value} {I : fI} {L : fL} {o : Nat} {i x : Int32} (ht : f_tg o = 100) (hi : ¬ (i < 0 ∨ f_ln o ≤ i.toNatClampNeg)) : Wp d 31 22 ls (.int x :: .int i :: .ref o :: st) (f_W xs I L) Q = Wp d 31 23 ls (st) (f_W xs (f_up I o i.toNatClampNeg x) L) Q := Wp.iast e31_22 ht hi
theorem e31_23 : decode (j_co 31) 23 = .ok (.iinc 2 1, 3) := by decide +kernel
set_option maxRecDepth 20000 in
theorem w31_23 {d : Nat} {st : List Value} {Q : Option Value × jW → Prop} {w : jW} {a0 a1 : Option Value} {x : Int32} (h : j_cp a1) : Wp d 31 23 [a0, a1, some (.int x)] (st) w Q = Wp d 31 26 [a0, a1, some (.int (x + nI 1))] (st) w Q := Wp.loc e31_23 rfl rfl (v_inc (ls := [a0, a1, some (.int x)]) (k := 2) (n := 1) rfl (show 2 < 3 by decide) h)
theorem e31_26 : decode (j_co 31) 26 = .ok (.goto (-24), 3) := by decide +kernel
set_option maxRecDepth 20000 in
theorem w31_26 {d : Nat} {st : List Value} {Q : Option Value × jW → Prop} {ls : jL} {w : jW} : Wp d 31 26 ls (st) w Q = Wp d 31 2 ls (st) w Q := Wp.br e31_26 (Or.inl rfl) rfl rfl rfl rfl
theorem e31_29 : decode (j_co 31) 29 = .ok (.return_, 1) := by decide +kernel
set_option maxRecDepth 20000 in
theorem w31_29 {d : Nat} {Q : Option Value × jW → Prop} {ls : jL} {w : jW} : Wp d 31 29 ls [] w Q = Q (none, w) := Wp.ret e31_29 rfl
/-! Box.meet -/
theorem e32_0 : decode (j_co 32) 0 = .ok (.iconst 0, 1) := by decide +kernel
set_option maxRecDepth 20000 in
theorem w32_0 {d : Nat} {st : List Value} {Q : Option Value × jW → Prop} {ls : jL} {w : jW} : Wp d 32 0 ls (st) w Q = Wp d 32 1 ls (.int (nI 0) :: st) w Q := Wp.alu e32_0 rfl rfl
theorem e32_1 : decode (j_co 32) 1 = .ok (.istore_n 2, 1) := by decide +kernel
set_option maxRecDepth 20000 in
theorem w32_1 {d : Nat} {st : List Value} {Q : Option Value × jW → Prop} {w : jW} {a0 a1 a2 : Option Value} {x : Int32} (h : j_cp a1) : Wp d 32 1 [a0, a1, a2] (.int x :: st) w Q = Wp d 32 2 [a0, a1, some (.int x)] (st) w Q := Wp.loc e32_1 rfl rfl (v_stI (ls := [a0, a1, a2]) (k := 2) (show 2 < 3 by decide) h)
theorem e32_2 : decode (j_co 32) 2 = .ok (.iload_n 2, 1) := by decide +kernel
set_option maxRecDepth 20000 in
theorem w32_2 {d : Nat} {st : List Value} {Q : Option Value × jW → Prop} {w : jW} {a0 a1 : Option Value} {x : Int32} : Wp d 32 2 [a0, a1, some (.int x)] (st) w Q = Wp d 32 3 [a0, a1, some (.int x)] (.int x :: st) w Q := Wp.loc e32_2 rfl rfl rfl
theorem e32_3 : decode (j_co 32) 3 = .ok (.iconst 3, 1) := by decide +kernel
set_option maxRecDepth 20000 in
theorem w32_3 {d : Nat} {st : List Value} {Q : Option Value × jW → Prop} {ls : jL} {w : jW} : Wp d 32 3 ls (st) w Q = Wp d 32 4 ls (.int (nI 3) :: st) w Q := Wp.alu e32_3 rfl rfl
theorem e32_4 : decode (j_co 32) 4 = .ok (.if_icmp .ge 40, 3) := by decide +kernel
set_option maxRecDepth 20000 in
theorem w32_4 {d : Nat} {st : List Value} {Q : Option Value × jW → Prop} {ls : jL} {w : jW} {a b : Int32} : Wp d 32 4 ls (.int b :: .int a :: st) w Q = ((b ≤ a → Wp d 32 44 ls st w Q) ∧ (¬ b ≤ a → Wp d 32 7 ls st w Q)) := Wp.if2 (c := b ≤ a) (off := 40) e32_4 rfl rfl rfl rfl rfl
theorem e32_7 : decode (j_co 32) 7 = .ok (.aload_n 0, 1) := by decide +kernel
set_option maxRecDepth 20000 in
theorem w32_7 {d : Nat} {st : List Value} {Q : Option Value × jW → Prop} {w : jW} {a1 a2 : Option Value} {x : Nat} : Wp d 32 7 [some (.ref x), a1, a2] (st) w Q = Wp d 32 8 [some (.ref x), a1, a2] (.ref x :: st) w Q := Wp.loc e32_7 rfl rfl rfl
theorem e32_8 : decode (j_co 32) 8 = .ok (.iload_n 2, 1) := by decide +kernel
set_option maxRecDepth 20000 in
theorem w32_8 {d : Nat} {st : List Value} {Q : Option Value × jW → Prop} {w : jW} {a0 a1 : Option Value} {x : Int32} : Wp d 32 8 [a0, a1, some (.int x)] (st) w Q = Wp d 32 9 [a0, a1, some (.int x)] (.int x :: st) w Q := Wp.loc e32_8 rfl rfl rfl
theorem e32_9 : decode (j_co 32) 9 = .ok (.aload_n 0, 1) := by decide +kernel
set_option maxRecDepth 20000 in
theorem w32_9 {d : Nat} {st : List Value} {Q : Option Value × jW → Prop} {w : jW} {a1 a2 : Option Value} {x : Nat} : Wp d 32 9 [some (.ref x), a1, a2] (st) w Q = Wp d 32 10 [some (.ref x), a1, a2] (.ref x :: st) w Q := Wp.loc e32_9 rfl rfl rfl
theorem e32_10 : decode (j_co 32) 10 = .ok (.iload_n 2, 1) := by decide +kernel
set_option maxRecDepth 20000 in
theorem w32_10 {d : Nat} {st : List Value} {Q : Option Value × jW → Prop} {w : jW} {a0 a1 : Option Value} {x : Int32} : Wp d 32 10 [a0, a1, some (.int x)] (st) w Q = Wp d 32 11 [a0, a1, some (.int x)] (.int x :: st) w Q := Wp.loc e32_10 rfl rfl rfl
theorem e32_11 : decode (j_co 32) 11 = .ok (.invokevirtual 19, 3) := by decide +kernel
set_option maxRecDepth 20000 in
theorem w32_11 {d : Nat} {st : List Value} {Q : Option Value × jW → Prop} {ls : jL} {xs : List Value} {I : fI} {L : fL} {r : Nat} {x0 : Int32} (hs : j_sumc st ≤ 8) (ht : f_tg r = 0) : Wp (d + 1) 32 11 ls (.int x0 :: .ref r :: st) (f_W xs I L) Q = Wp d 33 0 [some (.ref r), some (.int x0)] [] (f_W xs I L) (fun r1 => Wp (d + 1) 32 14 ls (r1.1.toList ++ st) r1.2 Q) := Wp.cv (y' := 33) (as := [.int x0]) e32_11 rfl (by decide) rfl (show 2 ≤ 2 by decide) (by decide) hs ht
theorem e32_14 : decode (j_co 32) 14 = .ok (.aload_n 1, 1) := by decide +kernel
set_option maxRecDepth 20000 in
theorem w32_14 {d : Nat} {st : List Value} {Q : Option Value × jW → Prop} {w : jW} {a0 a2 : Option Value} {x : Nat} : Wp d 32 14 [a0, some (.ref x), a2] (st) w Q = Wp d 32 15 [a0, some (.ref x), a2] (.ref x :: st) w Q := Wp.loc e32_14 rfl rfl rfl
theorem e32_15 : decode (j_co 32) 15 = .ok (.iload_n 2, 1) := by decide +kernel
set_option maxRecDepth 20000 in
theorem w32_15 {d : Nat} {st : List Value} {Q : Option Value × jW → Prop} {w : jW} {a0 a1 : Option Value} {x : Int32} : Wp d 32 15 [a0, a1, some (.int x)] (st) w Q = Wp d 32 16 [a0, a1, some (.int x)] (.int x :: st) w Q := Wp.loc e32_15 rfl rfl rfl
theorem e32_16 : decode (j_co 32) 16 = .ok (.invokevirtual 19, 3) := by decide +kernel
set_option maxRecDepth 20000 in
theorem w32_16 {d : Nat} {st : List Value} {Q : Option Value × jW → Prop} {ls : jL} {xs : List Value} {I : fI} {L : fL} {r : Nat} {x0 : Int32} (hs : j_sumc st ≤ 8) (ht : f_tg r = 0) : Wp (d + 1) 32 16 ls (.int x0 :: .ref r :: st) (f_W xs I L) Q = Wp d 33 0 [some (.ref r), some (.int x0)] [] (f_W xs I L) (fun r1 => Wp (d + 1) 32 19 ls (r1.1.toList ++ st) r1.2 Q) := Wp.cv (y' := 33) (as := [.int x0]) e32_16 rfl (by decide) rfl (show 2 ≤ 2 by decide) (by decide) hs ht
theorem e32_19 : decode (j_co 32) 19 = .ok (.invokestatic 30, 3) := by decide +kernel
set_option maxRecDepth 20000 in
theorem w32_19 {d : Nat} {st : List Value} {Q : Option Value × jW → Prop} {ls : jL} {w : jW} {a b : Int32} (hs : j_sumc st ≤ 8) : Wp (d + 1) 32 19 ls (.int b :: .int a :: st) w Q = Wp (d + 1) 32 22 ls (.int (if a < b then b else a) :: st) w Q := Wp.mx e32_19 rfl hs
theorem e32_22 : decode (j_co 32) 22 = .ok (.aload_n 0, 1) := by decide +kernel
set_option maxRecDepth 20000 in
theorem w32_22 {d : Nat} {st : List Value} {Q : Option Value × jW → Prop} {w : jW} {a1 a2 : Option Value} {x : Nat} : Wp d 32 22 [some (.ref x), a1, a2] (st) w Q = Wp d 32 23 [some (.ref x), a1, a2] (.ref x :: st) w Q := Wp.loc e32_22 rfl rfl rfl
theorem e32_23 : decode (j_co 32) 23 = .ok (.iload_n 2, 1) := by decide +kernel
set_option maxRecDepth 20000 in
theorem w32_23 {d : Nat} {st : List Value} {Q : Option Value × jW → Prop} {w : jW} {a0 a1 : Option Value} {x : Int32} : Wp d 32 23 [a0, a1, some (.int x)] (st) w Q = Wp d 32 24 [a0, a1, some (.int x)] (.int x :: st) w Q := Wp.loc e32_23 rfl rfl rfl
theorem e32_24 : decode (j_co 32) 24 = .ok (.invokevirtual 23, 3) := by decide +kernel
set_option maxRecDepth 20000 in
theorem w32_24 {d : Nat} {st : List Value} {Q : Option Value × jW → Prop} {ls : jL} {xs : List Value} {I : fI} {L : fL} {r : Nat} {x0 : Int32} (hs : j_sumc st ≤ 8) (ht : f_tg r = 0) : Wp (d + 1) 32 24 ls (.int x0 :: .ref r :: st) (f_W xs I L) Q = Wp d 35 0 [some (.ref r), some (.int x0)] [] (f_W xs I L) (fun r1 => Wp (d + 1) 32 27 ls (r1.1.toList ++ st) r1.2 Q) := Wp.cv (y' := 35) (as := [.int x0]) e32_24 rfl (by decide) rfl (show 2 ≤ 2 by decide) (by decide) hs ht
theorem e32_27 : decode (j_co 32) 27 = .ok (.aload_n 1, 1) := by decide +kernel
set_option maxRecDepth 20000 in
theorem w32_27 {d : Nat} {st : List Value} {Q : Option Value × jW → Prop} {w : jW} {a0 a2 : Option Value} {x : Nat} : Wp d 32 27 [a0, some (.ref x), a2] (st) w Q = Wp d 32 28 [a0, some (.ref x), a2] (.ref x :: st) w Q := Wp.loc e32_27 rfl rfl rfl
theorem e32_28 : decode (j_co 32) 28 = .ok (.iload_n 2, 1) := by decide +kernel
set_option maxRecDepth 20000 in
theorem w32_28 {d : Nat} {st : List Value} {Q : Option Value × jW → Prop} {w : jW} {a0 a1 : Option Value} {x : Int32} : Wp d 32 28 [a0, a1, some (.int x)] (st) w Q = Wp d 32 29 [a0, a1, some (.int x)] (.int x :: st) w Q := Wp.loc e32_28 rfl rfl rfl
theorem e32_29 : decode (j_co 32) 29 = .ok (.invokevirtual 23, 3) := by decide +kernel
set_option maxRecDepth 20000 in
theorem w32_29 {d : Nat} {st : List Value} {Q : Option Value × jW → Prop} {ls : jL} {xs : List Value} {I : fI} {L : fL} {r : Nat} {x0 : Int32} (hs : j_sumc st ≤ 8) (ht : f_tg r = 0) : Wp (d + 1) 32 29 ls (.int x0 :: .ref r :: st) (f_W xs I L) Q = Wp d 35 0 [some (.ref r), some (.int x0)] [] (f_W xs I L) (fun r1 => Wp (d + 1) 32 32 ls (r1.1.toList ++ st) r1.2 Q) := Wp.cv (y' := 35) (as := [.int x0]) e32_29 rfl (by decide) rfl (show 2 ≤ 2 by decide) (by decide) hs ht
theorem e32_32 : decode (j_co 32) 32 = .ok (.invokestatic 36, 3) := by decide +kernel
set_option maxRecDepth 20000 in
theorem w32_32 {d : Nat} {st : List Value} {Q : Option Value × jW → Prop} {ls : jL} {w : jW} {a b : Int32} (hs : j_sumc st ≤ 8) : Wp (d + 1) 32 32 ls (.int b :: .int a :: st) w Q = Wp (d + 1) 32 35 ls (.int (if b < a then b else a) :: st) w Q := Wp.mn e32_32 rfl hs
theorem e32_35 : decode (j_co 32) 35 = .ok (.invokevirtual 15, 3) := by decide +kernel
set_option maxRecDepth 20000 in
theorem w32_35 {d : Nat} {st : List Value} {Q : Option Value × jW → Prop} {ls : jL} {xs : List Value} {I : fI} {L : fL} {r : Nat} {x0 : Int32} {x1 : Int32} {x2 : Int32} (hs : j_sumc st ≤ 8) (ht : f_tg r = 0) : Wp (d + 1) 32 35 ls (.int x2 :: .int x1 :: .int x0 :: .ref r :: st) (f_W xs I L) Q = Wp d 5 0 [some (.ref r), some (.int x0), some (.int x1), some (.int x2)] [] (f_W xs I L) (fun r1 => Wp (d + 1) 32 38 ls (r1.1.toList ++ st) r1.2 Q) := Wp.cv (y' := 5) (as := [.int x0, .int x1, .int x2]) e32_35 rfl (by decide) rfl (show 4 ≤ 4 by decide) (by decide) hs ht
theorem e32_38 : decode (j_co 32) 38 = .ok (.iinc 2 1, 3) := by decide +kernel
set_option maxRecDepth 20000 in
theorem w32_38 {d : Nat} {st : List Value} {Q : Option Value × jW → Prop} {w : jW} {a0 a1 : Option Value} {x : Int32} (h : j_cp a1) : Wp d 32 38 [a0, a1, some (.int x)] (st) w Q = Wp d 32 41 [a0, a1, some (.int (x + nI 1))] (st) w Q := Wp.loc e32_38 rfl rfl (v_inc (ls := [a0, a1, some (.int x)]) (k := 2) (n := 1) rfl (show 2 < 3 by decide) h)
theorem e32_41 : decode (j_co 32) 41 = .ok (.goto (-39), 3) := by decide +kernel
set_option maxRecDepth 20000 in
theorem w32_41 {d : Nat} {st : List Value} {Q : Option Value × jW → Prop} {ls : jL} {w : jW} : Wp d 32 41 ls (st) w Q = Wp d 32 2 ls (st) w Q := Wp.br e32_41 (Or.inl rfl) rfl rfl rfl rfl
theorem e32_44 : decode (j_co 32) 44 = .ok (.return_, 1) := by decide +kernel
set_option maxRecDepth 20000 in
theorem w32_44 {d : Nat} {Q : Option Value × jW → Prop} {ls : jL} {w : jW} : Wp d 32 44 ls [] w Q = Q (none, w) := Wp.ret e32_44 rfl
/-! Box.least -/
theorem e33_0 : decode (j_co 33) 0 = .ok (.iload_n 1, 1) := by decide +kernel
set_option maxRecDepth 20000 in
theorem w33_0 {d : Nat} {st : List Value} {Q : Option Value × jW → Prop} {w : jW} {a0 : Option Value} {x : Int32} : Wp d 33 0 [a0, some (.int x)] (st) w Q = Wp d 33 1 [a0, some (.int x)] (.int x :: st) w Q := Wp.loc e33_0 rfl rfl rfl
theorem e33_1 : decode (j_co 33) 1 = .ok (.ifCond .lt 19, 3) := by decide +kernel
set_option maxRecDepth 20000 in
theorem w33_1 {d : Nat} {st : List Value} {Q : Option Value × jW → Prop} {ls : jL} {w : jW} {a : Int32} : Wp d 33 1 ls (.int a :: st) w Q = ((a < nI 0 → Wp d 33 20 ls st w Q) ∧ (¬ a < nI 0 → Wp d 33 4 ls st w Q)) := Wp.if2 (c := a < nI 0) (off := 19) e33_1 rfl rfl rfl rfl rfl
theorem e33_4 : decode (j_co 33) 4 = .ok (.iload_n 1, 1) := by decide +kernel
set_option maxRecDepth 20000 in
theorem w33_4 {d : Nat} {st : List Value} {Q : Option Value × jW → Prop} {w : jW} {a0 : Option Value} {x : Int32} : Wp d 33 4 [a0, some (.int x)] (st) w Q = Wp d 33 5 [a0, some (.int x)] (.int x :: st) w Q := Wp.loc e33_4 rfl rfl rfl
theorem e33_5 : decode (j_co 33) 5 = .ok (.iconst 3, 1) := by decide +kernel
set_option maxRecDepth 20000 in
theorem w33_5 {d : Nat} {st : List Value} {Q : Option Value × jW → Prop} {ls : jL} {w : jW} : Wp d 33 5 ls (st) w Q = Wp d 33 6 ls (.int (nI 3) :: st) w Q := Wp.alu e33_5 rfl rfl
theorem e33_6 : decode (j_co 33) 6 = .ok (.if_icmp .ge 14, 3) := by decide +kernel
set_option maxRecDepth 20000 in
theorem w33_6 {d : Nat} {st : List Value} {Q : Option Value × jW → Prop} {ls : jL} {w : jW} {a b : Int32} : Wp d 33 6 ls (.int b :: .int a :: st) w Q = ((b ≤ a → Wp d 33 20 ls st w Q) ∧ (¬ b ≤ a → Wp d 33 9 ls st w Q)) := Wp.if2 (c := b ≤ a) (off := 14) e33_6 rfl rfl rfl rfl rfl
theorem e33_9 : decode (j_co 33) 9 = .ok (.aload_n 0, 1) := by decide +kernel
set_option maxRecDepth 20000 in
theorem w33_9 {d : Nat} {st : List Value} {Q : Option Value × jW → Prop} {w : jW} {a1 : Option Value} {x : Nat} : Wp d 33 9 [some (.ref x), a1] (st) w Q = Wp d 33 10 [some (.ref x), a1] (.ref x :: st) w Q := Wp.loc e33_9 rfl rfl rfl
theorem e33_10 : decode (j_co 33) 10 = .ok (.getfield 9, 3) := by decide +kernel
set_option maxRecDepth 20000 in
theorem w33_10 {d : Nat} {st : List Value} {Q : Option Value × jW → Prop} {ls : jL} {xs : List Value} {I : fI} {L : fL} {o : Nat} (ht : f_tg o = 0) : Wp d 33 10 ls (.ref o :: st) (f_W xs I L) Q = Wp d 33 13 ls (.ref (f_rf o 0) :: st) (f_W xs I L) Q := Wp.getR (ci := 0) (k := 0) e33_10 rfl (by decide) (by decide) rfl ht
theorem e33_13 : decode (j_co 33) 13 = .ok (.iconst 2, 1) := by decide +kernel
set_option maxRecDepth 20000 in
theorem w33_13 {d : Nat} {st : List Value} {Q : Option Value × jW → Prop} {ls : jL} {w : jW} : Wp d 33 13 ls (st) w Q = Wp d 33 14 ls (.int (nI 2) :: st) w Q := Wp.alu e33_13 rfl rfl
theorem e33_14 : decode (j_co 33) 14 = .ok (.iload_n 1, 1) := by decide +kernel
set_option maxRecDepth 20000 in
theorem w33_14 {d : Nat} {st : List Value} {Q : Option Value × jW → Prop} {w : jW} {a0 : Option Value} {x : Int32} : Wp d 33 14 [a0, some (.int x)] (st) w Q = Wp d 33 15 [a0, some (.int x)] (.int x :: st) w Q := Wp.loc e33_14 rfl rfl rfl
theorem e33_15 : decode (j_co 33) 15 = .ok (.imul, 1) := by decide +kernel
set_option maxRecDepth 20000 in
theorem w33_15 {d : Nat} {st : List Value} {Q : Option Value × jW → Prop} {ls : jL} {w : jW} {a b : Int32} : Wp d 33 15 ls (.int b :: .int a :: st) w Q = Wp d 33 16 ls (.int (a * b) :: st) w Q := Wp.alu e33_15 rfl rfl
theorem e33_16 : decode (j_co 33) 16 = .ok (.iaload, 1) := by decide +kernel
set_option maxRecDepth 20000 in
theorem w33_16 {d : Nat} {st : List Value} {Q : Option Value × jW → Prop} {ls : jL} {xs : List Value} {I : fI} {L : fL} {o : Nat} {i : Int32} (ht : f_tg o = 100) (hi : ¬ (i < 0 ∨ f_ln o ≤ i.toNatClampNeg)) : Wp d 33 16 ls (.int i :: .ref o :: st) (f_W xs I L) Q = Wp d 33 17 ls (.int (I o i.toNatClampNeg) :: st) (f_W xs I L) Q := Wp.iald e33_16 ht hi
theorem e33_17 : decode (j_co 33) 17 = .ok (.goto 4, 3) := by decide +kernel
set_option maxRecDepth 20000 in
theorem w33_17 {d : Nat} {st : List Value} {Q : Option Value × jW → Prop} {ls : jL} {w : jW} : Wp d 33 17 ls (st) w Q = Wp d 33 21 ls (st) w Q := Wp.br e33_17 (Or.inl rfl) rfl rfl rfl rfl
theorem e33_20 : decode (j_co 33) 20 = .ok (.iconst 0, 1) := by decide +kernel
set_option maxRecDepth 20000 in
theorem w33_20 {d : Nat} {st : List Value} {Q : Option Value × jW → Prop} {ls : jL} {w : jW} : Wp d 33 20 ls (st) w Q = Wp d 33 21 ls (.int (nI 0) :: st) w Q := Wp.alu e33_20 rfl rfl
theorem e33_21 : decode (j_co 33) 21 = .ok (.ireturn, 1) := by decide +kernel
set_option maxRecDepth 20000 in
theorem w33_21 {d : Nat} {Q : Option Value × jW → Prop} {ls : jL} {w : jW} {x : Int32} : Wp d 33 21 ls [.int x] w Q = Q (some (.int x), w) := Wp.ret e33_21 rfl
/-! Box.greatest -/
theorem e35_0 : decode (j_co 35) 0 = .ok (.iload_n 1, 1) := by decide +kernel
set_option maxRecDepth 20000 in
theorem w35_0 {d : Nat} {st : List Value} {Q : Option Value × jW → Prop} {w : jW} {a0 : Option Value} {x : Int32} : Wp d 35 0 [a0, some (.int x)] (st) w Q = Wp d 35 1 [a0, some (.int x)] (.int x :: st) w Q := Wp.loc e35_0 rfl rfl rfl
theorem e35_1 : decode (j_co 35) 1 = .ok (.ifCond .lt 21, 3) := by decide +kernel
set_option maxRecDepth 20000 in
theorem w35_1 {d : Nat} {st : List Value} {Q : Option Value × jW → Prop} {ls : jL} {w : jW} {a : Int32} : Wp d 35 1 ls (.int a :: st) w Q = ((a < nI 0 → Wp d 35 22 ls st w Q) ∧ (¬ a < nI 0 → Wp d 35 4 ls st w Q)) := Wp.if2 (c := a < nI 0) (off := 21) e35_1 rfl rfl rfl rfl rfl
theorem e35_4 : decode (j_co 35) 4 = .ok (.iload_n 1, 1) := by decide +kernel
set_option maxRecDepth 20000 in
theorem w35_4 {d : Nat} {st : List Value} {Q : Option Value × jW → Prop} {w : jW} {a0 : Option Value} {x : Int32} : Wp d 35 4 [a0, some (.int x)] (st) w Q = Wp d 35 5 [a0, some (.int x)] (.int x :: st) w Q := Wp.loc e35_4 rfl rfl rfl
theorem e35_5 : decode (j_co 35) 5 = .ok (.iconst 3, 1) := by decide +kernel
set_option maxRecDepth 20000 in
theorem w35_5 {d : Nat} {st : List Value} {Q : Option Value × jW → Prop} {ls : jL} {w : jW} : Wp d 35 5 ls (st) w Q = Wp d 35 6 ls (.int (nI 3) :: st) w Q := Wp.alu e35_5 rfl rfl
theorem e35_6 : decode (j_co 35) 6 = .ok (.if_icmp .ge 16, 3) := by decide +kernel
set_option maxRecDepth 20000 in
theorem w35_6 {d : Nat} {st : List Value} {Q : Option Value × jW → Prop} {ls : jL} {w : jW} {a b : Int32} : Wp d 35 6 ls (.int b :: .int a :: st) w Q = ((b ≤ a → Wp d 35 22 ls st w Q) ∧ (¬ b ≤ a → Wp d 35 9 ls st w Q)) := Wp.if2 (c := b ≤ a) (off := 16) e35_6 rfl rfl rfl rfl rfl
theorem e35_9 : decode (j_co 35) 9 = .ok (.aload_n 0, 1) := by decide +kernel
set_option maxRecDepth 20000 in
theorem w35_9 {d : Nat} {st : List Value} {Q : Option Value × jW → Prop} {w : jW} {a1 : Option Value} {x : Nat} : Wp d 35 9 [some (.ref x), a1] (st) w Q = Wp d 35 10 [some (.ref x), a1] (.ref x :: st) w Q := Wp.loc e35_9 rfl rfl rfl
theorem e35_10 : decode (j_co 35) 10 = .ok (.getfield 9, 3) := by decide +kernel
set_option maxRecDepth 20000 in
theorem w35_10 {d : Nat} {st : List Value} {Q : Option Value × jW → Prop} {ls : jL} {xs : List Value} {I : fI} {L : fL} {o : Nat} (ht : f_tg o = 0) : Wp d 35 10 ls (.ref o :: st) (f_W xs I L) Q = Wp d 35 13 ls (.ref (f_rf o 0) :: st) (f_W xs I L) Q := Wp.getR (ci := 0) (k := 0) e35_10 rfl (by decide) (by decide) rfl ht
theorem e35_13 : decode (j_co 35) 13 = .ok (.iconst 2, 1) := by decide +kernel
set_option maxRecDepth 20000 in
theorem w35_13 {d : Nat} {st : List Value} {Q : Option Value × jW → Prop} {ls : jL} {w : jW} : Wp d 35 13 ls (st) w Q = Wp d 35 14 ls (.int (nI 2) :: st) w Q := Wp.alu e35_13 rfl rfl
theorem e35_14 : decode (j_co 35) 14 = .ok (.iload_n 1, 1) := by decide +kernel
set_option maxRecDepth 20000 in
theorem w35_14 {d : Nat} {st : List Value} {Q : Option Value × jW → Prop} {w : jW} {a0 : Option Value} {x : Int32} : Wp d 35 14 [a0, some (.int x)] (st) w Q = Wp d 35 15 [a0, some (.int x)] (.int x :: st) w Q := Wp.loc e35_14 rfl rfl rfl
theorem e35_15 : decode (j_co 35) 15 = .ok (.imul, 1) := by decide +kernel
set_option maxRecDepth 20000 in
theorem w35_15 {d : Nat} {st : List Value} {Q : Option Value × jW → Prop} {ls : jL} {w : jW} {a b : Int32} : Wp d 35 15 ls (.int b :: .int a :: st) w Q = Wp d 35 16 ls (.int (a * b) :: st) w Q := Wp.alu e35_15 rfl rfl
theorem e35_16 : decode (j_co 35) 16 = .ok (.iconst 1, 1) := by decide +kernel
set_option maxRecDepth 20000 in
theorem w35_16 {d : Nat} {st : List Value} {Q : Option Value × jW → Prop} {ls : jL} {w : jW} : Wp d 35 16 ls (st) w Q = Wp d 35 17 ls (.int (nI 1) :: st) w Q := Wp.alu e35_16 rfl rfl
theorem e35_17 : decode (j_co 35) 17 = .ok (.iadd, 1) := by decide +kernel
set_option maxRecDepth 20000 in
theorem w35_17 {d : Nat} {st : List Value} {Q : Option Value × jW → Prop} {ls : jL} {w : jW} {a b : Int32} : Wp d 35 17 ls (.int b :: .int a :: st) w Q = Wp d 35 18 ls (.int (a + b) :: st) w Q := Wp.alu e35_17 rfl rfl
theorem e35_18 : decode (j_co 35) 18 = .ok (.iaload, 1) := by decide +kernel
set_option maxRecDepth 20000 in
theorem w35_18 {d : Nat} {st : List Value} {Q : Option Value × jW → Prop} {ls : jL} {xs : List Value} {I : fI} {L : fL} {o : Nat} {i : Int32} (ht : f_tg o = 100) (hi : ¬ (i < 0 ∨ f_ln o ≤ i.toNatClampNeg)) : Wp d 35 18 ls (.int i :: .ref o :: st) (f_W xs I L) Q = Wp d 35 19 ls (.int (I o i.toNatClampNeg) :: st) (f_W xs I L) Q := Wp.iald e35_18 ht hi
theorem e35_19 : decode (j_co 35) 19 = .ok (.goto 4, 3) := by decide +kernel
set_option maxRecDepth 20000 in
theorem w35_19 {d : Nat} {st : List Value} {Q : Option Value × jW → Prop} {ls : jL} {w : jW} : Wp d 35 19 ls (st) w Q = Wp d 35 23 ls (st) w Q := Wp.br e35_19 (Or.inl rfl) rfl rfl rfl rfl
theorem e35_22 : decode (j_co 35) 22 = .ok (.iconst 0, 1) := by decide +kernel
set_option maxRecDepth 20000 in
theorem w35_22 {d : Nat} {st : List Value} {Q : Option Value × jW → Prop} {ls : jL} {w : jW} : Wp d 35 22 ls (st) w Q = Wp d 35 23 ls (.int (nI 0) :: st) w Q := Wp.alu e35_22 rfl rfl
theorem e35_23 : decode (j_co 35) 23 = .ok (.ireturn, 1) := by decide +kernel
set_option maxRecDepth 20000 in
theorem w35_23 {d : Nat} {Q : Option Value × jW → Prop} {ls : jL} {w : jW} {x : Int32} : Wp d 35 23 ls [.int x] w Q = Q (some (.int x), w) := Wp.ret e35_23 rfl
/-! Box.isEmpty -/
theorem e37_0 : decode (j_co 37) 0 = .ok (.iconst 0, 1) := by decide +kernel
set_option maxRecDepth 20000 in
theorem w37_0 {d : Nat} {st : List Value} {Q : Option Value × jW → Prop} {ls : jL} {w : jW} : Wp d 37 0 ls (st) w Q = Wp d 37 1 ls (.int (nI 0) :: st) w Q := Wp.alu e37_0 rfl rfl
theorem e37_1 : decode (j_co 37) 1 = .ok (.istore_n 1, 1) := by decide +kernel
set_option maxRecDepth 20000 in
theorem w37_1 {d : Nat} {st : List Value} {Q : Option Value × jW → Prop} {w : jW} {a0 a1 : Option Value} {x : Int32} (h : j_cp a0) : Wp d 37 1 [a0, a1] (.int x :: st) w Q = Wp d 37 2 [a0, some (.int x)] (st) w Q := Wp.loc e37_1 rfl rfl (v_stI (ls := [a0, a1]) (k := 1) (show 1 < 2 by decide) h)
theorem e37_2 : decode (j_co 37) 2 = .ok (.iload_n 1, 1) := by decide +kernel
set_option maxRecDepth 20000 in
theorem w37_2 {d : Nat} {st : List Value} {Q : Option Value × jW → Prop} {w : jW} {a0 : Option Value} {x : Int32} : Wp d 37 2 [a0, some (.int x)] (st) w Q = Wp d 37 3 [a0, some (.int x)] (.int x :: st) w Q := Wp.loc e37_2 rfl rfl rfl
theorem e37_3 : decode (j_co 37) 3 = .ok (.iconst 3, 1) := by decide +kernel
set_option maxRecDepth 20000 in
theorem w37_3 {d : Nat} {st : List Value} {Q : Option Value × jW → Prop} {ls : jL} {w : jW} : Wp d 37 3 ls (st) w Q = Wp d 37 4 ls (.int (nI 3) :: st) w Q := Wp.alu e37_3 rfl rfl
theorem e37_4 : decode (j_co 37) 4 = .ok (.if_icmp .ge 24, 3) := by decide +kernel
set_option maxRecDepth 20000 in
theorem w37_4 {d : Nat} {st : List Value} {Q : Option Value × jW → Prop} {ls : jL} {w : jW} {a b : Int32} : Wp d 37 4 ls (.int b :: .int a :: st) w Q = ((b ≤ a → Wp d 37 28 ls st w Q) ∧ (¬ b ≤ a → Wp d 37 7 ls st w Q)) := Wp.if2 (c := b ≤ a) (off := 24) e37_4 rfl rfl rfl rfl rfl
theorem e37_7 : decode (j_co 37) 7 = .ok (.aload_n 0, 1) := by decide +kernel
set_option maxRecDepth 20000 in
theorem w37_7 {d : Nat} {st : List Value} {Q : Option Value × jW → Prop} {w : jW} {a1 : Option Value} {x : Nat} : Wp d 37 7 [some (.ref x), a1] (st) w Q = Wp d 37 8 [some (.ref x), a1] (.ref x :: st) w Q := Wp.loc e37_7 rfl rfl rfl
theorem e37_8 : decode (j_co 37) 8 = .ok (.iload_n 1, 1) := by decide +kernel
set_option maxRecDepth 20000 in
theorem w37_8 {d : Nat} {st : List Value} {Q : Option Value × jW → Prop} {w : jW} {a0 : Option Value} {x : Int32} : Wp d 37 8 [a0, some (.int x)] (st) w Q = Wp d 37 9 [a0, some (.int x)] (.int x :: st) w Q := Wp.loc e37_8 rfl rfl rfl
theorem e37_9 : decode (j_co 37) 9 = .ok (.invokevirtual 19, 3) := by decide +kernel
set_option maxRecDepth 20000 in
theorem w37_9 {d : Nat} {st : List Value} {Q : Option Value × jW → Prop} {ls : jL} {xs : List Value} {I : fI} {L : fL} {r : Nat} {x0 : Int32} (hs : j_sumc st ≤ 8) (ht : f_tg r = 0) : Wp (d + 1) 37 9 ls (.int x0 :: .ref r :: st) (f_W xs I L) Q = Wp d 33 0 [some (.ref r), some (.int x0)] [] (f_W xs I L) (fun r1 => Wp (d + 1) 37 12 ls (r1.1.toList ++ st) r1.2 Q) := Wp.cv (y' := 33) (as := [.int x0]) e37_9 rfl (by decide) rfl (show 2 ≤ 2 by decide) (by decide) hs ht
theorem e37_12 : decode (j_co 37) 12 = .ok (.aload_n 0, 1) := by decide +kernel
set_option maxRecDepth 20000 in
theorem w37_12 {d : Nat} {st : List Value} {Q : Option Value × jW → Prop} {w : jW} {a1 : Option Value} {x : Nat} : Wp d 37 12 [some (.ref x), a1] (st) w Q = Wp d 37 13 [some (.ref x), a1] (.ref x :: st) w Q := Wp.loc e37_12 rfl rfl rfl
theorem e37_13 : decode (j_co 37) 13 = .ok (.iload_n 1, 1) := by decide +kernel
set_option maxRecDepth 20000 in
theorem w37_13 {d : Nat} {st : List Value} {Q : Option Value × jW → Prop} {w : jW} {a0 : Option Value} {x : Int32} : Wp d 37 13 [a0, some (.int x)] (st) w Q = Wp d 37 14 [a0, some (.int x)] (.int x :: st) w Q := Wp.loc e37_13 rfl rfl rfl
theorem e37_14 : decode (j_co 37) 14 = .ok (.invokevirtual 23, 3) := by decide +kernel
set_option maxRecDepth 20000 in
theorem w37_14 {d : Nat} {st : List Value} {Q : Option Value × jW → Prop} {ls : jL} {xs : List Value} {I : fI} {L : fL} {r : Nat} {x0 : Int32} (hs : j_sumc st ≤ 8) (ht : f_tg r = 0) : Wp (d + 1) 37 14 ls (.int x0 :: .ref r :: st) (f_W xs I L) Q = Wp d 35 0 [some (.ref r), some (.int x0)] [] (f_W xs I L) (fun r1 => Wp (d + 1) 37 17 ls (r1.1.toList ++ st) r1.2 Q) := Wp.cv (y' := 35) (as := [.int x0]) e37_14 rfl (by decide) rfl (show 2 ≤ 2 by decide) (by decide) hs ht
theorem e37_17 : decode (j_co 37) 17 = .ok (.if_icmp .le 5, 3) := by decide +kernel
set_option maxRecDepth 20000 in
theorem w37_17 {d : Nat} {st : List Value} {Q : Option Value × jW → Prop} {ls : jL} {w : jW} {a b : Int32} : Wp d 37 17 ls (.int b :: .int a :: st) w Q = ((a ≤ b → Wp d 37 22 ls st w Q) ∧ (¬ a ≤ b → Wp d 37 20 ls st w Q)) := Wp.if2 (c := a ≤ b) (off := 5) e37_17 rfl rfl rfl rfl rfl
theorem e37_20 : decode (j_co 37) 20 = .ok (.iconst 1, 1) := by decide +kernel
set_option maxRecDepth 20000 in
theorem w37_20 {d : Nat} {st : List Value} {Q : Option Value × jW → Prop} {ls : jL} {w : jW} : Wp d 37 20 ls (st) w Q = Wp d 37 21 ls (.int (nI 1) :: st) w Q := Wp.alu e37_20 rfl rfl
theorem e37_21 : decode (j_co 37) 21 = .ok (.ireturn, 1) := by decide +kernel
set_option maxRecDepth 20000 in
theorem w37_21 {d : Nat} {Q : Option Value × jW → Prop} {ls : jL} {w : jW} {x : Int32} (hx : x = 0 ∨ x = 1) : Wp d 37 21 ls [.int x] w Q = Q (some (.int x), w) := Wp.ret e37_21 (by rcases hx with rfl | rfl <;> rfl)
theorem e37_22 : decode (j_co 37) 22 = .ok (.iinc 1 1, 3) := by decide +kernel
set_option maxRecDepth 20000 in
theorem w37_22 {d : Nat} {st : List Value} {Q : Option Value × jW → Prop} {w : jW} {a0 : Option Value} {x : Int32} (h : j_cp a0) : Wp d 37 22 [a0, some (.int x)] (st) w Q = Wp d 37 25 [a0, some (.int (x + nI 1))] (st) w Q := Wp.loc e37_22 rfl rfl (v_inc (ls := [a0, some (.int x)]) (k := 1) (n := 1) rfl (show 1 < 2 by decide) h)
theorem e37_25 : decode (j_co 37) 25 = .ok (.goto (-23), 3) := by decide +kernel
set_option maxRecDepth 20000 in
theorem w37_25 {d : Nat} {st : List Value} {Q : Option Value × jW → Prop} {ls : jL} {w : jW} : Wp d 37 25 ls (st) w Q = Wp d 37 2 ls (st) w Q := Wp.br e37_25 (Or.inl rfl) rfl rfl rfl rfl
theorem e37_28 : decode (j_co 37) 28 = .ok (.iconst 0, 1) := by decide +kernel
set_option maxRecDepth 20000 in
theorem w37_28 {d : Nat} {st : List Value} {Q : Option Value × jW → Prop} {ls : jL} {w : jW} : Wp d 37 28 ls (st) w Q = Wp d 37 29 ls (.int (nI 0) :: st) w Q := Wp.alu e37_28 rfl rfl
theorem e37_29 : decode (j_co 37) 29 = .ok (.ireturn, 1) := by decide +kernel
set_option maxRecDepth 20000 in
theorem w37_29 {d : Nat} {Q : Option Value × jW → Prop} {ls : jL} {w : jW} {x : Int32} (hx : x = 0 ∨ x = 1) : Wp d 37 29 ls [.int x] w Q = Q (some (.int x), w) := Wp.ret e37_29 (by rcases hx with rfl | rfl <;> rfl)
/-! Box.shift -/
theorem e43_0 : decode (j_co 43) 0 = .ok (.iconst 0, 1) := by decide +kernel
set_option maxRecDepth 20000 in
theorem w43_0 {d : Nat} {st : List Value} {Q : Option Value × jW → Prop} {ls : jL} {w : jW} : Wp d 43 0 ls (st) w Q = Wp d 43 1 ls (.int (nI 0) :: st) w Q := Wp.alu e43_0 rfl rfl
theorem e43_1 : decode (j_co 43) 1 = .ok (.istore_n 2, 1) := by decide +kernel
set_option maxRecDepth 20000 in
theorem w43_1 {d : Nat} {st : List Value} {Q : Option Value × jW → Prop} {w : jW} {a0 a1 a2 : Option Value} {x : Int32} (h : j_cp a1) : Wp d 43 1 [a0, a1, a2] (.int x :: st) w Q = Wp d 43 2 [a0, a1, some (.int x)] (st) w Q := Wp.loc e43_1 rfl rfl (v_stI (ls := [a0, a1, a2]) (k := 2) (show 2 < 3 by decide) h)
theorem e43_2 : decode (j_co 43) 2 = .ok (.iload_n 2, 1) := by decide +kernel
set_option maxRecDepth 20000 in
theorem w43_2 {d : Nat} {st : List Value} {Q : Option Value × jW → Prop} {w : jW} {a0 a1 : Option Value} {x : Int32} : Wp d 43 2 [a0, a1, some (.int x)] (st) w Q = Wp d 43 3 [a0, a1, some (.int x)] (.int x :: st) w Q := Wp.loc e43_2 rfl rfl rfl
theorem e43_3 : decode (j_co 43) 3 = .ok (.iconst 3, 1) := by decide +kernel
set_option maxRecDepth 20000 in
theorem w43_3 {d : Nat} {st : List Value} {Q : Option Value × jW → Prop} {ls : jL} {w : jW} : Wp d 43 3 ls (st) w Q = Wp d 43 4 ls (.int (nI 3) :: st) w Q := Wp.alu e43_3 rfl rfl
theorem e43_4 : decode (j_co 43) 4 = .ok (.if_icmp .ge 36, 3) := by decide +kernel
set_option maxRecDepth 20000 in
theorem w43_4 {d : Nat} {st : List Value} {Q : Option Value × jW → Prop} {ls : jL} {w : jW} {a b : Int32} : Wp d 43 4 ls (.int b :: .int a :: st) w Q = ((b ≤ a → Wp d 43 40 ls st w Q) ∧ (¬ b ≤ a → Wp d 43 7 ls st w Q)) := Wp.if2 (c := b ≤ a) (off := 36) e43_4 rfl rfl rfl rfl rfl
theorem e43_7 : decode (j_co 43) 7 = .ok (.aload_n 0, 1) := by decide +kernel
set_option maxRecDepth 20000 in
theorem w43_7 {d : Nat} {st : List Value} {Q : Option Value × jW → Prop} {w : jW} {a1 a2 : Option Value} {x : Nat} : Wp d 43 7 [some (.ref x), a1, a2] (st) w Q = Wp d 43 8 [some (.ref x), a1, a2] (.ref x :: st) w Q := Wp.loc e43_7 rfl rfl rfl
theorem e43_8 : decode (j_co 43) 8 = .ok (.iload_n 2, 1) := by decide +kernel
set_option maxRecDepth 20000 in
theorem w43_8 {d : Nat} {st : List Value} {Q : Option Value × jW → Prop} {w : jW} {a0 a1 : Option Value} {x : Int32} : Wp d 43 8 [a0, a1, some (.int x)] (st) w Q = Wp d 43 9 [a0, a1, some (.int x)] (.int x :: st) w Q := Wp.loc e43_8 rfl rfl rfl
theorem e43_9 : decode (j_co 43) 9 = .ok (.aload_n 0, 1) := by decide +kernel
set_option maxRecDepth 20000 in
theorem w43_9 {d : Nat} {st : List Value} {Q : Option Value × jW → Prop} {w : jW} {a1 a2 : Option Value} {x : Nat} : Wp d 43 9 [some (.ref x), a1, a2] (st) w Q = Wp d 43 10 [some (.ref x), a1, a2] (.ref x :: st) w Q := Wp.loc e43_9 rfl rfl rfl
theorem e43_10 : decode (j_co 43) 10 = .ok (.iload_n 2, 1) := by decide +kernel
set_option maxRecDepth 20000 in
theorem w43_10 {d : Nat} {st : List Value} {Q : Option Value × jW → Prop} {w : jW} {a0 a1 : Option Value} {x : Int32} : Wp d 43 10 [a0, a1, some (.int x)] (st) w Q = Wp d 43 11 [a0, a1, some (.int x)] (.int x :: st) w Q := Wp.loc e43_10 rfl rfl rfl
theorem e43_11 : decode (j_co 43) 11 = .ok (.invokevirtual 19, 3) := by decide +kernel
set_option maxRecDepth 20000 in
theorem w43_11 {d : Nat} {st : List Value} {Q : Option Value × jW → Prop} {ls : jL} {xs : List Value} {I : fI} {L : fL} {r : Nat} {x0 : Int32} (hs : j_sumc st ≤ 8) (ht : f_tg r = 0) : Wp (d + 1) 43 11 ls (.int x0 :: .ref r :: st) (f_W xs I L) Q = Wp d 33 0 [some (.ref r), some (.int x0)] [] (f_W xs I L) (fun r1 => Wp (d + 1) 43 14 ls (r1.1.toList ++ st) r1.2 Q) := Wp.cv (y' := 33) (as := [.int x0]) e43_11 rfl (by decide) rfl (show 2 ≤ 2 by decide) (by decide) hs ht
theorem e43_14 : decode (j_co 43) 14 = .ok (.aload_n 1, 1) := by decide +kernel
set_option maxRecDepth 20000 in
theorem w43_14 {d : Nat} {st : List Value} {Q : Option Value × jW → Prop} {w : jW} {a0 a2 : Option Value} {x : Nat} : Wp d 43 14 [a0, some (.ref x), a2] (st) w Q = Wp d 43 15 [a0, some (.ref x), a2] (.ref x :: st) w Q := Wp.loc e43_14 rfl rfl rfl
theorem e43_15 : decode (j_co 43) 15 = .ok (.iload_n 2, 1) := by decide +kernel
set_option maxRecDepth 20000 in
theorem w43_15 {d : Nat} {st : List Value} {Q : Option Value × jW → Prop} {w : jW} {a0 a1 : Option Value} {x : Int32} : Wp d 43 15 [a0, a1, some (.int x)] (st) w Q = Wp d 43 16 [a0, a1, some (.int x)] (.int x :: st) w Q := Wp.loc e43_15 rfl rfl rfl
theorem e43_16 : decode (j_co 43) 16 = .ok (.invokevirtual 19, 3) := by decide +kernel
set_option maxRecDepth 20000 in
theorem w43_16 {d : Nat} {st : List Value} {Q : Option Value × jW → Prop} {ls : jL} {xs : List Value} {I : fI} {L : fL} {r : Nat} {x0 : Int32} (hs : j_sumc st ≤ 8) (ht : f_tg r = 0) : Wp (d + 1) 43 16 ls (.int x0 :: .ref r :: st) (f_W xs I L) Q = Wp d 33 0 [some (.ref r), some (.int x0)] [] (f_W xs I L) (fun r1 => Wp (d + 1) 43 19 ls (r1.1.toList ++ st) r1.2 Q) := Wp.cv (y' := 33) (as := [.int x0]) e43_16 rfl (by decide) rfl (show 2 ≤ 2 by decide) (by decide) hs ht
theorem e43_19 : decode (j_co 43) 19 = .ok (.iadd, 1) := by decide +kernel
set_option maxRecDepth 20000 in
theorem w43_19 {d : Nat} {st : List Value} {Q : Option Value × jW → Prop} {ls : jL} {w : jW} {a b : Int32} : Wp d 43 19 ls (.int b :: .int a :: st) w Q = Wp d 43 20 ls (.int (a + b) :: st) w Q := Wp.alu e43_19 rfl rfl
theorem e43_20 : decode (j_co 43) 20 = .ok (.aload_n 0, 1) := by decide +kernel
set_option maxRecDepth 20000 in
theorem w43_20 {d : Nat} {st : List Value} {Q : Option Value × jW → Prop} {w : jW} {a1 a2 : Option Value} {x : Nat} : Wp d 43 20 [some (.ref x), a1, a2] (st) w Q = Wp d 43 21 [some (.ref x), a1, a2] (.ref x :: st) w Q := Wp.loc e43_20 rfl rfl rfl
theorem e43_21 : decode (j_co 43) 21 = .ok (.iload_n 2, 1) := by decide +kernel
set_option maxRecDepth 20000 in
theorem w43_21 {d : Nat} {st : List Value} {Q : Option Value × jW → Prop} {w : jW} {a0 a1 : Option Value} {x : Int32} : Wp d 43 21 [a0, a1, some (.int x)] (st) w Q = Wp d 43 22 [a0, a1, some (.int x)] (.int x :: st) w Q := Wp.loc e43_21 rfl rfl rfl
theorem e43_22 : decode (j_co 43) 22 = .ok (.invokevirtual 23, 3) := by decide +kernel
set_option maxRecDepth 20000 in
theorem w43_22 {d : Nat} {st : List Value} {Q : Option Value × jW → Prop} {ls : jL} {xs : List Value} {I : fI} {L : fL} {r : Nat} {x0 : Int32} (hs : j_sumc st ≤ 8) (ht : f_tg r = 0) : Wp (d + 1) 43 22 ls (.int x0 :: .ref r :: st) (f_W xs I L) Q = Wp d 35 0 [some (.ref r), some (.int x0)] [] (f_W xs I L) (fun r1 => Wp (d + 1) 43 25 ls (r1.1.toList ++ st) r1.2 Q) := Wp.cv (y' := 35) (as := [.int x0]) e43_22 rfl (by decide) rfl (show 2 ≤ 2 by decide) (by decide) hs ht
theorem e43_25 : decode (j_co 43) 25 = .ok (.aload_n 1, 1) := by decide +kernel
set_option maxRecDepth 20000 in
theorem w43_25 {d : Nat} {st : List Value} {Q : Option Value × jW → Prop} {w : jW} {a0 a2 : Option Value} {x : Nat} : Wp d 43 25 [a0, some (.ref x), a2] (st) w Q = Wp d 43 26 [a0, some (.ref x), a2] (.ref x :: st) w Q := Wp.loc e43_25 rfl rfl rfl
theorem e43_26 : decode (j_co 43) 26 = .ok (.iload_n 2, 1) := by decide +kernel
set_option maxRecDepth 20000 in
theorem w43_26 {d : Nat} {st : List Value} {Q : Option Value × jW → Prop} {w : jW} {a0 a1 : Option Value} {x : Int32} : Wp d 43 26 [a0, a1, some (.int x)] (st) w Q = Wp d 43 27 [a0, a1, some (.int x)] (.int x :: st) w Q := Wp.loc e43_26 rfl rfl rfl
theorem e43_27 : decode (j_co 43) 27 = .ok (.invokevirtual 23, 3) := by decide +kernel
set_option maxRecDepth 20000 in
theorem w43_27 {d : Nat} {st : List Value} {Q : Option Value × jW → Prop} {ls : jL} {xs : List Value} {I : fI} {L : fL} {r : Nat} {x0 : Int32} (hs : j_sumc st ≤ 8) (ht : f_tg r = 0) : Wp (d + 1) 43 27 ls (.int x0 :: .ref r :: st) (f_W xs I L) Q = Wp d 35 0 [some (.ref r), some (.int x0)] [] (f_W xs I L) (fun r1 => Wp (d + 1) 43 30 ls (r1.1.toList ++ st) r1.2 Q) := Wp.cv (y' := 35) (as := [.int x0]) e43_27 rfl (by decide) rfl (show 2 ≤ 2 by decide) (by decide) hs ht
theorem e43_30 : decode (j_co 43) 30 = .ok (.iadd, 1) := by decide +kernel
set_option maxRecDepth 20000 in
theorem w43_30 {d : Nat} {st : List Value} {Q : Option Value × jW → Prop} {ls : jL} {w : jW} {a b : Int32} : Wp d 43 30 ls (.int b :: .int a :: st) w Q = Wp d 43 31 ls (.int (a + b) :: st) w Q := Wp.alu e43_30 rfl rfl
theorem e43_31 : decode (j_co 43) 31 = .ok (.invokevirtual 15, 3) := by decide +kernel
set_option maxRecDepth 20000 in
theorem w43_31 {d : Nat} {st : List Value} {Q : Option Value × jW → Prop} {ls : jL} {xs : List Value} {I : fI} {L : fL} {r : Nat} {x0 : Int32} {x1 : Int32} {x2 : Int32} (hs : j_sumc st ≤ 8) (ht : f_tg r = 0) : Wp (d + 1) 43 31 ls (.int x2 :: .int x1 :: .int x0 :: .ref r :: st) (f_W xs I L) Q = Wp d 5 0 [some (.ref r), some (.int x0), some (.int x1), some (.int x2)] [] (f_W xs I L) (fun r1 => Wp (d + 1) 43 34 ls (r1.1.toList ++ st) r1.2 Q) := Wp.cv (y' := 5) (as := [.int x0, .int x1, .int x2]) e43_31 rfl (by decide) rfl (show 4 ≤ 4 by decide) (by decide) hs ht
theorem e43_34 : decode (j_co 43) 34 = .ok (.iinc 2 1, 3) := by decide +kernel
set_option maxRecDepth 20000 in
theorem w43_34 {d : Nat} {st : List Value} {Q : Option Value × jW → Prop} {w : jW} {a0 a1 : Option Value} {x : Int32} (h : j_cp a1) : Wp d 43 34 [a0, a1, some (.int x)] (st) w Q = Wp d 43 37 [a0, a1, some (.int (x + nI 1))] (st) w Q := Wp.loc e43_34 rfl rfl (v_inc (ls := [a0, a1, some (.int x)]) (k := 2) (n := 1) rfl (show 2 < 3 by decide) h)
theorem e43_37 : decode (j_co 43) 37 = .ok (.goto (-35), 3) := by decide +kernel
set_option maxRecDepth 20000 in
theorem w43_37 {d : Nat} {st : List Value} {Q : Option Value × jW → Prop} {ls : jL} {w : jW} : Wp d 43 37 ls (st) w Q = Wp d 43 2 ls (st) w Q := Wp.br e43_37 (Or.inl rfl) rfl rfl rfl rfl
theorem e43_40 : decode (j_co 43) 40 = .ok (.return_, 1) := by decide +kernel
set_option maxRecDepth 20000 in
theorem w43_40 {d : Nat} {Q : Option Value × jW → Prop} {ls : jL} {w : jW} : Wp d 43 40 ls [] w Q = Q (none, w) := Wp.ret e43_40 rfl
/-! Box.covers -/
theorem e45_0 : decode (j_co 45) 0 = .ok (.iconst 0, 1) := by decide +kernel
set_option maxRecDepth 20000 in
theorem w45_0 {d : Nat} {st : List Value} {Q : Option Value × jW → Prop} {ls : jL} {w : jW} : Wp d 45 0 ls (st) w Q = Wp d 45 1 ls (.int (nI 0) :: st) w Q := Wp.alu e45_0 rfl rfl
theorem e45_1 : decode (j_co 45) 1 = .ok (.istore_n 2, 1) := by decide +kernel
set_option maxRecDepth 20000 in
theorem w45_1 {d : Nat} {st : List Value} {Q : Option Value × jW → Prop} {w : jW} {a0 a1 a2 : Option Value} {x : Int32} (h : j_cp a1) : Wp d 45 1 [a0, a1, a2] (.int x :: st) w Q = Wp d 45 2 [a0, a1, some (.int x)] (st) w Q := Wp.loc e45_1 rfl rfl (v_stI (ls := [a0, a1, a2]) (k := 2) (show 2 < 3 by decide) h)
theorem e45_2 : decode (j_co 45) 2 = .ok (.iload_n 2, 1) := by decide +kernel
set_option maxRecDepth 20000 in
theorem w45_2 {d : Nat} {st : List Value} {Q : Option Value × jW → Prop} {w : jW} {a0 a1 : Option Value} {x : Int32} : Wp d 45 2 [a0, a1, some (.int x)] (st) w Q = Wp d 45 3 [a0, a1, some (.int x)] (.int x :: st) w Q := Wp.loc e45_2 rfl rfl rfl
theorem e45_3 : decode (j_co 45) 3 = .ok (.iconst 3, 1) := by decide +kernel
set_option maxRecDepth 20000 in
theorem w45_3 {d : Nat} {st : List Value} {Q : Option Value × jW → Prop} {ls : jL} {w : jW} : Wp d 45 3 ls (st) w Q = Wp d 45 4 ls (.int (nI 3) :: st) w Q := Wp.alu e45_3 rfl rfl
theorem e45_4 : decode (j_co 45) 4 = .ok (.if_icmp .ge 37, 3) := by decide +kernel
set_option maxRecDepth 20000 in
theorem w45_4 {d : Nat} {st : List Value} {Q : Option Value × jW → Prop} {ls : jL} {w : jW} {a b : Int32} : Wp d 45 4 ls (.int b :: .int a :: st) w Q = ((b ≤ a → Wp d 45 41 ls st w Q) ∧ (¬ b ≤ a → Wp d 45 7 ls st w Q)) := Wp.if2 (c := b ≤ a) (off := 37) e45_4 rfl rfl rfl rfl rfl
theorem e45_7 : decode (j_co 45) 7 = .ok (.aload_n 1, 1) := by decide +kernel
set_option maxRecDepth 20000 in
theorem w45_7 {d : Nat} {st : List Value} {Q : Option Value × jW → Prop} {w : jW} {a0 a2 : Option Value} {x : Nat} : Wp d 45 7 [a0, some (.ref x), a2] (st) w Q = Wp d 45 8 [a0, some (.ref x), a2] (.ref x :: st) w Q := Wp.loc e45_7 rfl rfl rfl
theorem e45_8 : decode (j_co 45) 8 = .ok (.iload_n 2, 1) := by decide +kernel
set_option maxRecDepth 20000 in
theorem w45_8 {d : Nat} {st : List Value} {Q : Option Value × jW → Prop} {w : jW} {a0 a1 : Option Value} {x : Int32} : Wp d 45 8 [a0, a1, some (.int x)] (st) w Q = Wp d 45 9 [a0, a1, some (.int x)] (.int x :: st) w Q := Wp.loc e45_8 rfl rfl rfl
theorem e45_9 : decode (j_co 45) 9 = .ok (.invokevirtual 19, 3) := by decide +kernel
set_option maxRecDepth 20000 in
theorem w45_9 {d : Nat} {st : List Value} {Q : Option Value × jW → Prop} {ls : jL} {xs : List Value} {I : fI} {L : fL} {r : Nat} {x0 : Int32} (hs : j_sumc st ≤ 8) (ht : f_tg r = 0) : Wp (d + 1) 45 9 ls (.int x0 :: .ref r :: st) (f_W xs I L) Q = Wp d 33 0 [some (.ref r), some (.int x0)] [] (f_W xs I L) (fun r1 => Wp (d + 1) 45 12 ls (r1.1.toList ++ st) r1.2 Q) := Wp.cv (y' := 33) (as := [.int x0]) e45_9 rfl (by decide) rfl (show 2 ≤ 2 by decide) (by decide) hs ht
theorem e45_12 : decode (j_co 45) 12 = .ok (.aload_n 0, 1) := by decide +kernel
set_option maxRecDepth 20000 in
theorem w45_12 {d : Nat} {st : List Value} {Q : Option Value × jW → Prop} {w : jW} {a1 a2 : Option Value} {x : Nat} : Wp d 45 12 [some (.ref x), a1, a2] (st) w Q = Wp d 45 13 [some (.ref x), a1, a2] (.ref x :: st) w Q := Wp.loc e45_12 rfl rfl rfl
theorem e45_13 : decode (j_co 45) 13 = .ok (.iload_n 2, 1) := by decide +kernel
set_option maxRecDepth 20000 in
theorem w45_13 {d : Nat} {st : List Value} {Q : Option Value × jW → Prop} {w : jW} {a0 a1 : Option Value} {x : Int32} : Wp d 45 13 [a0, a1, some (.int x)] (st) w Q = Wp d 45 14 [a0, a1, some (.int x)] (.int x :: st) w Q := Wp.loc e45_13 rfl rfl rfl
theorem e45_14 : decode (j_co 45) 14 = .ok (.invokevirtual 19, 3) := by decide +kernel
set_option maxRecDepth 20000 in
theorem w45_14 {d : Nat} {st : List Value} {Q : Option Value × jW → Prop} {ls : jL} {xs : List Value} {I : fI} {L : fL} {r : Nat} {x0 : Int32} (hs : j_sumc st ≤ 8) (ht : f_tg r = 0) : Wp (d + 1) 45 14 ls (.int x0 :: .ref r :: st) (f_W xs I L) Q = Wp d 33 0 [some (.ref r), some (.int x0)] [] (f_W xs I L) (fun r1 => Wp (d + 1) 45 17 ls (r1.1.toList ++ st) r1.2 Q) := Wp.cv (y' := 33) (as := [.int x0]) e45_14 rfl (by decide) rfl (show 2 ≤ 2 by decide) (by decide) hs ht
theorem e45_17 : decode (j_co 45) 17 = .ok (.if_icmp .lt 16, 3) := by decide +kernel
set_option maxRecDepth 20000 in
theorem w45_17 {d : Nat} {st : List Value} {Q : Option Value × jW → Prop} {ls : jL} {w : jW} {a b : Int32} : Wp d 45 17 ls (.int b :: .int a :: st) w Q = ((a < b → Wp d 45 33 ls st w Q) ∧ (¬ a < b → Wp d 45 20 ls st w Q)) := Wp.if2 (c := a < b) (off := 16) e45_17 rfl rfl rfl rfl rfl
theorem e45_20 : decode (j_co 45) 20 = .ok (.aload_n 1, 1) := by decide +kernel
set_option maxRecDepth 20000 in
theorem w45_20 {d : Nat} {st : List Value} {Q : Option Value × jW → Prop} {w : jW} {a0 a2 : Option Value} {x : Nat} : Wp d 45 20 [a0, some (.ref x), a2] (st) w Q = Wp d 45 21 [a0, some (.ref x), a2] (.ref x :: st) w Q := Wp.loc e45_20 rfl rfl rfl
theorem e45_21 : decode (j_co 45) 21 = .ok (.iload_n 2, 1) := by decide +kernel
set_option maxRecDepth 20000 in
theorem w45_21 {d : Nat} {st : List Value} {Q : Option Value × jW → Prop} {w : jW} {a0 a1 : Option Value} {x : Int32} : Wp d 45 21 [a0, a1, some (.int x)] (st) w Q = Wp d 45 22 [a0, a1, some (.int x)] (.int x :: st) w Q := Wp.loc e45_21 rfl rfl rfl
theorem e45_22 : decode (j_co 45) 22 = .ok (.invokevirtual 23, 3) := by decide +kernel
set_option maxRecDepth 20000 in
theorem w45_22 {d : Nat} {st : List Value} {Q : Option Value × jW → Prop} {ls : jL} {xs : List Value} {I : fI} {L : fL} {r : Nat} {x0 : Int32} (hs : j_sumc st ≤ 8) (ht : f_tg r = 0) : Wp (d + 1) 45 22 ls (.int x0 :: .ref r :: st) (f_W xs I L) Q = Wp d 35 0 [some (.ref r), some (.int x0)] [] (f_W xs I L) (fun r1 => Wp (d + 1) 45 25 ls (r1.1.toList ++ st) r1.2 Q) := Wp.cv (y' := 35) (as := [.int x0]) e45_22 rfl (by decide) rfl (show 2 ≤ 2 by decide) (by decide) hs ht
theorem e45_25 : decode (j_co 45) 25 = .ok (.aload_n 0, 1) := by decide +kernel
set_option maxRecDepth 20000 in
theorem w45_25 {d : Nat} {st : List Value} {Q : Option Value × jW → Prop} {w : jW} {a1 a2 : Option Value} {x : Nat} : Wp d 45 25 [some (.ref x), a1, a2] (st) w Q = Wp d 45 26 [some (.ref x), a1, a2] (.ref x :: st) w Q := Wp.loc e45_25 rfl rfl rfl
theorem e45_26 : decode (j_co 45) 26 = .ok (.iload_n 2, 1) := by decide +kernel
set_option maxRecDepth 20000 in
theorem w45_26 {d : Nat} {st : List Value} {Q : Option Value × jW → Prop} {w : jW} {a0 a1 : Option Value} {x : Int32} : Wp d 45 26 [a0, a1, some (.int x)] (st) w Q = Wp d 45 27 [a0, a1, some (.int x)] (.int x :: st) w Q := Wp.loc e45_26 rfl rfl rfl
theorem e45_27 : decode (j_co 45) 27 = .ok (.invokevirtual 23, 3) := by decide +kernel
set_option maxRecDepth 20000 in
theorem w45_27 {d : Nat} {st : List Value} {Q : Option Value × jW → Prop} {ls : jL} {xs : List Value} {I : fI} {L : fL} {r : Nat} {x0 : Int32} (hs : j_sumc st ≤ 8) (ht : f_tg r = 0) : Wp (d + 1) 45 27 ls (.int x0 :: .ref r :: st) (f_W xs I L) Q = Wp d 35 0 [some (.ref r), some (.int x0)] [] (f_W xs I L) (fun r1 => Wp (d + 1) 45 30 ls (r1.1.toList ++ st) r1.2 Q) := Wp.cv (y' := 35) (as := [.int x0]) e45_27 rfl (by decide) rfl (show 2 ≤ 2 by decide) (by decide) hs ht
theorem e45_30 : decode (j_co 45) 30 = .ok (.if_icmp .le 5, 3) := by decide +kernel
set_option maxRecDepth 20000 in
theorem w45_30 {d : Nat} {st : List Value} {Q : Option Value × jW → Prop} {ls : jL} {w : jW} {a b : Int32} : Wp d 45 30 ls (.int b :: .int a :: st) w Q = ((a ≤ b → Wp d 45 35 ls st w Q) ∧ (¬ a ≤ b → Wp d 45 33 ls st w Q)) := Wp.if2 (c := a ≤ b) (off := 5) e45_30 rfl rfl rfl rfl rfl
theorem e45_33 : decode (j_co 45) 33 = .ok (.iconst 0, 1) := by decide +kernel
set_option maxRecDepth 20000 in
theorem w45_33 {d : Nat} {st : List Value} {Q : Option Value × jW → Prop} {ls : jL} {w : jW} : Wp d 45 33 ls (st) w Q = Wp d 45 34 ls (.int (nI 0) :: st) w Q := Wp.alu e45_33 rfl rfl
theorem e45_34 : decode (j_co 45) 34 = .ok (.ireturn, 1) := by decide +kernel
set_option maxRecDepth 20000 in
theorem w45_34 {d : Nat} {Q : Option Value × jW → Prop} {ls : jL} {w : jW} {x : Int32} (hx : x = 0 ∨ x = 1) : Wp d 45 34 ls [.int x] w Q = Q (some (.int x), w) := Wp.ret e45_34 (by rcases hx with rfl | rfl <;> rfl)
theorem e45_35 : decode (j_co 45) 35 = .ok (.iinc 2 1, 3) := by decide +kernel
set_option maxRecDepth 20000 in
theorem w45_35 {d : Nat} {st : List Value} {Q : Option Value × jW → Prop} {w : jW} {a0 a1 : Option Value} {x : Int32} (h : j_cp a1) : Wp d 45 35 [a0, a1, some (.int x)] (st) w Q = Wp d 45 38 [a0, a1, some (.int (x + nI 1))] (st) w Q := Wp.loc e45_35 rfl rfl (v_inc (ls := [a0, a1, some (.int x)]) (k := 2) (n := 1) rfl (show 2 < 3 by decide) h)
theorem e45_38 : decode (j_co 45) 38 = .ok (.goto (-36), 3) := by decide +kernel
set_option maxRecDepth 20000 in
theorem w45_38 {d : Nat} {st : List Value} {Q : Option Value × jW → Prop} {ls : jL} {w : jW} : Wp d 45 38 ls (st) w Q = Wp d 45 2 ls (st) w Q := Wp.br e45_38 (Or.inl rfl) rfl rfl rfl rfl
theorem e45_41 : decode (j_co 45) 41 = .ok (.iconst 1, 1) := by decide +kernel
set_option maxRecDepth 20000 in
theorem w45_41 {d : Nat} {st : List Value} {Q : Option Value × jW → Prop} {ls : jL} {w : jW} : Wp d 45 41 ls (st) w Q = Wp d 45 42 ls (.int (nI 1) :: st) w Q := Wp.alu e45_41 rfl rfl
theorem e45_42 : decode (j_co 45) 42 = .ok (.ireturn, 1) := by decide +kernel
set_option maxRecDepth 20000 in
theorem w45_42 {d : Nat} {Q : Option Value × jW → Prop} {ls : jL} {w : jW} {x : Int32} (hx : x = 0 ∨ x = 1) : Wp d 45 42 ls [.int x] w Q = Q (some (.int x), w) := Wp.ret e45_42 (by rcases hx with rfl | rfl <;> rfl)
/-! Box.join -/
theorem e46_0 : decode (j_co 46) 0 = .ok (.iconst 0, 1) := by decide +kernel
set_option maxRecDepth 20000 in
theorem w46_0 {d : Nat} {st : List Value} {Q : Option Value × jW → Prop} {ls : jL} {w : jW} : Wp d 46 0 ls (st) w Q = Wp d 46 1 ls (.int (nI 0) :: st) w Q := Wp.alu e46_0 rfl rfl
theorem e46_1 : decode (j_co 46) 1 = .ok (.istore_n 2, 1) := by decide +kernel
set_option maxRecDepth 20000 in
theorem w46_1 {d : Nat} {st : List Value} {Q : Option Value × jW → Prop} {w : jW} {a0 a1 a2 : Option Value} {x : Int32} (h : j_cp a1) : Wp d 46 1 [a0, a1, a2] (.int x :: st) w Q = Wp d 46 2 [a0, a1, some (.int x)] (st) w Q := Wp.loc e46_1 rfl rfl (v_stI (ls := [a0, a1, a2]) (k := 2) (show 2 < 3 by decide) h)
theorem e46_2 : decode (j_co 46) 2 = .ok (.iload_n 2, 1) := by decide +kernel
set_option maxRecDepth 20000 in
theorem w46_2 {d : Nat} {st : List Value} {Q : Option Value × jW → Prop} {w : jW} {a0 a1 : Option Value} {x : Int32} : Wp d 46 2 [a0, a1, some (.int x)] (st) w Q = Wp d 46 3 [a0, a1, some (.int x)] (.int x :: st) w Q := Wp.loc e46_2 rfl rfl rfl
theorem e46_3 : decode (j_co 46) 3 = .ok (.iconst 3, 1) := by decide +kernel
set_option maxRecDepth 20000 in
theorem w46_3 {d : Nat} {st : List Value} {Q : Option Value × jW → Prop} {ls : jL} {w : jW} : Wp d 46 3 ls (st) w Q = Wp d 46 4 ls (.int (nI 3) :: st) w Q := Wp.alu e46_3 rfl rfl
theorem e46_4 : decode (j_co 46) 4 = .ok (.if_icmp .ge 40, 3) := by decide +kernel
set_option maxRecDepth 20000 in
theorem w46_4 {d : Nat} {st : List Value} {Q : Option Value × jW → Prop} {ls : jL} {w : jW} {a b : Int32} : Wp d 46 4 ls (.int b :: .int a :: st) w Q = ((b ≤ a → Wp d 46 44 ls st w Q) ∧ (¬ b ≤ a → Wp d 46 7 ls st w Q)) := Wp.if2 (c := b ≤ a) (off := 40) e46_4 rfl rfl rfl rfl rfl
theorem e46_7 : decode (j_co 46) 7 = .ok (.aload_n 0, 1) := by decide +kernel
set_option maxRecDepth 20000 in
theorem w46_7 {d : Nat} {st : List Value} {Q : Option Value × jW → Prop} {w : jW} {a1 a2 : Option Value} {x : Nat} : Wp d 46 7 [some (.ref x), a1, a2] (st) w Q = Wp d 46 8 [some (.ref x), a1, a2] (.ref x :: st) w Q := Wp.loc e46_7 rfl rfl rfl
theorem e46_8 : decode (j_co 46) 8 = .ok (.iload_n 2, 1) := by decide +kernel
set_option maxRecDepth 20000 in
theorem w46_8 {d : Nat} {st : List Value} {Q : Option Value × jW → Prop} {w : jW} {a0 a1 : Option Value} {x : Int32} : Wp d 46 8 [a0, a1, some (.int x)] (st) w Q = Wp d 46 9 [a0, a1, some (.int x)] (.int x :: st) w Q := Wp.loc e46_8 rfl rfl rfl
theorem e46_9 : decode (j_co 46) 9 = .ok (.aload_n 0, 1) := by decide +kernel
set_option maxRecDepth 20000 in
theorem w46_9 {d : Nat} {st : List Value} {Q : Option Value × jW → Prop} {w : jW} {a1 a2 : Option Value} {x : Nat} : Wp d 46 9 [some (.ref x), a1, a2] (st) w Q = Wp d 46 10 [some (.ref x), a1, a2] (.ref x :: st) w Q := Wp.loc e46_9 rfl rfl rfl
theorem e46_10 : decode (j_co 46) 10 = .ok (.iload_n 2, 1) := by decide +kernel
set_option maxRecDepth 20000 in
theorem w46_10 {d : Nat} {st : List Value} {Q : Option Value × jW → Prop} {w : jW} {a0 a1 : Option Value} {x : Int32} : Wp d 46 10 [a0, a1, some (.int x)] (st) w Q = Wp d 46 11 [a0, a1, some (.int x)] (.int x :: st) w Q := Wp.loc e46_10 rfl rfl rfl
theorem e46_11 : decode (j_co 46) 11 = .ok (.invokevirtual 19, 3) := by decide +kernel
set_option maxRecDepth 20000 in
theorem w46_11 {d : Nat} {st : List Value} {Q : Option Value × jW → Prop} {ls : jL} {xs : List Value} {I : fI} {L : fL} {r : Nat} {x0 : Int32} (hs : j_sumc st ≤ 8) (ht : f_tg r = 0) : Wp (d + 1) 46 11 ls (.int x0 :: .ref r :: st) (f_W xs I L) Q = Wp d 33 0 [some (.ref r), some (.int x0)] [] (f_W xs I L) (fun r1 => Wp (d + 1) 46 14 ls (r1.1.toList ++ st) r1.2 Q) := Wp.cv (y' := 33) (as := [.int x0]) e46_11 rfl (by decide) rfl (show 2 ≤ 2 by decide) (by decide) hs ht
theorem e46_14 : decode (j_co 46) 14 = .ok (.aload_n 1, 1) := by decide +kernel
set_option maxRecDepth 20000 in
theorem w46_14 {d : Nat} {st : List Value} {Q : Option Value × jW → Prop} {w : jW} {a0 a2 : Option Value} {x : Nat} : Wp d 46 14 [a0, some (.ref x), a2] (st) w Q = Wp d 46 15 [a0, some (.ref x), a2] (.ref x :: st) w Q := Wp.loc e46_14 rfl rfl rfl
theorem e46_15 : decode (j_co 46) 15 = .ok (.iload_n 2, 1) := by decide +kernel
set_option maxRecDepth 20000 in
theorem w46_15 {d : Nat} {st : List Value} {Q : Option Value × jW → Prop} {w : jW} {a0 a1 : Option Value} {x : Int32} : Wp d 46 15 [a0, a1, some (.int x)] (st) w Q = Wp d 46 16 [a0, a1, some (.int x)] (.int x :: st) w Q := Wp.loc e46_15 rfl rfl rfl
theorem e46_16 : decode (j_co 46) 16 = .ok (.invokevirtual 19, 3) := by decide +kernel
set_option maxRecDepth 20000 in
theorem w46_16 {d : Nat} {st : List Value} {Q : Option Value × jW → Prop} {ls : jL} {xs : List Value} {I : fI} {L : fL} {r : Nat} {x0 : Int32} (hs : j_sumc st ≤ 8) (ht : f_tg r = 0) : Wp (d + 1) 46 16 ls (.int x0 :: .ref r :: st) (f_W xs I L) Q = Wp d 33 0 [some (.ref r), some (.int x0)] [] (f_W xs I L) (fun r1 => Wp (d + 1) 46 19 ls (r1.1.toList ++ st) r1.2 Q) := Wp.cv (y' := 33) (as := [.int x0]) e46_16 rfl (by decide) rfl (show 2 ≤ 2 by decide) (by decide) hs ht
theorem e46_19 : decode (j_co 46) 19 = .ok (.invokestatic 36, 3) := by decide +kernel
set_option maxRecDepth 20000 in
theorem w46_19 {d : Nat} {st : List Value} {Q : Option Value × jW → Prop} {ls : jL} {w : jW} {a b : Int32} (hs : j_sumc st ≤ 8) : Wp (d + 1) 46 19 ls (.int b :: .int a :: st) w Q = Wp (d + 1) 46 22 ls (.int (if b < a then b else a) :: st) w Q := Wp.mn e46_19 rfl hs
theorem e46_22 : decode (j_co 46) 22 = .ok (.aload_n 0, 1) := by decide +kernel
set_option maxRecDepth 20000 in
theorem w46_22 {d : Nat} {st : List Value} {Q : Option Value × jW → Prop} {w : jW} {a1 a2 : Option Value} {x : Nat} : Wp d 46 22 [some (.ref x), a1, a2] (st) w Q = Wp d 46 23 [some (.ref x), a1, a2] (.ref x :: st) w Q := Wp.loc e46_22 rfl rfl rfl
theorem e46_23 : decode (j_co 46) 23 = .ok (.iload_n 2, 1) := by decide +kernel
set_option maxRecDepth 20000 in
theorem w46_23 {d : Nat} {st : List Value} {Q : Option Value × jW → Prop} {w : jW} {a0 a1 : Option Value} {x : Int32} : Wp d 46 23 [a0, a1, some (.int x)] (st) w Q = Wp d 46 24 [a0, a1, some (.int x)] (.int x :: st) w Q := Wp.loc e46_23 rfl rfl rfl
theorem e46_24 : decode (j_co 46) 24 = .ok (.invokevirtual 23, 3) := by decide +kernel
set_option maxRecDepth 20000 in
theorem w46_24 {d : Nat} {st : List Value} {Q : Option Value × jW → Prop} {ls : jL} {xs : List Value} {I : fI} {L : fL} {r : Nat} {x0 : Int32} (hs : j_sumc st ≤ 8) (ht : f_tg r = 0) : Wp (d + 1) 46 24 ls (.int x0 :: .ref r :: st) (f_W xs I L) Q = Wp d 35 0 [some (.ref r), some (.int x0)] [] (f_W xs I L) (fun r1 => Wp (d + 1) 46 27 ls (r1.1.toList ++ st) r1.2 Q) := Wp.cv (y' := 35) (as := [.int x0]) e46_24 rfl (by decide) rfl (show 2 ≤ 2 by decide) (by decide) hs ht
theorem e46_27 : decode (j_co 46) 27 = .ok (.aload_n 1, 1) := by decide +kernel
set_option maxRecDepth 20000 in
theorem w46_27 {d : Nat} {st : List Value} {Q : Option Value × jW → Prop} {w : jW} {a0 a2 : Option Value} {x : Nat} : Wp d 46 27 [a0, some (.ref x), a2] (st) w Q = Wp d 46 28 [a0, some (.ref x), a2] (.ref x :: st) w Q := Wp.loc e46_27 rfl rfl rfl
theorem e46_28 : decode (j_co 46) 28 = .ok (.iload_n 2, 1) := by decide +kernel
set_option maxRecDepth 20000 in
theorem w46_28 {d : Nat} {st : List Value} {Q : Option Value × jW → Prop} {w : jW} {a0 a1 : Option Value} {x : Int32} : Wp d 46 28 [a0, a1, some (.int x)] (st) w Q = Wp d 46 29 [a0, a1, some (.int x)] (.int x :: st) w Q := Wp.loc e46_28 rfl rfl rfl
theorem e46_29 : decode (j_co 46) 29 = .ok (.invokevirtual 23, 3) := by decide +kernel
set_option maxRecDepth 20000 in
theorem w46_29 {d : Nat} {st : List Value} {Q : Option Value × jW → Prop} {ls : jL} {xs : List Value} {I : fI} {L : fL} {r : Nat} {x0 : Int32} (hs : j_sumc st ≤ 8) (ht : f_tg r = 0) : Wp (d + 1) 46 29 ls (.int x0 :: .ref r :: st) (f_W xs I L) Q = Wp d 35 0 [some (.ref r), some (.int x0)] [] (f_W xs I L) (fun r1 => Wp (d + 1) 46 32 ls (r1.1.toList ++ st) r1.2 Q) := Wp.cv (y' := 35) (as := [.int x0]) e46_29 rfl (by decide) rfl (show 2 ≤ 2 by decide) (by decide) hs ht
theorem e46_32 : decode (j_co 46) 32 = .ok (.invokestatic 30, 3) := by decide +kernel
set_option maxRecDepth 20000 in
theorem w46_32 {d : Nat} {st : List Value} {Q : Option Value × jW → Prop} {ls : jL} {w : jW} {a b : Int32} (hs : j_sumc st ≤ 8) : Wp (d + 1) 46 32 ls (.int b :: .int a :: st) w Q = Wp (d + 1) 46 35 ls (.int (if a < b then b else a) :: st) w Q := Wp.mx e46_32 rfl hs
theorem e46_35 : decode (j_co 46) 35 = .ok (.invokevirtual 15, 3) := by decide +kernel
set_option maxRecDepth 20000 in
theorem w46_35 {d : Nat} {st : List Value} {Q : Option Value × jW → Prop} {ls : jL} {xs : List Value} {I : fI} {L : fL} {r : Nat} {x0 : Int32} {x1 : Int32} {x2 : Int32} (hs : j_sumc st ≤ 8) (ht : f_tg r = 0) : Wp (d + 1) 46 35 ls (.int x2 :: .int x1 :: .int x0 :: .ref r :: st) (f_W xs I L) Q = Wp d 5 0 [some (.ref r), some (.int x0), some (.int x1), some (.int x2)] [] (f_W xs I L) (fun r1 => Wp (d + 1) 46 38 ls (r1.1.toList ++ st) r1.2 Q) := Wp.cv (y' := 5) (as := [.int x0, .int x1, .int x2]) e46_35 rfl (by decide) rfl (show 4 ≤ 4 by decide) (by decide) hs ht
theorem e46_38 : decode (j_co 46) 38 = .ok (.iinc 2 1, 3) := by decide +kernel
set_option maxRecDepth 20000 in
theorem w46_38 {d : Nat} {st : List Value} {Q : Option Value × jW → Prop} {w : jW} {a0 a1 : Option Value} {x : Int32} (h : j_cp a1) : Wp d 46 38 [a0, a1, some (.int x)] (st) w Q = Wp d 46 41 [a0, a1, some (.int (x + nI 1))] (st) w Q := Wp.loc e46_38 rfl rfl (v_inc (ls := [a0, a1, some (.int x)]) (k := 2) (n := 1) rfl (show 2 < 3 by decide) h)
theorem e46_41 : decode (j_co 46) 41 = .ok (.goto (-39), 3) := by decide +kernel
set_option maxRecDepth 20000 in
theorem w46_41 {d : Nat} {st : List Value} {Q : Option Value × jW → Prop} {ls : jL} {w : jW} : Wp d 46 41 ls (st) w Q = Wp d 46 2 ls (st) w Q := Wp.br e46_41 (Or.inl rfl) rfl rfl rfl rfl
theorem e46_44 : decode (j_co 46) 44 = .ok (.return_, 1) := by decide +kernel
set_option maxRecDepth 20000 in
theorem w46_44 {d : Nat} {Q : Option Value × jW → Prop} {ls : jL} {w : jW} : Wp d 46 44 ls [] w Q = Q (none, w) := Wp.ret e46_44 rfl
/-! Box.touches -/
theorem e53_0 : decode (j_co 53) 0 = .ok (.iconst 0, 1) := by decide +kernel
set_option maxRecDepth 20000 in
theorem w53_0 {d : Nat} {st : List Value} {Q : Option Value × jW → Prop} {ls : jL} {w : jW} : Wp d 53 0 ls (st) w Q = Wp d 53 1 ls (.int (nI 0) :: st) w Q := Wp.alu e53_0 rfl rfl
theorem e53_1 : decode (j_co 53) 1 = .ok (.istore_n 2, 1) := by decide +kernel
set_option maxRecDepth 20000 in
theorem w53_1 {d : Nat} {st : List Value} {Q : Option Value × jW → Prop} {w : jW} {a0 a1 a2 : Option Value} {x : Int32} (h : j_cp a1) : Wp d 53 1 [a0, a1, a2] (.int x :: st) w Q = Wp d 53 2 [a0, a1, some (.int x)] (st) w Q := Wp.loc e53_1 rfl rfl (v_stI (ls := [a0, a1, a2]) (k := 2) (show 2 < 3 by decide) h)
theorem e53_2 : decode (j_co 53) 2 = .ok (.iload_n 2, 1) := by decide +kernel
set_option maxRecDepth 20000 in
theorem w53_2 {d : Nat} {st : List Value} {Q : Option Value × jW → Prop} {w : jW} {a0 a1 : Option Value} {x : Int32} : Wp d 53 2 [a0, a1, some (.int x)] (st) w Q = Wp d 53 3 [a0, a1, some (.int x)] (.int x :: st) w Q := Wp.loc e53_2 rfl rfl rfl
theorem e53_3 : decode (j_co 53) 3 = .ok (.iconst 3, 1) := by decide +kernel
set_option maxRecDepth 20000 in
theorem w53_3 {d : Nat} {st : List Value} {Q : Option Value × jW → Prop} {ls : jL} {w : jW} : Wp d 53 3 ls (st) w Q = Wp d 53 4 ls (.int (nI 3) :: st) w Q := Wp.alu e53_3 rfl rfl
theorem e53_4 : decode (j_co 53) 4 = .ok (.if_icmp .ge 37, 3) := by decide +kernel
set_option maxRecDepth 20000 in
theorem w53_4 {d : Nat} {st : List Value} {Q : Option Value × jW → Prop} {ls : jL} {w : jW} {a b : Int32} : Wp d 53 4 ls (.int b :: .int a :: st) w Q = ((b ≤ a → Wp d 53 41 ls st w Q) ∧ (¬ b ≤ a → Wp d 53 7 ls st w Q)) := Wp.if2 (c := b ≤ a) (off := 37) e53_4 rfl rfl rfl rfl rfl
theorem e53_7 : decode (j_co 53) 7 = .ok (.aload_n 1, 1) := by decide +kernel
set_option maxRecDepth 20000 in
theorem w53_7 {d : Nat} {st : List Value} {Q : Option Value × jW → Prop} {w : jW} {a0 a2 : Option Value} {x : Nat} : Wp d 53 7 [a0, some (.ref x), a2] (st) w Q = Wp d 53 8 [a0, some (.ref x), a2] (.ref x :: st) w Q := Wp.loc e53_7 rfl rfl rfl
theorem e53_8 : decode (j_co 53) 8 = .ok (.iload_n 2, 1) := by decide +kernel
set_option maxRecDepth 20000 in
theorem w53_8 {d : Nat} {st : List Value} {Q : Option Value × jW → Prop} {w : jW} {a0 a1 : Option Value} {x : Int32} : Wp d 53 8 [a0, a1, some (.int x)] (st) w Q = Wp d 53 9 [a0, a1, some (.int x)] (.int x :: st) w Q := Wp.loc e53_8 rfl rfl rfl
theorem e53_9 : decode (j_co 53) 9 = .ok (.invokevirtual 23, 3) := by decide +kernel
set_option maxRecDepth 20000 in
theorem w53_9 {d : Nat} {st : List Value} {Q : Option Value × jW → Prop} {ls : jL} {xs : List Value} {I : fI} {L : fL} {r : Nat} {x0 : Int32} (hs : j_sumc st ≤ 8) (ht : f_tg r = 0) : Wp (d + 1) 53 9 ls (.int x0 :: .ref r :: st) (f_W xs I L) Q = Wp d 35 0 [some (.ref r), some (.int x0)] [] (f_W xs I L) (fun r1 => Wp (d + 1) 53 12 ls (r1.1.toList ++ st) r1.2 Q) := Wp.cv (y' := 35) (as := [.int x0]) e53_9 rfl (by decide) rfl (show 2 ≤ 2 by decide) (by decide) hs ht
theorem e53_12 : decode (j_co 53) 12 = .ok (.aload_n 0, 1) := by decide +kernel
set_option maxRecDepth 20000 in
theorem w53_12 {d : Nat} {st : List Value} {Q : Option Value × jW → Prop} {w : jW} {a1 a2 : Option Value} {x : Nat} : Wp d 53 12 [some (.ref x), a1, a2] (st) w Q = Wp d 53 13 [some (.ref x), a1, a2] (.ref x :: st) w Q := Wp.loc e53_12 rfl rfl rfl
theorem e53_13 : decode (j_co 53) 13 = .ok (.iload_n 2, 1) := by decide +kernel
set_option maxRecDepth 20000 in
theorem w53_13 {d : Nat} {st : List Value} {Q : Option Value × jW → Prop} {w : jW} {a0 a1 : Option Value} {x : Int32} : Wp d 53 13 [a0, a1, some (.int x)] (st) w Q = Wp d 53 14 [a0, a1, some (.int x)] (.int x :: st) w Q := Wp.loc e53_13 rfl rfl rfl
theorem e53_14 : decode (j_co 53) 14 = .ok (.invokevirtual 19, 3) := by decide +kernel
set_option maxRecDepth 20000 in
theorem w53_14 {d : Nat} {st : List Value} {Q : Option Value × jW → Prop} {ls : jL} {xs : List Value} {I : fI} {L : fL} {r : Nat} {x0 : Int32} (hs : j_sumc st ≤ 8) (ht : f_tg r = 0) : Wp (d + 1) 53 14 ls (.int x0 :: .ref r :: st) (f_W xs I L) Q = Wp d 33 0 [some (.ref r), some (.int x0)] [] (f_W xs I L) (fun r1 => Wp (d + 1) 53 17 ls (r1.1.toList ++ st) r1.2 Q) := Wp.cv (y' := 33) (as := [.int x0]) e53_14 rfl (by decide) rfl (show 2 ≤ 2 by decide) (by decide) hs ht
theorem e53_17 : decode (j_co 53) 17 = .ok (.if_icmp .lt 16, 3) := by decide +kernel
set_option maxRecDepth 20000 in
theorem w53_17 {d : Nat} {st : List Value} {Q : Option Value × jW → Prop} {ls : jL} {w : jW} {a b : Int32} : Wp d 53 17 ls (.int b :: .int a :: st) w Q = ((a < b → Wp d 53 33 ls st w Q) ∧ (¬ a < b → Wp d 53 20 ls st w Q)) := Wp.if2 (c := a < b) (off := 16) e53_17 rfl rfl rfl rfl rfl
theorem e53_20 : decode (j_co 53) 20 = .ok (.aload_n 1, 1) := by decide +kernel
set_option maxRecDepth 20000 in
theorem w53_20 {d : Nat} {st : List Value} {Q : Option Value × jW → Prop} {w : jW} {a0 a2 : Option Value} {x : Nat} : Wp d 53 20 [a0, some (.ref x), a2] (st) w Q = Wp d 53 21 [a0, some (.ref x), a2] (.ref x :: st) w Q := Wp.loc e53_20 rfl rfl rfl
theorem e53_21 : decode (j_co 53) 21 = .ok (.iload_n 2, 1) := by decide +kernel
set_option maxRecDepth 20000 in
theorem w53_21 {d : Nat} {st : List Value} {Q : Option Value × jW → Prop} {w : jW} {a0 a1 : Option Value} {x : Int32} : Wp d 53 21 [a0, a1, some (.int x)] (st) w Q = Wp d 53 22 [a0, a1, some (.int x)] (.int x :: st) w Q := Wp.loc e53_21 rfl rfl rfl
theorem e53_22 : decode (j_co 53) 22 = .ok (.invokevirtual 19, 3) := by decide +kernel
set_option maxRecDepth 20000 in
theorem w53_22 {d : Nat} {st : List Value} {Q : Option Value × jW → Prop} {ls : jL} {xs : List Value} {I : fI} {L : fL} {r : Nat} {x0 : Int32} (hs : j_sumc st ≤ 8) (ht : f_tg r = 0) : Wp (d + 1) 53 22 ls (.int x0 :: .ref r :: st) (f_W xs I L) Q = Wp d 33 0 [some (.ref r), some (.int x0)] [] (f_W xs I L) (fun r1 => Wp (d + 1) 53 25 ls (r1.1.toList ++ st) r1.2 Q) := Wp.cv (y' := 33) (as := [.int x0]) e53_22 rfl (by decide) rfl (show 2 ≤ 2 by decide) (by decide) hs ht
theorem e53_25 : decode (j_co 53) 25 = .ok (.aload_n 0, 1) := by decide +kernel
set_option maxRecDepth 20000 in
theorem w53_25 {d : Nat} {st : List Value} {Q : Option Value × jW → Prop} {w : jW} {a1 a2 : Option Value} {x : Nat} : Wp d 53 25 [some (.ref x), a1, a2] (st) w Q = Wp d 53 26 [some (.ref x), a1, a2] (.ref x :: st) w Q := Wp.loc e53_25 rfl rfl rfl
theorem e53_26 : decode (j_co 53) 26 = .ok (.iload_n 2, 1) := by decide +kernel
set_option maxRecDepth 20000 in
theorem w53_26 {d : Nat} {st : List Value} {Q : Option Value × jW → Prop} {w : jW} {a0 a1 : Option Value} {x : Int32} : Wp d 53 26 [a0, a1, some (.int x)] (st) w Q = Wp d 53 27 [a0, a1, some (.int x)] (.int x :: st) w Q := Wp.loc e53_26 rfl rfl rfl
theorem e53_27 : decode (j_co 53) 27 = .ok (.invokevirtual 23, 3) := by decide +kernel
set_option maxRecDepth 20000 in
theorem w53_27 {d : Nat} {st : List Value} {Q : Option Value × jW → Prop} {ls : jL} {xs : List Value} {I : fI} {L : fL} {r : Nat} {x0 : Int32} (hs : j_sumc st ≤ 8) (ht : f_tg r = 0) : Wp (d + 1) 53 27 ls (.int x0 :: .ref r :: st) (f_W xs I L) Q = Wp d 35 0 [some (.ref r), some (.int x0)] [] (f_W xs I L) (fun r1 => Wp (d + 1) 53 30 ls (r1.1.toList ++ st) r1.2 Q) := Wp.cv (y' := 35) (as := [.int x0]) e53_27 rfl (by decide) rfl (show 2 ≤ 2 by decide) (by decide) hs ht
theorem e53_30 : decode (j_co 53) 30 = .ok (.if_icmp .le 5, 3) := by decide +kernel
set_option maxRecDepth 20000 in
theorem w53_30 {d : Nat} {st : List Value} {Q : Option Value × jW → Prop} {ls : jL} {w : jW} {a b : Int32} : Wp d 53 30 ls (.int b :: .int a :: st) w Q = ((a ≤ b → Wp d 53 35 ls st w Q) ∧ (¬ a ≤ b → Wp d 53 33 ls st w Q)) := Wp.if2 (c := a ≤ b) (off := 5) e53_30 rfl rfl rfl rfl rfl
theorem e53_33 : decode (j_co 53) 33 = .ok (.iconst 0, 1) := by decide +kernel
set_option maxRecDepth 20000 in
theorem w53_33 {d : Nat} {st : List Value} {Q : Option Value × jW → Prop} {ls : jL} {w : jW} : Wp d 53 33 ls (st) w Q = Wp d 53 34 ls (.int (nI 0) :: st) w Q := Wp.alu e53_33 rfl rfl
theorem e53_34 : decode (j_co 53) 34 = .ok (.ireturn, 1) := by decide +kernel
set_option maxRecDepth 20000 in
theorem w53_34 {d : Nat} {Q : Option Value × jW → Prop} {ls : jL} {w : jW} {x : Int32} (hx : x = 0 ∨ x = 1) : Wp d 53 34 ls [.int x] w Q = Q (some (.int x), w) := Wp.ret e53_34 (by rcases hx with rfl | rfl <;> rfl)
theorem e53_35 : decode (j_co 53) 35 = .ok (.iinc 2 1, 3) := by decide +kernel
set_option maxRecDepth 20000 in
theorem w53_35 {d : Nat} {st : List Value} {Q : Option Value × jW → Prop} {w : jW} {a0 a1 : Option Value} {x : Int32} (h : j_cp a1) : Wp d 53 35 [a0, a1, some (.int x)] (st) w Q = Wp d 53 38 [a0, a1, some (.int (x + nI 1))] (st) w Q := Wp.loc e53_35 rfl rfl (v_inc (ls := [a0, a1, some (.int x)]) (k := 2) (n := 1) rfl (show 2 < 3 by decide) h)
theorem e53_38 : decode (j_co 53) 38 = .ok (.goto (-36), 3) := by decide +kernel
set_option maxRecDepth 20000 in
theorem w53_38 {d : Nat} {st : List Value} {Q : Option Value × jW → Prop} {ls : jL} {w : jW} : Wp d 53 38 ls (st) w Q = Wp d 53 2 ls (st) w Q := Wp.br e53_38 (Or.inl rfl) rfl rfl rfl rfl
theorem e53_41 : decode (j_co 53) 41 = .ok (.iconst 1, 1) := by decide +kernel
set_option maxRecDepth 20000 in
theorem w53_41 {d : Nat} {st : List Value} {Q : Option Value × jW → Prop} {ls : jL} {w : jW} : Wp d 53 41 ls (st) w Q = Wp d 53 42 ls (.int (nI 1) :: st) w Q := Wp.alu e53_41 rfl rfl
theorem e53_42 : decode (j_co 53) 42 = .ok (.ireturn, 1) := by decide +kernel
set_option maxRecDepth 20000 in
theorem w53_42 {d : Nat} {Q : Option Value × jW → Prop} {ls : jL} {w : jW} {x : Int32} (hx : x = 0 ∨ x = 1) : Wp d 53 42 ls [.int x] w Q = Q (some (.int x), w) := Wp.ret e53_42 (by rcases hx with rfl | rfl <;> rfl)
/-! Box.hasPoint -/
theorem e61_0 : decode (j_co 61) 0 = .ok (.aload_n 0, 1) := by decide +kernel
set_option maxRecDepth 20000 in
theorem w61_0 {d : Nat} {st : List Value} {Q : Option Value × jW → Prop} {w : jW} {a1 a2 a3 : Option Value} {x : Nat} : Wp d 61 0 [some (.ref x), a1, a2, a3] (st) w Q = Wp d 61 1 [some (.ref x), a1, a2, a3] (.ref x :: st) w Q := Wp.loc e61_0 rfl rfl rfl
theorem e61_1 : decode (j_co 61) 1 = .ok (.iconst 0, 1) := by decide +kernel
set_option maxRecDepth 20000 in
theorem w61_1 {d : Nat} {st : List Value} {Q : Option Value × jW → Prop} {ls : jL} {w : jW} : Wp d 61 1 ls (st) w Q = Wp d 61 2 ls (.int (nI 0) :: st) w Q := Wp.alu e61_1 rfl rfl
theorem e61_2 : decode (j_co 61) 2 = .ok (.iload_n 1, 1) := by decide +kernel
set_option maxRecDepth 20000 in
theorem w61_2 {d : Nat} {st : List Value} {Q : Option Value × jW → Prop} {w : jW} {a0 a2 a3 : Option Value} {x : Int32} : Wp d 61 2 [a0, some (.int x), a2, a3] (st) w Q = Wp d 61 3 [a0, some (.int x), a2, a3] (.int x :: st) w Q := Wp.loc e61_2 rfl rfl rfl
theorem e61_3 : decode (j_co 61) 3 = .ok (.invokevirtual 26, 3) := by decide +kernel
set_option maxRecDepth 20000 in
theorem w61_3 {d : Nat} {st : List Value} {Q : Option Value × jW → Prop} {ls : jL} {xs : List Value} {I : fI} {L : fL} {r : Nat} {x0 : Int32} {x1 : Int32} (hs : j_sumc st ≤ 8) (ht : f_tg r = 0) : Wp (d + 1) 61 3 ls (.int x1 :: .int x0 :: .ref r :: st) (f_W xs I L) Q = Wp d 62 0 [some (.ref r), some (.int x0), some (.int x1)] [] (f_W xs I L) (fun r1 => Wp (d + 1) 61 6 ls (r1.1.toList ++ st) r1.2 Q) := Wp.cv (y' := 62) (as := [.int x0, .int x1]) e61_3 rfl (by decide) rfl (show 3 ≤ 3 by decide) (by decide) hs ht
theorem e61_6 : decode (j_co 61) 6 = .ok (.ifCond .eq 25, 3) := by decide +kernel
set_option maxRecDepth 20000 in
theorem w61_6 {d : Nat} {st : List Value} {Q : Option Value × jW → Prop} {ls : jL} {w : jW} {a : Int32} : Wp d 61 6 ls (.int a :: st) w Q = ((a = nI 0 → Wp d 61 31 ls st w Q) ∧ (¬ a = nI 0 → Wp d 61 9 ls st w Q)) := Wp.if2 (c := a = nI 0) (off := 25) e61_6 rfl rfl rfl rfl rfl
theorem e61_9 : decode (j_co 61) 9 = .ok (.aload_n 0, 1) := by decide +kernel
set_option maxRecDepth 20000 in
theorem w61_9 {d : Nat} {st : List Value} {Q : Option Value × jW → Prop} {w : jW} {a1 a2 a3 : Option Value} {x : Nat} : Wp d 61 9 [some (.ref x), a1, a2, a3] (st) w Q = Wp d 61 10 [some (.ref x), a1, a2, a3] (.ref x :: st) w Q := Wp.loc e61_9 rfl rfl rfl
theorem e61_10 : decode (j_co 61) 10 = .ok (.iconst 1, 1) := by decide +kernel
set_option maxRecDepth 20000 in
theorem w61_10 {d : Nat} {st : List Value} {Q : Option Value × jW → Prop} {ls : jL} {w : jW} : Wp d 61 10 ls (st) w Q = Wp d 61 11 ls (.int (nI 1) :: st) w Q := Wp.alu e61_10 rfl rfl
theorem e61_11 : decode (j_co 61) 11 = .ok (.iload_n 2, 1) := by decide +kernel
set_option maxRecDepth 20000 in
theorem w61_11 {d : Nat} {st : List Value} {Q : Option Value × jW → Prop} {w : jW} {a0 a1 a3 : Option Value} {x : Int32} : Wp d 61 11 [a0, a1, some (.int x), a3] (st) w Q = Wp d 61 12 [a0, a1, some (.int x), a3] (.int x :: st) w Q := Wp.loc e61_11 rfl rfl rfl
theorem e61_12 : decode (j_co 61) 12 = .ok (.invokevirtual 26, 3) := by decide +kernel
set_option maxRecDepth 20000 in
theorem w61_12 {d : Nat} {st : List Value} {Q : Option Value × jW → Prop} {ls : jL} {xs : List Value} {I : fI} {L : fL} {r : Nat} {x0 : Int32} {x1 : Int32} (hs : j_sumc st ≤ 8) (ht : f_tg r = 0) : Wp (d + 1) 61 12 ls (.int x1 :: .int x0 :: .ref r :: st) (f_W xs I L) Q = Wp d 62 0 [some (.ref r), some (.int x0), some (.int x1)] [] (f_W xs I L) (fun r1 => Wp (d + 1) 61 15 ls (r1.1.toList ++ st) r1.2 Q) := Wp.cv (y' := 62) (as := [.int x0, .int x1]) e61_12 rfl (by decide) rfl (show 3 ≤ 3 by decide) (by decide) hs ht
theorem e61_15 : decode (j_co 61) 15 = .ok (.ifCond .eq 16, 3) := by decide +kernel
set_option maxRecDepth 20000 in
theorem w61_15 {d : Nat} {st : List Value} {Q : Option Value × jW → Prop} {ls : jL} {w : jW} {a : Int32} : Wp d 61 15 ls (.int a :: st) w Q = ((a = nI 0 → Wp d 61 31 ls st w Q) ∧ (¬ a = nI 0 → Wp d 61 18 ls st w Q)) := Wp.if2 (c := a = nI 0) (off := 16) e61_15 rfl rfl rfl rfl rfl
theorem e61_18 : decode (j_co 61) 18 = .ok (.aload_n 0, 1) := by decide +kernel
set_option maxRecDepth 20000 in
theorem w61_18 {d : Nat} {st : List Value} {Q : Option Value × jW → Prop} {w : jW} {a1 a2 a3 : Option Value} {x : Nat} : Wp d 61 18 [some (.ref x), a1, a2, a3] (st) w Q = Wp d 61 19 [some (.ref x), a1, a2, a3] (.ref x :: st) w Q := Wp.loc e61_18 rfl rfl rfl
theorem e61_19 : decode (j_co 61) 19 = .ok (.iconst 2, 1) := by decide +kernel
set_option maxRecDepth 20000 in
theorem w61_19 {d : Nat} {st : List Value} {Q : Option Value × jW → Prop} {ls : jL} {w : jW} : Wp d 61 19 ls (st) w Q = Wp d 61 20 ls (.int (nI 2) :: st) w Q := Wp.alu e61_19 rfl rfl
theorem e61_20 : decode (j_co 61) 20 = .ok (.iload_n 3, 1) := by decide +kernel
set_option maxRecDepth 20000 in
theorem w61_20 {d : Nat} {st : List Value} {Q : Option Value × jW → Prop} {w : jW} {a0 a1 a2 : Option Value} {x : Int32} : Wp d 61 20 [a0, a1, a2, some (.int x)] (st) w Q = Wp d 61 21 [a0, a1, a2, some (.int x)] (.int x :: st) w Q := Wp.loc e61_20 rfl rfl rfl
theorem e61_21 : decode (j_co 61) 21 = .ok (.invokevirtual 26, 3) := by decide +kernel
set_option maxRecDepth 20000 in
theorem w61_21 {d : Nat} {st : List Value} {Q : Option Value × jW → Prop} {ls : jL} {xs : List Value} {I : fI} {L : fL} {r : Nat} {x0 : Int32} {x1 : Int32} (hs : j_sumc st ≤ 8) (ht : f_tg r = 0) : Wp (d + 1) 61 21 ls (.int x1 :: .int x0 :: .ref r :: st) (f_W xs I L) Q = Wp d 62 0 [some (.ref r), some (.int x0), some (.int x1)] [] (f_W xs I L) (fun r1 => Wp (d + 1) 61 24 ls (r1.1.toList ++ st) r1.2 Q) := Wp.cv (y' := 62) (as := [.int x0, .int x1]) e61_21 rfl (by decide) rfl (show 3 ≤ 3 by decide) (by decide) hs ht
theorem e61_24 : decode (j_co 61) 24 = .ok (.ifCond .eq 7, 3) := by decide +kernel
set_option maxRecDepth 20000 in
theorem w61_24 {d : Nat} {st : List Value} {Q : Option Value × jW → Prop} {ls : jL} {w : jW} {a : Int32} : Wp d 61 24 ls (.int a :: st) w Q = ((a = nI 0 → Wp d 61 31 ls st w Q) ∧ (¬ a = nI 0 → Wp d 61 27 ls st w Q)) := Wp.if2 (c := a = nI 0) (off := 7) e61_24 rfl rfl rfl rfl rfl
theorem e61_27 : decode (j_co 61) 27 = .ok (.iconst 1, 1) := by decide +kernel
set_option maxRecDepth 20000 in
theorem w61_27 {d : Nat} {st : List Value} {Q : Option Value × jW → Prop} {ls : jL} {w : jW} : Wp d 61 27 ls (st) w Q = Wp d 61 28 ls (.int (nI 1) :: st) w Q := Wp.alu e61_27 rfl rfl
theorem e61_28 : decode (j_co 61) 28 = .ok (.goto 4, 3) := by decide +kernel
set_option maxRecDepth 20000 in
theorem w61_28 {d : Nat} {st : List Value} {Q : Option Value × jW → Prop} {ls : jL} {w : jW} : Wp d 61 28 ls (st) w Q = Wp d 61 32 ls (st) w Q := Wp.br e61_28 (Or.inl rfl) rfl rfl rfl rfl
theorem e61_31 : decode (j_co 61) 31 = .ok (.iconst 0, 1) := by decide +kernel
set_option maxRecDepth 20000 in
theorem w61_31 {d : Nat} {st : List Value} {Q : Option Value × jW → Prop} {ls : jL} {w : jW} : Wp d 61 31 ls (st) w Q = Wp d 61 32 ls (.int (nI 0) :: st) w Q := Wp.alu e61_31 rfl rfl
theorem e61_32 : decode (j_co 61) 32 = .ok (.ireturn, 1) := by decide +kernel
set_option maxRecDepth 20000 in
theorem w61_32 {d : Nat} {Q : Option Value × jW → Prop} {ls : jL} {w : jW} {x : Int32} (hx : x = 0 ∨ x = 1) : Wp d 61 32 ls [.int x] w Q = Q (some (.int x), w) := Wp.ret e61_32 (by rcases hx with rfl | rfl <;> rfl)
/-! Box.has -/
theorem e62_0 : decode (j_co 62) 0 = .ok (.aload_n 0, 1) := by decide +kernel
set_option maxRecDepth 20000 in
theorem w62_0 {d : Nat} {st : List Value} {Q : Option Value × jW → Prop} {w : jW} {a1 a2 : Option Value} {x : Nat} : Wp d 62 0 [some (.ref x), a1, a2] (st) w Q = Wp d 62 1 [some (.ref x), a1, a2] (.ref x :: st) w Q := Wp.loc e62_0 rfl rfl rfl
theorem e62_1 : decode (j_co 62) 1 = .ok (.iload_n 1, 1) := by decide +kernel
set_option maxRecDepth 20000 in
theorem w62_1 {d : Nat} {st : List Value} {Q : Option Value × jW → Prop} {w : jW} {a0 a2 : Option Value} {x : Int32} : Wp d 62 1 [a0, some (.int x), a2] (st) w Q = Wp d 62 2 [a0, some (.int x), a2] (.int x :: st) w Q := Wp.loc e62_1 rfl rfl rfl
theorem e62_2 : decode (j_co 62) 2 = .ok (.invokevirtual 19, 3) := by decide +kernel
set_option maxRecDepth 20000 in
theorem w62_2 {d : Nat} {st : List Value} {Q : Option Value × jW → Prop} {ls : jL} {xs : List Value} {I : fI} {L : fL} {r : Nat} {x0 : Int32} (hs : j_sumc st ≤ 8) (ht : f_tg r = 0) : Wp (d + 1) 62 2 ls (.int x0 :: .ref r :: st) (f_W xs I L) Q = Wp d 33 0 [some (.ref r), some (.int x0)] [] (f_W xs I L) (fun r1 => Wp (d + 1) 62 5 ls (r1.1.toList ++ st) r1.2 Q) := Wp.cv (y' := 33) (as := [.int x0]) e62_2 rfl (by decide) rfl (show 2 ≤ 2 by decide) (by decide) hs ht
theorem e62_5 : decode (j_co 62) 5 = .ok (.iload_n 2, 1) := by decide +kernel
set_option maxRecDepth 20000 in
theorem w62_5 {d : Nat} {st : List Value} {Q : Option Value × jW → Prop} {w : jW} {a0 a1 : Option Value} {x : Int32} : Wp d 62 5 [a0, a1, some (.int x)] (st) w Q = Wp d 62 6 [a0, a1, some (.int x)] (.int x :: st) w Q := Wp.loc e62_5 rfl rfl rfl
theorem e62_6 : decode (j_co 62) 6 = .ok (.if_icmp .gt 16, 3) := by decide +kernel
set_option maxRecDepth 20000 in
theorem w62_6 {d : Nat} {st : List Value} {Q : Option Value × jW → Prop} {ls : jL} {w : jW} {a b : Int32} : Wp d 62 6 ls (.int b :: .int a :: st) w Q = ((b < a → Wp d 62 22 ls st w Q) ∧ (¬ b < a → Wp d 62 9 ls st w Q)) := Wp.if2 (c := b < a) (off := 16) e62_6 rfl rfl rfl rfl rfl
theorem e62_9 : decode (j_co 62) 9 = .ok (.iload_n 2, 1) := by decide +kernel
set_option maxRecDepth 20000 in
theorem w62_9 {d : Nat} {st : List Value} {Q : Option Value × jW → Prop} {w : jW} {a0 a1 : Option Value} {x : Int32} : Wp d 62 9 [a0, a1, some (.int x)] (st) w Q = Wp d 62 10 [a0, a1, some (.int x)] (.int x :: st) w Q := Wp.loc e62_9 rfl rfl rfl
theorem e62_10 : decode (j_co 62) 10 = .ok (.aload_n 0, 1) := by decide +kernel
set_option maxRecDepth 20000 in
theorem w62_10 {d : Nat} {st : List Value} {Q : Option Value × jW → Prop} {w : jW} {a1 a2 : Option Value} {x : Nat} : Wp d 62 10 [some (.ref x), a1, a2] (st) w Q = Wp d 62 11 [some (.ref x), a1, a2] (.ref x :: st) w Q := Wp.loc e62_10 rfl rfl rfl
theorem e62_11 : decode (j_co 62) 11 = .ok (.iload_n 1, 1) := by decide +kernel
set_option maxRecDepth 20000 in
theorem w62_11 {d : Nat} {st : List Value} {Q : Option Value × jW → Prop} {w : jW} {a0 a2 : Option Value} {x : Int32} : Wp d 62 11 [a0, some (.int x), a2] (st) w Q = Wp d 62 12 [a0, some (.int x), a2] (.int x :: st) w Q := Wp.loc e62_11 rfl rfl rfl
theorem e62_12 : decode (j_co 62) 12 = .ok (.invokevirtual 23, 3) := by decide +kernel
set_option maxRecDepth 20000 in
theorem w62_12 {d : Nat} {st : List Value} {Q : Option Value × jW → Prop} {ls : jL} {xs : List Value} {I : fI} {L : fL} {r : Nat} {x0 : Int32} (hs : j_sumc st ≤ 8) (ht : f_tg r = 0) : Wp (d + 1) 62 12 ls (.int x0 :: .ref r :: st) (f_W xs I L) Q = Wp d 35 0 [some (.ref r), some (.int x0)] [] (f_W xs I L) (fun r1 => Wp (d + 1) 62 15 ls (r1.1.toList ++ st) r1.2 Q) := Wp.cv (y' := 35) (as := [.int x0]) e62_12 rfl (by decide) rfl (show 2 ≤ 2 by decide) (by decide) hs ht
theorem e62_15 : decode (j_co 62) 15 = .ok (.if_icmp .gt 7, 3) := by decide +kernel
set_option maxRecDepth 20000 in
theorem w62_15 {d : Nat} {st : List Value} {Q : Option Value × jW → Prop} {ls : jL} {w : jW} {a b : Int32} : Wp d 62 15 ls (.int b :: .int a :: st) w Q = ((b < a → Wp d 62 22 ls st w Q) ∧ (¬ b < a → Wp d 62 18 ls st w Q)) := Wp.if2 (c := b < a) (off := 7) e62_15 rfl rfl rfl rfl rfl
theorem e62_18 : decode (j_co 62) 18 = .ok (.iconst 1, 1) := by decide +kernel
set_option maxRecDepth 20000 in
theorem w62_18 {d : Nat} {st : List Value} {Q : Option Value × jW → Prop} {ls : jL} {w : jW} : Wp d 62 18 ls (st) w Q = Wp d 62 19 ls (.int (nI 1) :: st) w Q := Wp.alu e62_18 rfl rfl
theorem e62_19 : decode (j_co 62) 19 = .ok (.goto 4, 3) := by decide +kernel
set_option maxRecDepth 20000 in
theorem w62_19 {d : Nat} {st : List Value} {Q : Option Value × jW → Prop} {ls : jL} {w : jW} : Wp d 62 19 ls (st) w Q = Wp d 62 23 ls (st) w Q := Wp.br e62_19 (Or.inl rfl) rfl rfl rfl rfl
theorem e62_22 : decode (j_co 62) 22 = .ok (.iconst 0, 1) := by decide +kernel
set_option maxRecDepth 20000 in
theorem w62_22 {d : Nat} {st : List Value} {Q : Option Value × jW → Prop} {ls : jL} {w : jW} : Wp d 62 22 ls (st) w Q = Wp d 62 23 ls (.int (nI 0) :: st) w Q := Wp.alu e62_22 rfl rfl
theorem e62_23 : decode (j_co 62) 23 = .ok (.ireturn, 1) := by decide +kernel
set_option maxRecDepth 20000 in
theorem w62_23 {d : Nat} {Q : Option Value × jW → Prop} {ls : jL} {w : jW} {x : Int32} (hx : x = 0 ∨ x = 1) : Wp d 62 23 ls [.int x] w Q = Q (some (.int x), w) := Wp.ret e62_23 (by rcases hx with rfl | rfl <;> rfl)
/-! Box.putPoint -/
theorem e88_0 : decode (j_co 88) 0 = .ok (.aload_n 0, 1) := by decide +kernel
set_option maxRecDepth 20000 in
theorem w88_0 {d : Nat} {st : List Value} {Q : Option Value × jW → Prop} {w : jW} {a1 a2 a3 : Option Value} {x : Nat} : Wp d 88 0 [some (.ref x), a1, a2, a3] (st) w Q = Wp d 88 1 [some (.ref x), a1, a2, a3] (.ref x :: st) w Q := Wp.loc e88_0 rfl rfl rfl
theorem e88_1 : decode (j_co 88) 1 = .ok (.iconst 0, 1) := by decide +kernel
set_option maxRecDepth 20000 in
theorem w88_1 {d : Nat} {st : List Value} {Q : Option Value × jW → Prop} {ls : jL} {w : jW} : Wp d 88 1 ls (st) w Q = Wp d 88 2 ls (.int (nI 0) :: st) w Q := Wp.alu e88_1 rfl rfl
theorem e88_2 : decode (j_co 88) 2 = .ok (.iload_n 1, 1) := by decide +kernel
set_option maxRecDepth 20000 in
theorem w88_2 {d : Nat} {st : List Value} {Q : Option Value × jW → Prop} {w : jW} {a0 a2 a3 : Option Value} {x : Int32} : Wp d 88 2 [a0, some (.int x), a2, a3] (st) w Q = Wp d 88 3 [a0, some (.int x), a2, a3] (.int x :: st) w Q := Wp.loc e88_2 rfl rfl rfl
theorem e88_3 : decode (j_co 88) 3 = .ok (.iload_n 1, 1) := by decide +kernel
set_option maxRecDepth 20000 in
theorem w88_3 {d : Nat} {st : List Value} {Q : Option Value × jW → Prop} {w : jW} {a0 a2 a3 : Option Value} {x : Int32} : Wp d 88 3 [a0, some (.int x), a2, a3] (st) w Q = Wp d 88 4 [a0, some (.int x), a2, a3] (.int x :: st) w Q := Wp.loc e88_3 rfl rfl rfl
theorem e88_4 : decode (j_co 88) 4 = .ok (.invokevirtual 15, 3) := by decide +kernel
set_option maxRecDepth 20000 in
theorem w88_4 {d : Nat} {st : List Value} {Q : Option Value × jW → Prop} {ls : jL} {xs : List Value} {I : fI} {L : fL} {r : Nat} {x0 : Int32} {x1 : Int32} {x2 : Int32} (hs : j_sumc st ≤ 8) (ht : f_tg r = 0) : Wp (d + 1) 88 4 ls (.int x2 :: .int x1 :: .int x0 :: .ref r :: st) (f_W xs I L) Q = Wp d 5 0 [some (.ref r), some (.int x0), some (.int x1), some (.int x2)] [] (f_W xs I L) (fun r1 => Wp (d + 1) 88 7 ls (r1.1.toList ++ st) r1.2 Q) := Wp.cv (y' := 5) (as := [.int x0, .int x1, .int x2]) e88_4 rfl (by decide) rfl (show 4 ≤ 4 by decide) (by decide) hs ht
theorem e88_7 : decode (j_co 88) 7 = .ok (.aload_n 0, 1) := by decide +kernel
set_option maxRecDepth 20000 in
theorem w88_7 {d : Nat} {st : List Value} {Q : Option Value × jW → Prop} {w : jW} {a1 a2 a3 : Option Value} {x : Nat} : Wp d 88 7 [some (.ref x), a1, a2, a3] (st) w Q = Wp d 88 8 [some (.ref x), a1, a2, a3] (.ref x :: st) w Q := Wp.loc e88_7 rfl rfl rfl
theorem e88_8 : decode (j_co 88) 8 = .ok (.iconst 1, 1) := by decide +kernel
set_option maxRecDepth 20000 in
theorem w88_8 {d : Nat} {st : List Value} {Q : Option Value × jW → Prop} {ls : jL} {w : jW} : Wp d 88 8 ls (st) w Q = Wp d 88 9 ls (.int (nI 1) :: st) w Q := Wp.alu e88_8 rfl rfl
theorem e88_9 : decode (j_co 88) 9 = .ok (.iload_n 2, 1) := by decide +kernel
set_option maxRecDepth 20000 in
theorem w88_9 {d : Nat} {st : List Value} {Q : Option Value × jW → Prop} {w : jW} {a0 a1 a3 : Option Value} {x : Int32} : Wp d 88 9 [a0, a1, some (.int x), a3] (st) w Q = Wp d 88 10 [a0, a1, some (.int x), a3] (.int x :: st) w Q := Wp.loc e88_9 rfl rfl rfl
theorem e88_10 : decode (j_co 88) 10 = .ok (.iload_n 2, 1) := by decide +kernel
set_option maxRecDepth 20000 in
theorem w88_10 {d : Nat} {st : List Value} {Q : Option Value × jW → Prop} {w : jW} {a0 a1 a3 : Option Value} {x : Int32} : Wp d 88 10 [a0, a1, some (.int x), a3] (st) w Q = Wp d 88 11 [a0, a1, some (.int x), a3] (.int x :: st) w Q := Wp.loc e88_10 rfl rfl rfl
theorem e88_11 : decode (j_co 88) 11 = .ok (.invokevirtual 15, 3) := by decide +kernel
set_option maxRecDepth 20000 in
theorem w88_11 {d : Nat} {st : List Value} {Q : Option Value × jW → Prop} {ls : jL} {xs : List Value} {I : fI} {L : fL} {r : Nat} {x0 : Int32} {x1 : Int32} {x2 : Int32} (hs : j_sumc st ≤ 8) (ht : f_tg r = 0) : Wp (d + 1) 88 11 ls (.int x2 :: .int x1 :: .int x0 :: .ref r :: st) (f_W xs I L) Q = Wp d 5 0 [some (.ref r), some (.int x0), some (.int x1), some (.int x2)] [] (f_W xs I L) (fun r1 => Wp (d + 1) 88 14 ls (r1.1.toList ++ st) r1.2 Q) := Wp.cv (y' := 5) (as := [.int x0, .int x1, .int x2]) e88_11 rfl (by decide) rfl (show 4 ≤ 4 by decide) (by decide) hs ht
theorem e88_14 : decode (j_co 88) 14 = .ok (.aload_n 0, 1) := by decide +kernel
set_option maxRecDepth 20000 in
theorem w88_14 {d : Nat} {st : List Value} {Q : Option Value × jW → Prop} {w : jW} {a1 a2 a3 : Option Value} {x : Nat} : Wp d 88 14 [some (.ref x), a1, a2, a3] (st) w Q = Wp d 88 15 [some (.ref x), a1, a2, a3] (.ref x :: st) w Q := Wp.loc e88_14 rfl rfl rfl
theorem e88_15 : decode (j_co 88) 15 = .ok (.iconst 2, 1) := by decide +kernel
set_option maxRecDepth 20000 in
theorem w88_15 {d : Nat} {st : List Value} {Q : Option Value × jW → Prop} {ls : jL} {w : jW} : Wp d 88 15 ls (st) w Q = Wp d 88 16 ls (.int (nI 2) :: st) w Q := Wp.alu e88_15 rfl rfl
theorem e88_16 : decode (j_co 88) 16 = .ok (.iload_n 3, 1) := by decide +kernel
set_option maxRecDepth 20000 in
theorem w88_16 {d : Nat} {st : List Value} {Q : Option Value × jW → Prop} {w : jW} {a0 a1 a2 : Option Value} {x : Int32} : Wp d 88 16 [a0, a1, a2, some (.int x)] (st) w Q = Wp d 88 17 [a0, a1, a2, some (.int x)] (.int x :: st) w Q := Wp.loc e88_16 rfl rfl rfl
theorem e88_17 : decode (j_co 88) 17 = .ok (.iload_n 3, 1) := by decide +kernel
set_option maxRecDepth 20000 in
theorem w88_17 {d : Nat} {st : List Value} {Q : Option Value × jW → Prop} {w : jW} {a0 a1 a2 : Option Value} {x : Int32} : Wp d 88 17 [a0, a1, a2, some (.int x)] (st) w Q = Wp d 88 18 [a0, a1, a2, some (.int x)] (.int x :: st) w Q := Wp.loc e88_17 rfl rfl rfl
theorem e88_18 : decode (j_co 88) 18 = .ok (.invokevirtual 15, 3) := by decide +kernel
set_option maxRecDepth 20000 in
theorem w88_18 {d : Nat} {st : List Value} {Q : Option Value × jW → Prop} {ls : jL} {xs : List Value} {I : fI} {L : fL} {r : Nat} {x0 : Int32} {x1 : Int32} {x2 : Int32} (hs : j_sumc st ≤ 8) (ht : f_tg r = 0) : Wp (d + 1) 88 18 ls (.int x2 :: .int x1 :: .int x0 :: .ref r :: st) (f_W xs I L) Q = Wp d 5 0 [some (.ref r), some (.int x0), some (.int x1), some (.int x2)] [] (f_W xs I L) (fun r1 => Wp (d + 1) 88 21 ls (r1.1.toList ++ st) r1.2 Q) := Wp.cv (y' := 5) (as := [.int x0, .int x1, .int x2]) e88_18 rfl (by decide) rfl (show 4 ≤ 4 by decide) (by decide) hs ht
theorem e88_21 : decode (j_co 88) 21 = .ok (.return_, 1) := by decide +kernel
set_option maxRecDepth 20000 in
theorem w88_21 {d : Nat} {Q : Option Value × jW → Prop} {ls : jL} {w : jW} : Wp d 88 21 ls [] w Q = Q (none, w) := Wp.ret e88_21 rfl
/-! Box.putSide -/
theorem e108_0 : decode (j_co 108) 0 = .ok (.iload_n 1, 1) := by decide +kernel
set_option maxRecDepth 20000 in
theorem w108_0 {d : Nat} {st : List Value} {Q : Option Value × jW → Prop} {w : jW} {a0 a2 : Option Value} {x : Int32} : Wp d 108 0 [a0, some (.int x), a2] (st) w Q = Wp d 108 1 [a0, some (.int x), a2] (.int x :: st) w Q := Wp.loc e108_0 rfl rfl rfl
theorem e108_1 : decode (j_co 108) 1 = .ok (.ifCond .lt 19, 3) := by decide +kernel
set_option maxRecDepth 20000 in
theorem w108_1 {d : Nat} {st : List Value} {Q : Option Value × jW → Prop} {ls : jL} {w : jW} {a : Int32} : Wp d 108 1 ls (.int a :: st) w Q = ((a < nI 0 → Wp d 108 20 ls st w Q) ∧ (¬ a < nI 0 → Wp d 108 4 ls st w Q)) := Wp.if2 (c := a < nI 0) (off := 19) e108_1 rfl rfl rfl rfl rfl
theorem e108_4 : decode (j_co 108) 4 = .ok (.iload_n 1, 1) := by decide +kernel
set_option maxRecDepth 20000 in
theorem w108_4 {d : Nat} {st : List Value} {Q : Option Value × jW → Prop} {w : jW} {a0 a2 : Option Value} {x : Int32} : Wp d 108 4 [a0, some (.int x), a2] (st) w Q = Wp d 108 5 [a0, some (.int x), a2] (.int x :: st) w Q := Wp.loc e108_4 rfl rfl rfl
theorem e108_5 : decode (j_co 108) 5 = .ok (.aload_n 0, 1) := by decide +kernel
set_option maxRecDepth 20000 in
theorem w108_5 {d : Nat} {st : List Value} {Q : Option Value × jW → Prop} {w : jW} {a1 a2 : Option Value} {x : Nat} : Wp d 108 5 [some (.ref x), a1, a2] (st) w Q = Wp d 108 6 [some (.ref x), a1, a2] (.ref x :: st) w Q := Wp.loc e108_5 rfl rfl rfl
theorem e108_6 : decode (j_co 108) 6 = .ok (.getfield 9, 3) := by decide +kernel
set_option maxRecDepth 20000 in
theorem w108_6 {d : Nat} {st : List Value} {Q : Option Value × jW → Prop} {ls : jL} {xs : List Value} {I : fI} {L : fL} {o : Nat} (ht : f_tg o = 0) : Wp d 108 6 ls (.ref o :: st) (f_W xs I L) Q = Wp d 108 9 ls (.ref (f_rf o 0) :: st) (f_W xs I L) Q := Wp.getR (ci := 0) (k := 0) e108_6 rfl (by decide) (by decide) rfl ht
theorem e108_9 : decode (j_co 108) 9 = .ok (.arraylength, 1) := by decide +kernel
set_option maxRecDepth 20000 in
theorem w108_9 {d : Nat} {st : List Value} {Q : Option Value × jW → Prop} {ls : jL} {xs : List Value} {I : fI} {L : fL} {o : Nat} (ht : f_tg o = 100 ∨ f_tg o = 101 ∨ f_tg o = 102) : Wp d 108 9 ls (.ref o :: st) (f_W xs I L) Q = Wp d 108 10 ls (.int (nI (f_ln o)) :: st) (f_W xs I L) Q := Wp.alen e108_9 rfl ht
theorem e108_10 : decode (j_co 108) 10 = .ok (.if_icmp .ge 10, 3) := by decide +kernel
set_option maxRecDepth 20000 in
theorem w108_10 {d : Nat} {st : List Value} {Q : Option Value × jW → Prop} {ls : jL} {w : jW} {a b : Int32} : Wp d 108 10 ls (.int b :: .int a :: st) w Q = ((b ≤ a → Wp d 108 20 ls st w Q) ∧ (¬ b ≤ a → Wp d 108 13 ls st w Q)) := Wp.if2 (c := b ≤ a) (off := 10) e108_10 rfl rfl rfl rfl rfl
theorem e108_13 : decode (j_co 108) 13 = .ok (.aload_n 0, 1) := by decide +kernel
set_option maxRecDepth 20000 in
theorem w108_13 {d : Nat} {st : List Value} {Q : Option Value × jW → Prop} {w : jW} {a1 a2 : Option Value} {x : Nat} : Wp d 108 13 [some (.ref x), a1, a2] (st) w Q = Wp d 108 14 [some (.ref x), a1, a2] (.ref x :: st) w Q := Wp.loc e108_13 rfl rfl rfl
theorem e108_14 : decode (j_co 108) 14 = .ok (.getfield 9, 3) := by decide +kernel
set_option maxRecDepth 20000 in
theorem w108_14 {d : Nat} {st : List Value} {Q : Option Value × jW → Prop} {ls : jL} {xs : List Value} {I : fI} {L : fL} {o : Nat} (ht : f_tg o = 0) : Wp d 108 14 ls (.ref o :: st) (f_W xs I L) Q = Wp d 108 17 ls (.ref (f_rf o 0) :: st) (f_W xs I L) Q := Wp.getR (ci := 0) (k := 0) e108_14 rfl (by decide) (by decide) rfl ht
theorem e108_17 : decode (j_co 108) 17 = .ok (.iload_n 1, 1) := by decide +kernel
set_option maxRecDepth 20000 in
theorem w108_17 {d : Nat} {st : List Value} {Q : Option Value × jW → Prop} {w : jW} {a0 a2 : Option Value} {x : Int32} : Wp d 108 17 [a0, some (.int x), a2] (st) w Q = Wp d 108 18 [a0, some (.int x), a2] (.int x :: st) w Q := Wp.loc e108_17 rfl rfl rfl
theorem e108_18 : decode (j_co 108) 18 = .ok (.iload_n 2, 1) := by decide +kernel
set_option maxRecDepth 20000 in
theorem w108_18 {d : Nat} {st : List Value} {Q : Option Value × jW → Prop} {w : jW} {a0 a1 : Option Value} {x : Int32} : Wp d 108 18 [a0, a1, some (.int x)] (st) w Q = Wp d 108 19 [a0, a1, some (.int x)] (.int x :: st) w Q := Wp.loc e108_18 rfl rfl rfl
theorem e108_19 : decode (j_co 108) 19 = .ok (.iastore, 1) := by decide +kernel
set_option maxRecDepth 20000 in
theorem w108_19 {d : Nat} {st : List Value} {Q : Option Value × jW → Prop} {ls : jL} {xs : List Value} {I : fI} {L : fL} {o : Nat} {i x : Int32} (ht : f_tg o = 100) (hi : ¬ (i < 0 ∨ f_ln o ≤ i.toNatClampNeg)) : Wp d 108 19 ls (.int x :: .int i :: .ref o :: st) (f_W xs I L) Q = Wp d 108 20 ls (st) (f_W xs (f_up I o i.toNatClampNeg x) L) Q := Wp.iast e108_19 ht hi
theorem e108_20 : decode (j_co 108) 20 = .ok (.return_, 1) := by decide +kernel
set_option maxRecDepth 20000 in
theorem w108_20 {d : Nat} {Q : Option Value × jW → Prop} {ls : jL} {w : jW} : Wp d 108 20 ls [] w Q = Q (none, w) := Wp.ret e108_20 rfl
