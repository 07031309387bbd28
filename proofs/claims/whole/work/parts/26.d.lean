/-! X.mode -/
theorem e13_0 : decode (j_co 13) 0 = .ok (.aload_n 0, 1) := by decide +kernel
set_option maxRecDepth 20000 in
theorem w13_0 {d : Nat} {st : List Value} {Q : Option Value × jW → Prop} {w : jW} {x : Nat} : Wp d 13 0 [some (.ref x)] (st) w Q = Wp d 13 1 [some (.ref x)] (.ref x :: st) w Q := Wp.loc e13_0 rfl rfl rfl
theorem e13_1 : decode (j_co 13) 1 = .ok (.getfield 10, 3) := by decide +kernel
set_option maxRecDepth 20000 in
theorem w13_1 {d : Nat} {st : List Value} {Q : Option Value × jW → Prop} {ls : jL} {xs : List Value} {I : fI} {L : fL} {o : Nat} (ht : f_tg o = 10) : Wp d 13 1 ls (.ref o :: st) (f_W xs I L) Q = Wp d 13 4 ls (.ref (f_rf o 0) :: st) (f_W xs I L) Q := Wp.getR (ci := 10) (k := 0) e13_1 rfl (by decide) (by decide) rfl ht
theorem e13_4 : decode (j_co 13) 4 = .ok (.getfield 62, 3) := by decide +kernel
set_option maxRecDepth 20000 in
theorem w13_4 {d : Nat} {st : List Value} {Q : Option Value × jW → Prop} {ls : jL} {xs : List Value} {I : fI} {L : fL} {o : Nat} (ht : f_tg o = 5) : Wp d 13 4 ls (.ref o :: st) (f_W xs I L) Q = Wp d 13 7 ls (.int (I o 4) :: st) (f_W xs I L) Q := Wp.getI (ci := 5) (k := 4) e13_4 rfl (by decide) (by decide) (by decide) ht
theorem e13_7 : decode (j_co 13) 7 = .ok (.bipush 6, 2) := by decide +kernel
set_option maxRecDepth 20000 in
theorem w13_7 {d : Nat} {st : List Value} {Q : Option Value × jW → Prop} {ls : jL} {w : jW} : Wp d 13 7 ls (st) w Q = Wp d 13 9 ls (.int (nI 6) :: st) w Q := Wp.alu e13_7 rfl rfl
theorem e13_9 : decode (j_co 13) 9 = .ok (.if_icmp .lt 6, 3) := by decide +kernel
set_option maxRecDepth 20000 in
theorem w13_9 {d : Nat} {st : List Value} {Q : Option Value × jW → Prop} {ls : jL} {w : jW} {a b : Int32} : Wp d 13 9 ls (.int b :: .int a :: st) w Q = ((a < b → Wp d 13 15 ls st w Q) ∧ (¬ a < b → Wp d 13 12 ls st w Q)) := Wp.if2 (c := a < b) (off := 6) e13_9 rfl rfl rfl rfl rfl
theorem e13_12 : decode (j_co 13) 12 = .ok (.bipush (-3), 2) := by decide +kernel
set_option maxRecDepth 20000 in
theorem w13_12 {d : Nat} {st : List Value} {Q : Option Value × jW → Prop} {ls : jL} {w : jW} : Wp d 13 12 ls (st) w Q = Wp d 13 14 ls (.int (-3) :: st) w Q := Wp.alu e13_12 rfl rfl
theorem e13_14 : decode (j_co 13) 14 = .ok (.ireturn, 1) := by decide +kernel
set_option maxRecDepth 20000 in
theorem w13_14 {d : Nat} {Q : Option Value × jW → Prop} {ls : jL} {w : jW} {x : Int32} : Wp d 13 14 ls [.int x] w Q = Q (some (.int x), w) := Wp.ret e13_14 rfl
theorem e13_15 : decode (j_co 13) 15 = .ok (.aload_n 0, 1) := by decide +kernel
set_option maxRecDepth 20000 in
theorem w13_15 {d : Nat} {st : List Value} {Q : Option Value × jW → Prop} {w : jW} {x : Nat} : Wp d 13 15 [some (.ref x)] (st) w Q = Wp d 13 16 [some (.ref x)] (.ref x :: st) w Q := Wp.loc e13_15 rfl rfl rfl
theorem e13_16 : decode (j_co 13) 16 = .ok (.getfield 21, 3) := by decide +kernel
set_option maxRecDepth 20000 in
theorem w13_16 {d : Nat} {st : List Value} {Q : Option Value × jW → Prop} {ls : jL} {xs : List Value} {I : fI} {L : fL} {o : Nat} (ht : f_tg o = 10) : Wp d 13 16 ls (.ref o :: st) (f_W xs I L) Q = Wp d 13 19 ls (.ref (f_rf o 1) :: st) (f_W xs I L) Q := Wp.getR (ci := 10) (k := 1) e13_16 rfl (by decide) (by decide) rfl ht
theorem e13_19 : decode (j_co 13) 19 = .ok (.invokevirtual 66, 3) := by decide +kernel
set_option maxRecDepth 20000 in
theorem w13_19 {d : Nat} {st : List Value} {Q : Option Value × jW → Prop} {ls : jL} {xs : List Value} {I : fI} {L : fL} {r : Nat} (hs : j_sumc st ≤ 8) (ht : f_tg r = 7) : Wp (d + 1) 13 19 ls (.ref r :: st) (f_W xs I L) Q = Wp d 14 0 [some (.ref r)] [] (f_W xs I L) (fun r1 => Wp (d + 1) 13 22 ls (r1.1.toList ++ st) r1.2 Q) := Wp.cv (y' := 14) (as := []) e13_19 rfl (by decide) rfl (show 1 ≤ 1 by decide) (by decide) hs ht
theorem e13_22 : decode (j_co 13) 22 = .ok (.aload_n 0, 1) := by decide +kernel
set_option maxRecDepth 20000 in
theorem w13_22 {d : Nat} {st : List Value} {Q : Option Value × jW → Prop} {w : jW} {x : Nat} : Wp d 13 22 [some (.ref x)] (st) w Q = Wp d 13 23 [some (.ref x)] (.ref x :: st) w Q := Wp.loc e13_22 rfl rfl rfl
theorem e13_23 : decode (j_co 13) 23 = .ok (.getfield 10, 3) := by decide +kernel
set_option maxRecDepth 20000 in
theorem w13_23 {d : Nat} {st : List Value} {Q : Option Value × jW → Prop} {ls : jL} {xs : List Value} {I : fI} {L : fL} {o : Nat} (ht : f_tg o = 10) : Wp d 13 23 ls (.ref o :: st) (f_W xs I L) Q = Wp d 13 26 ls (.ref (f_rf o 0) :: st) (f_W xs I L) Q := Wp.getR (ci := 10) (k := 0) e13_23 rfl (by decide) (by decide) rfl ht
theorem e13_26 : decode (j_co 13) 26 = .ok (.dup, 1) := by decide +kernel
set_option maxRecDepth 20000 in
theorem w13_26 {d : Nat} {st : List Value} {Q : Option Value × jW → Prop} {ls : jL} {w : jW} {a : Int32} : Wp d 13 26 ls (.int a :: st) w Q = Wp d 13 27 ls (.int a :: .int a :: st) w Q := Wp.alu e13_26 rfl rfl
set_option maxRecDepth 20000 in
theorem w13_26r {d : Nat} {st : List Value} {Q : Option Value × jW → Prop} {ls : jL} {w : jW} {a : Nat} : Wp d 13 26 ls (.ref a :: st) w Q = Wp d 13 27 ls (.ref a :: .ref a :: st) w Q := Wp.alu e13_26 rfl rfl
theorem e13_27 : decode (j_co 13) 27 = .ok (.getfield 62, 3) := by decide +kernel
set_option maxRecDepth 20000 in
theorem w13_27 {d : Nat} {st : List Value} {Q : Option Value × jW → Prop} {ls : jL} {xs : List Value} {I : fI} {L : fL} {o : Nat} (ht : f_tg o = 5) : Wp d 13 27 ls (.ref o :: st) (f_W xs I L) Q = Wp d 13 30 ls (.int (I o 4) :: st) (f_W xs I L) Q := Wp.getI (ci := 5) (k := 4) e13_27 rfl (by decide) (by decide) (by decide) ht
theorem e13_30 : decode (j_co 13) 30 = .ok (.dup_x1, 1) := by decide +kernel
set_option maxRecDepth 20000 in
theorem w13_30 {d : Nat} {st : List Value} {Q : Option Value × jW → Prop} {ls : jL} {w : jW} {a : Int32} {b : Nat} : Wp d 13 30 ls (.int a :: .ref b :: st) w Q = Wp d 13 31 ls (.int a :: .ref b :: .int a :: st) w Q := Wp.alu e13_30 rfl rfl
theorem e13_31 : decode (j_co 13) 31 = .ok (.iconst 1, 1) := by decide +kernel
set_option maxRecDepth 20000 in
theorem w13_31 {d : Nat} {st : List Value} {Q : Option Value × jW → Prop} {ls : jL} {w : jW} : Wp d 13 31 ls (st) w Q = Wp d 13 32 ls (.int (nI 1) :: st) w Q := Wp.alu e13_31 rfl rfl
theorem e13_32 : decode (j_co 13) 32 = .ok (.iadd, 1) := by decide +kernel
set_option maxRecDepth 20000 in
theorem w13_32 {d : Nat} {st : List Value} {Q : Option Value × jW → Prop} {ls : jL} {w : jW} {a b : Int32} : Wp d 13 32 ls (.int b :: .int a :: st) w Q = Wp d 13 33 ls (.int (a + b) :: st) w Q := Wp.alu e13_32 rfl rfl
theorem e13_33 : decode (j_co 13) 33 = .ok (.putfield 62, 3) := by decide +kernel
set_option maxRecDepth 20000 in
theorem w13_33 {d : Nat} {st : List Value} {Q : Option Value × jW → Prop} {ls : jL} {xs : List Value} {I : fI} {L : fL} {o : Nat} {x : Int32} (ht : f_tg o = 5) : Wp d 13 33 ls (.int x :: .ref o :: st) (f_W xs I L) Q = Wp d 13 36 ls (st) (f_W xs (f_up I o 4 x) L) Q := Wp.putI (ci := 5) (k := 4) e13_33 rfl (by decide) (by decide) rfl (by decide) ht
theorem e13_36 : decode (j_co 13) 36 = .ok (.ireturn, 1) := by decide +kernel
set_option maxRecDepth 20000 in
theorem w13_36 {d : Nat} {Q : Option Value × jW → Prop} {ls : jL} {w : jW} {x : Int32} : Wp d 13 36 ls [.int x] w Q = Q (some (.int x), w) := Wp.ret e13_36 rfl
/-! X.room -/
theorem e15_0 : decode (j_co 15) 0 = .ok (.aload_n 0, 1) := by decide +kernel
set_option maxRecDepth 20000 in
theorem w15_0 {d : Nat} {st : List Value} {Q : Option Value × jW → Prop} {w : jW} {a1 a2 a3 a4 : Option Value} {x : Nat} : Wp d 15 0 [some (.ref x), a1, a2, a3, a4] (st) w Q = Wp d 15 1 [some (.ref x), a1, a2, a3, a4] (.ref x :: st) w Q := Wp.loc e15_0 rfl rfl rfl
theorem e15_1 : decode (j_co 15) 1 = .ok (.getfield 10, 3) := by decide +kernel
set_option maxRecDepth 20000 in
theorem w15_1 {d : Nat} {st : List Value} {Q : Option Value × jW → Prop} {ls : jL} {xs : List Value} {I : fI} {L : fL} {o : Nat} (ht : f_tg o = 10) : Wp d 15 1 ls (.ref o :: st) (f_W xs I L) Q = Wp d 15 4 ls (.ref (f_rf o 0) :: st) (f_W xs I L) Q := Wp.getR (ci := 10) (k := 0) e15_1 rfl (by decide) (by decide) rfl ht
theorem e15_4 : decode (j_co 15) 4 = .ok (.iload_n 1, 1) := by decide +kernel
set_option maxRecDepth 20000 in
theorem w15_4 {d : Nat} {st : List Value} {Q : Option Value × jW → Prop} {w : jW} {a0 a2 a3 a4 : Option Value} {x : Int32} : Wp d 15 4 [a0, some (.int x), a2, a3, a4] (st) w Q = Wp d 15 5 [a0, some (.int x), a2, a3, a4] (.int x :: st) w Q := Wp.loc e15_4 rfl rfl rfl
theorem e15_5 : decode (j_co 15) 5 = .ok (.invokevirtual 69, 3) := by decide +kernel
set_option maxRecDepth 20000 in
theorem w15_5 {d : Nat} {st : List Value} {Q : Option Value × jW → Prop} {ls : jL} {xs : List Value} {I : fI} {L : fL} {r : Nat} {x0 : Int32} (hs : j_sumc st ≤ 8) (ht : f_tg r = 5) : Wp (d + 1) 15 5 ls (.int x0 :: .ref r :: st) (f_W xs I L) Q = Wp d 16 0 [some (.ref r), some (.int x0)] [] (f_W xs I L) (fun r1 => Wp (d + 1) 15 8 ls (r1.1.toList ++ st) r1.2 Q) := Wp.cv (y' := 16) (as := [.int x0]) e15_5 rfl (by decide) rfl (show 2 ≤ 2 by decide) (by decide) hs ht
theorem e15_8 : decode (j_co 15) 8 = .ok (.ifCond .eq 15, 3) := by decide +kernel
set_option maxRecDepth 20000 in
theorem w15_8 {d : Nat} {st : List Value} {Q : Option Value × jW → Prop} {ls : jL} {w : jW} {a : Int32} : Wp d 15 8 ls (.int a :: st) w Q = ((a = nI 0 → Wp d 15 23 ls st w Q) ∧ (¬ a = nI 0 → Wp d 15 11 ls st w Q)) := Wp.if2 (c := a = nI 0) (off := 15) e15_8 rfl rfl rfl rfl rfl
theorem e15_11 : decode (j_co 15) 11 = .ok (.iload_n 2, 1) := by decide +kernel
set_option maxRecDepth 20000 in
theorem w15_11 {d : Nat} {st : List Value} {Q : Option Value × jW → Prop} {w : jW} {a0 a1 a3 a4 : Option Value} {x : Int32} : Wp d 15 11 [a0, a1, some (.int x), a3, a4] (st) w Q = Wp d 15 12 [a0, a1, some (.int x), a3, a4] (.int x :: st) w Q := Wp.loc e15_11 rfl rfl rfl
theorem e15_12 : decode (j_co 15) 12 = .ok (.iload_n 3, 1) := by decide +kernel
set_option maxRecDepth 20000 in
theorem w15_12 {d : Nat} {st : List Value} {Q : Option Value × jW → Prop} {w : jW} {a0 a1 a2 a4 : Option Value} {x : Int32} : Wp d 15 12 [a0, a1, a2, some (.int x), a4] (st) w Q = Wp d 15 13 [a0, a1, a2, some (.int x), a4] (.int x :: st) w Q := Wp.loc e15_12 rfl rfl rfl
theorem e15_13 : decode (j_co 15) 13 = .ok (.iload 4, 2) := by decide +kernel
set_option maxRecDepth 20000 in
theorem w15_13 {d : Nat} {st : List Value} {Q : Option Value × jW → Prop} {w : jW} {a0 a1 a2 a3 : Option Value} {x : Int32} : Wp d 15 13 [a0, a1, a2, a3, some (.int x)] (st) w Q = Wp d 15 15 [a0, a1, a2, a3, some (.int x)] (.int x :: st) w Q := Wp.loc e15_13 rfl rfl rfl
theorem e15_15 : decode (j_co 15) 15 = .ok (.bipush 20, 2) := by decide +kernel
set_option maxRecDepth 20000 in
theorem w15_15 {d : Nat} {st : List Value} {Q : Option Value × jW → Prop} {ls : jL} {w : jW} : Wp d 15 15 ls (st) w Q = Wp d 15 17 ls (.int (nI 20) :: st) w Q := Wp.alu e15_15 rfl rfl
theorem e15_17 : decode (j_co 15) 17 = .ok (.invokestatic 73, 3) := by decide +kernel
set_option maxRecDepth 20000 in
theorem w15_17 {d : Nat} {st : List Value} {Q : Option Value × jW → Prop} {ls : jL} {w : jW} {x0 : Int32} {x1 : Int32} {x2 : Int32} {x3 : Int32} (hs : j_sumc st ≤ 8) : Wp (d + 1) 15 17 ls (.int x3 :: .int x2 :: .int x1 :: .int x0 :: st) w Q = Wp d 17 0 [some (.int x0), some (.int x1), some (.int x2), some (.int x3)] [] w (fun r1 => Wp (d + 1) 15 20 ls (r1.1.toList ++ st) r1.2 Q) := Wp.cs (kd := 1) (y' := 17) (as := [.int x0, .int x1, .int x2, .int x3]) e15_17 rfl (by decide) (by decide) rfl (show 4 ≤ 4 by decide) hs
theorem e15_20 : decode (j_co 15) 20 = .ok (.ifCond .ne 5, 3) := by decide +kernel
set_option maxRecDepth 20000 in
theorem w15_20 {d : Nat} {st : List Value} {Q : Option Value × jW → Prop} {ls : jL} {w : jW} {a : Int32} : Wp d 15 20 ls (.int a :: st) w Q = ((a = nI 0 → Wp d 15 23 ls st w Q) ∧ (¬ a = nI 0 → Wp d 15 25 ls st w Q)) := Wp.if2n (c := a = nI 0) (off := 5) e15_20 rfl rfl rfl rfl rfl
theorem e15_23 : decode (j_co 15) 23 = .ok (.iconst (-1), 1) := by decide +kernel
set_option maxRecDepth 20000 in
theorem w15_23 {d : Nat} {st : List Value} {Q : Option Value × jW → Prop} {ls : jL} {w : jW} : Wp d 15 23 ls (st) w Q = Wp d 15 24 ls (.int (-1) :: st) w Q := Wp.alu e15_23 rfl rfl
theorem e15_24 : decode (j_co 15) 24 = .ok (.ireturn, 1) := by decide +kernel
set_option maxRecDepth 20000 in
theorem w15_24 {d : Nat} {Q : Option Value × jW → Prop} {ls : jL} {w : jW} {x : Int32} : Wp d 15 24 ls [.int x] w Q = Q (some (.int x), w) := Wp.ret e15_24 rfl
theorem e15_25 : decode (j_co 15) 25 = .ok (.aload_n 0, 1) := by decide +kernel
set_option maxRecDepth 20000 in
theorem w15_25 {d : Nat} {st : List Value} {Q : Option Value × jW → Prop} {w : jW} {a1 a2 a3 a4 : Option Value} {x : Nat} : Wp d 15 25 [some (.ref x), a1, a2, a3, a4] (st) w Q = Wp d 15 26 [some (.ref x), a1, a2, a3, a4] (.ref x :: st) w Q := Wp.loc e15_25 rfl rfl rfl
theorem e15_26 : decode (j_co 15) 26 = .ok (.getfield 21, 3) := by decide +kernel
set_option maxRecDepth 20000 in
theorem w15_26 {d : Nat} {st : List Value} {Q : Option Value × jW → Prop} {ls : jL} {xs : List Value} {I : fI} {L : fL} {o : Nat} (ht : f_tg o = 10) : Wp d 15 26 ls (.ref o :: st) (f_W xs I L) Q = Wp d 15 29 ls (.ref (f_rf o 1) :: st) (f_W xs I L) Q := Wp.getR (ci := 10) (k := 1) e15_26 rfl (by decide) (by decide) rfl ht
theorem e15_29 : decode (j_co 15) 29 = .ok (.invokevirtual 66, 3) := by decide +kernel
set_option maxRecDepth 20000 in
theorem w15_29 {d : Nat} {st : List Value} {Q : Option Value × jW → Prop} {ls : jL} {xs : List Value} {I : fI} {L : fL} {r : Nat} (hs : j_sumc st ≤ 8) (ht : f_tg r = 7) : Wp (d + 1) 15 29 ls (.ref r :: st) (f_W xs I L) Q = Wp d 14 0 [some (.ref r)] [] (f_W xs I L) (fun r1 => Wp (d + 1) 15 32 ls (r1.1.toList ++ st) r1.2 Q) := Wp.cv (y' := 14) (as := []) e15_29 rfl (by decide) rfl (show 1 ≤ 1 by decide) (by decide) hs ht
theorem e15_32 : decode (j_co 15) 32 = .ok (.aload_n 0, 1) := by decide +kernel
set_option maxRecDepth 20000 in
theorem w15_32 {d : Nat} {st : List Value} {Q : Option Value × jW → Prop} {w : jW} {a1 a2 a3 a4 : Option Value} {x : Nat} : Wp d 15 32 [some (.ref x), a1, a2, a3, a4] (st) w Q = Wp d 15 33 [some (.ref x), a1, a2, a3, a4] (.ref x :: st) w Q := Wp.loc e15_32 rfl rfl rfl
theorem e15_33 : decode (j_co 15) 33 = .ok (.getfield 10, 3) := by decide +kernel
set_option maxRecDepth 20000 in
theorem w15_33 {d : Nat} {st : List Value} {Q : Option Value × jW → Prop} {ls : jL} {xs : List Value} {I : fI} {L : fL} {o : Nat} (ht : f_tg o = 10) : Wp d 15 33 ls (.ref o :: st) (f_W xs I L) Q = Wp d 15 36 ls (.ref (f_rf o 0) :: st) (f_W xs I L) Q := Wp.getR (ci := 10) (k := 0) e15_33 rfl (by decide) (by decide) rfl ht
theorem e15_36 : decode (j_co 15) 36 = .ok (.getfield 77, 3) := by decide +kernel
set_option maxRecDepth 20000 in
theorem w15_36 {d : Nat} {st : List Value} {Q : Option Value × jW → Prop} {ls : jL} {xs : List Value} {I : fI} {L : fL} {o : Nat} (ht : f_tg o = 5) : Wp d 15 36 ls (.ref o :: st) (f_W xs I L) Q = Wp d 15 39 ls (.ref (f_rf o 0) :: st) (f_W xs I L) Q := Wp.getR (ci := 5) (k := 0) e15_36 rfl (by decide) (by decide) rfl ht
theorem e15_39 : decode (j_co 15) 39 = .ok (.iload_n 1, 1) := by decide +kernel
set_option maxRecDepth 20000 in
theorem w15_39 {d : Nat} {st : List Value} {Q : Option Value × jW → Prop} {w : jW} {a0 a2 a3 a4 : Option Value} {x : Int32} : Wp d 15 39 [a0, some (.int x), a2, a3, a4] (st) w Q = Wp d 15 40 [a0, some (.int x), a2, a3, a4] (.int x :: st) w Q := Wp.loc e15_39 rfl rfl rfl
theorem e15_40 : decode (j_co 15) 40 = .ok (.aaload, 1) := by decide +kernel
set_option maxRecDepth 20000 in
theorem w15_40 {d : Nat} {st : List Value} {Q : Option Value × jW → Prop} {ls : jL} {xs : List Value} {I : fI} {L : fL} {o : Nat} {i : Int32} (ht : 103 ≤ f_tg o ∧ f_tg o ≤ 106) (hi : ¬ (i < 0 ∨ f_ln o ≤ i.toNatClampNeg)) : Wp d 15 40 ls (.int i :: .ref o :: st) (f_W xs I L) Q = Wp d 15 41 ls (.ref (f_rf o i.toNatClampNeg) :: st) (f_W xs I L) Q := Wp.aald e15_40 rfl ht hi
theorem e15_41 : decode (j_co 15) 41 = .ok (.getfield 81, 3) := by decide +kernel
set_option maxRecDepth 20000 in
theorem w15_41 {d : Nat} {st : List Value} {Q : Option Value × jW → Prop} {ls : jL} {xs : List Value} {I : fI} {L : fL} {o : Nat} (ht : f_tg o = 6) : Wp d 15 41 ls (.ref o :: st) (f_W xs I L) Q = Wp d 15 44 ls (.ref (f_rf o 0) :: st) (f_W xs I L) Q := Wp.getR (ci := 6) (k := 0) e15_41 rfl (by decide) (by decide) rfl ht
theorem e15_44 : decode (j_co 15) 44 = .ok (.iload_n 2, 1) := by decide +kernel
set_option maxRecDepth 20000 in
theorem w15_44 {d : Nat} {st : List Value} {Q : Option Value × jW → Prop} {w : jW} {a0 a1 a3 a4 : Option Value} {x : Int32} : Wp d 15 44 [a0, a1, some (.int x), a3, a4] (st) w Q = Wp d 15 45 [a0, a1, some (.int x), a3, a4] (.int x :: st) w Q := Wp.loc e15_44 rfl rfl rfl
theorem e15_45 : decode (j_co 15) 45 = .ok (.iload_n 3, 1) := by decide +kernel
set_option maxRecDepth 20000 in
theorem w15_45 {d : Nat} {st : List Value} {Q : Option Value × jW → Prop} {w : jW} {a0 a1 a2 a4 : Option Value} {x : Int32} : Wp d 15 45 [a0, a1, a2, some (.int x), a4] (st) w Q = Wp d 15 46 [a0, a1, a2, some (.int x), a4] (.int x :: st) w Q := Wp.loc e15_45 rfl rfl rfl
theorem e15_46 : decode (j_co 15) 46 = .ok (.iload 4, 2) := by decide +kernel
set_option maxRecDepth 20000 in
theorem w15_46 {d : Nat} {st : List Value} {Q : Option Value × jW → Prop} {w : jW} {a0 a1 a2 a3 : Option Value} {x : Int32} : Wp d 15 46 [a0, a1, a2, a3, some (.int x)] (st) w Q = Wp d 15 48 [a0, a1, a2, a3, some (.int x)] (.int x :: st) w Q := Wp.loc e15_46 rfl rfl rfl
theorem e15_48 : decode (j_co 15) 48 = .ok (.invokevirtual 86, 3) := by decide +kernel
set_option maxRecDepth 20000 in
theorem w15_48 {d : Nat} {st : List Value} {Q : Option Value × jW → Prop} {ls : jL} {xs : List Value} {I : fI} {L : fL} {r : Nat} {x0 : Int32} {x1 : Int32} {x2 : Int32} (hs : j_sumc st ≤ 8) (ht : f_tg r = 0) : Wp (d + 1) 15 48 ls (.int x2 :: .int x1 :: .int x0 :: .ref r :: st) (f_W xs I L) Q = Wp d 5 0 [some (.ref r), some (.int x0), some (.int x1), some (.int x2)] [] (f_W xs I L) (fun r1 => Wp (d + 1) 15 51 ls (r1.1.toList ++ st) r1.2 Q) := Wp.cv (y' := 5) (as := [.int x0, .int x1, .int x2]) e15_48 rfl (by decide) rfl (show 4 ≤ 4 by decide) (by decide) hs ht
theorem e15_51 : decode (j_co 15) 51 = .ok (.iconst 1, 1) := by decide +kernel
set_option maxRecDepth 20000 in
theorem w15_51 {d : Nat} {st : List Value} {Q : Option Value × jW → Prop} {ls : jL} {w : jW} : Wp d 15 51 ls (st) w Q = Wp d 15 52 ls (.int (nI 1) :: st) w Q := Wp.alu e15_51 rfl rfl
theorem e15_52 : decode (j_co 15) 52 = .ok (.ireturn, 1) := by decide +kernel
set_option maxRecDepth 20000 in
theorem w15_52 {d : Nat} {Q : Option Value × jW → Prop} {ls : jL} {w : jW} {x : Int32} : Wp d 15 52 ls [.int x] w Q = Q (some (.int x), w) := Wp.ret e15_52 rfl
/-! X.areSides -/
theorem e17_0 : decode (j_co 17) 0 = .ok (.iload_n 0, 1) := by decide +kernel
set_option maxRecDepth 20000 in
theorem w17_0 {d : Nat} {st : List Value} {Q : Option Value × jW → Prop} {w : jW} {a1 a2 a3 : Option Value} {x : Int32} : Wp d 17 0 [some (.int x), a1, a2, a3] (st) w Q = Wp d 17 1 [some (.int x), a1, a2, a3] (.int x :: st) w Q := Wp.loc e17_0 rfl rfl rfl
theorem e17_1 : decode (j_co 17) 1 = .ok (.invokestatic 114, 3) := by decide +kernel
set_option maxRecDepth 20000 in
theorem w17_1 {d : Nat} {st : List Value} {Q : Option Value × jW → Prop} {ls : jL} {w : jW} {x0 : Int32} (hs : j_sumc st ≤ 8) : Wp (d + 1) 17 1 ls (.int x0 :: st) w Q = Wp d 18 0 [some (.int x0)] [] w (fun r1 => Wp (d + 1) 17 4 ls (r1.1.toList ++ st) r1.2 Q) := Wp.cs (kd := 1) (y' := 18) (as := [.int x0]) e17_1 rfl (by decide) (by decide) rfl (show 1 ≤ 1 by decide) hs
theorem e17_4 : decode (j_co 17) 4 = .ok (.ifCond .eq 23, 3) := by decide +kernel
set_option maxRecDepth 20000 in
theorem w17_4 {d : Nat} {st : List Value} {Q : Option Value × jW → Prop} {ls : jL} {w : jW} {a : Int32} : Wp d 17 4 ls (.int a :: st) w Q = ((a = nI 0 → Wp d 17 27 ls st w Q) ∧ (¬ a = nI 0 → Wp d 17 7 ls st w Q)) := Wp.if2 (c := a = nI 0) (off := 23) e17_4 rfl rfl rfl rfl rfl
theorem e17_7 : decode (j_co 17) 7 = .ok (.iload_n 1, 1) := by decide +kernel
set_option maxRecDepth 20000 in
theorem w17_7 {d : Nat} {st : List Value} {Q : Option Value × jW → Prop} {w : jW} {a0 a2 a3 : Option Value} {x : Int32} : Wp d 17 7 [a0, some (.int x), a2, a3] (st) w Q = Wp d 17 8 [a0, some (.int x), a2, a3] (.int x :: st) w Q := Wp.loc e17_7 rfl rfl rfl
theorem e17_8 : decode (j_co 17) 8 = .ok (.iload_n 3, 1) := by decide +kernel
set_option maxRecDepth 20000 in
theorem w17_8 {d : Nat} {st : List Value} {Q : Option Value × jW → Prop} {w : jW} {a0 a1 a2 : Option Value} {x : Int32} : Wp d 17 8 [a0, a1, a2, some (.int x)] (st) w Q = Wp d 17 9 [a0, a1, a2, some (.int x)] (.int x :: st) w Q := Wp.loc e17_8 rfl rfl rfl
theorem e17_9 : decode (j_co 17) 9 = .ok (.ineg, 1) := by decide +kernel
set_option maxRecDepth 20000 in
theorem w17_9 {d : Nat} {st : List Value} {Q : Option Value × jW → Prop} {ls : jL} {w : jW} {a : Int32} : Wp d 17 9 ls (.int a :: st) w Q = Wp d 17 10 ls (.int (-a) :: st) w Q := Wp.alu e17_9 rfl rfl
theorem e17_10 : decode (j_co 17) 10 = .ok (.if_icmp .lt 17, 3) := by decide +kernel
set_option maxRecDepth 20000 in
theorem w17_10 {d : Nat} {st : List Value} {Q : Option Value × jW → Prop} {ls : jL} {w : jW} {a b : Int32} : Wp d 17 10 ls (.int b :: .int a :: st) w Q = ((a < b → Wp d 17 27 ls st w Q) ∧ (¬ a < b → Wp d 17 13 ls st w Q)) := Wp.if2 (c := a < b) (off := 17) e17_10 rfl rfl rfl rfl rfl
theorem e17_13 : decode (j_co 17) 13 = .ok (.iload_n 1, 1) := by decide +kernel
set_option maxRecDepth 20000 in
theorem w17_13 {d : Nat} {st : List Value} {Q : Option Value × jW → Prop} {w : jW} {a0 a2 a3 : Option Value} {x : Int32} : Wp d 17 13 [a0, some (.int x), a2, a3] (st) w Q = Wp d 17 14 [a0, some (.int x), a2, a3] (.int x :: st) w Q := Wp.loc e17_13 rfl rfl rfl
theorem e17_14 : decode (j_co 17) 14 = .ok (.iload_n 2, 1) := by decide +kernel
set_option maxRecDepth 20000 in
theorem w17_14 {d : Nat} {st : List Value} {Q : Option Value × jW → Prop} {w : jW} {a0 a1 a3 : Option Value} {x : Int32} : Wp d 17 14 [a0, a1, some (.int x), a3] (st) w Q = Wp d 17 15 [a0, a1, some (.int x), a3] (.int x :: st) w Q := Wp.loc e17_14 rfl rfl rfl
theorem e17_15 : decode (j_co 17) 15 = .ok (.if_icmp .gt 12, 3) := by decide +kernel
set_option maxRecDepth 20000 in
theorem w17_15 {d : Nat} {st : List Value} {Q : Option Value × jW → Prop} {ls : jL} {w : jW} {a b : Int32} : Wp d 17 15 ls (.int b :: .int a :: st) w Q = ((b < a → Wp d 17 27 ls st w Q) ∧ (¬ b < a → Wp d 17 18 ls st w Q)) := Wp.if2 (c := b < a) (off := 12) e17_15 rfl rfl rfl rfl rfl
theorem e17_18 : decode (j_co 17) 18 = .ok (.iload_n 2, 1) := by decide +kernel
set_option maxRecDepth 20000 in
theorem w17_18 {d : Nat} {st : List Value} {Q : Option Value × jW → Prop} {w : jW} {a0 a1 a3 : Option Value} {x : Int32} : Wp d 17 18 [a0, a1, some (.int x), a3] (st) w Q = Wp d 17 19 [a0, a1, some (.int x), a3] (.int x :: st) w Q := Wp.loc e17_18 rfl rfl rfl
theorem e17_19 : decode (j_co 17) 19 = .ok (.iload_n 3, 1) := by decide +kernel
set_option maxRecDepth 20000 in
theorem w17_19 {d : Nat} {st : List Value} {Q : Option Value × jW → Prop} {w : jW} {a0 a1 a2 : Option Value} {x : Int32} : Wp d 17 19 [a0, a1, a2, some (.int x)] (st) w Q = Wp d 17 20 [a0, a1, a2, some (.int x)] (.int x :: st) w Q := Wp.loc e17_19 rfl rfl rfl
theorem e17_20 : decode (j_co 17) 20 = .ok (.if_icmp .gt 7, 3) := by decide +kernel
set_option maxRecDepth 20000 in
theorem w17_20 {d : Nat} {st : List Value} {Q : Option Value × jW → Prop} {ls : jL} {w : jW} {a b : Int32} : Wp d 17 20 ls (.int b :: .int a :: st) w Q = ((b < a → Wp d 17 27 ls st w Q) ∧ (¬ b < a → Wp d 17 23 ls st w Q)) := Wp.if2 (c := b < a) (off := 7) e17_20 rfl rfl rfl rfl rfl
theorem e17_23 : decode (j_co 17) 23 = .ok (.iconst 1, 1) := by decide +kernel
set_option maxRecDepth 20000 in
theorem w17_23 {d : Nat} {st : List Value} {Q : Option Value × jW → Prop} {ls : jL} {w : jW} : Wp d 17 23 ls (st) w Q = Wp d 17 24 ls (.int (nI 1) :: st) w Q := Wp.alu e17_23 rfl rfl
theorem e17_24 : decode (j_co 17) 24 = .ok (.goto 4, 3) := by decide +kernel
set_option maxRecDepth 20000 in
theorem w17_24 {d : Nat} {st : List Value} {Q : Option Value × jW → Prop} {ls : jL} {w : jW} : Wp d 17 24 ls (st) w Q = Wp d 17 28 ls (st) w Q := Wp.br e17_24 (Or.inl rfl) rfl rfl rfl rfl
theorem e17_27 : decode (j_co 17) 27 = .ok (.iconst 0, 1) := by decide +kernel
set_option maxRecDepth 20000 in
theorem w17_27 {d : Nat} {st : List Value} {Q : Option Value × jW → Prop} {ls : jL} {w : jW} : Wp d 17 27 ls (st) w Q = Wp d 17 28 ls (.int (nI 0) :: st) w Q := Wp.alu e17_27 rfl rfl
theorem e17_28 : decode (j_co 17) 28 = .ok (.ireturn, 1) := by decide +kernel
set_option maxRecDepth 20000 in
theorem w17_28 {d : Nat} {Q : Option Value × jW → Prop} {ls : jL} {w : jW} {x : Int32} (hx : x = 0 ∨ x = 1) : Wp d 17 28 ls [.int x] w Q = Q (some (.int x), w) := Wp.ret e17_28 (by rcases hx with rfl | rfl <;> rfl)
/-! X.isVariable -/
theorem e18_0 : decode (j_co 18) 0 = .ok (.iload_n 0, 1) := by decide +kernel
set_option maxRecDepth 20000 in
theorem w18_0 {d : Nat} {st : List Value} {Q : Option Value × jW → Prop} {w : jW} {x : Int32} : Wp d 18 0 [some (.int x)] (st) w Q = Wp d 18 1 [some (.int x)] (.int x :: st) w Q := Wp.loc e18_0 rfl rfl rfl
theorem e18_1 : decode (j_co 18) 1 = .ok (.ifCond .lt 12, 3) := by decide +kernel
set_option maxRecDepth 20000 in
theorem w18_1 {d : Nat} {st : List Value} {Q : Option Value × jW → Prop} {ls : jL} {w : jW} {a : Int32} : Wp d 18 1 ls (.int a :: st) w Q = ((a < nI 0 → Wp d 18 13 ls st w Q) ∧ (¬ a < nI 0 → Wp d 18 4 ls st w Q)) := Wp.if2 (c := a < nI 0) (off := 12) e18_1 rfl rfl rfl rfl rfl
theorem e18_4 : decode (j_co 18) 4 = .ok (.iload_n 0, 1) := by decide +kernel
set_option maxRecDepth 20000 in
theorem w18_4 {d : Nat} {st : List Value} {Q : Option Value × jW → Prop} {w : jW} {x : Int32} : Wp d 18 4 [some (.int x)] (st) w Q = Wp d 18 5 [some (.int x)] (.int x :: st) w Q := Wp.loc e18_4 rfl rfl rfl
theorem e18_5 : decode (j_co 18) 5 = .ok (.iconst 3, 1) := by decide +kernel
set_option maxRecDepth 20000 in
theorem w18_5 {d : Nat} {st : List Value} {Q : Option Value × jW → Prop} {ls : jL} {w : jW} : Wp d 18 5 ls (st) w Q = Wp d 18 6 ls (.int (nI 3) :: st) w Q := Wp.alu e18_5 rfl rfl
theorem e18_6 : decode (j_co 18) 6 = .ok (.if_icmp .ge 7, 3) := by decide +kernel
set_option maxRecDepth 20000 in
theorem w18_6 {d : Nat} {st : List Value} {Q : Option Value × jW → Prop} {ls : jL} {w : jW} {a b : Int32} : Wp d 18 6 ls (.int b :: .int a :: st) w Q = ((b ≤ a → Wp d 18 13 ls st w Q) ∧ (¬ b ≤ a → Wp d 18 9 ls st w Q)) := Wp.if2 (c := b ≤ a) (off := 7) e18_6 rfl rfl rfl rfl rfl
theorem e18_9 : decode (j_co 18) 9 = .ok (.iconst 1, 1) := by decide +kernel
set_option maxRecDepth 20000 in
theorem w18_9 {d : Nat} {st : List Value} {Q : Option Value × jW → Prop} {ls : jL} {w : jW} : Wp d 18 9 ls (st) w Q = Wp d 18 10 ls (.int (nI 1) :: st) w Q := Wp.alu e18_9 rfl rfl
theorem e18_10 : decode (j_co 18) 10 = .ok (.goto 4, 3) := by decide +kernel
set_option maxRecDepth 20000 in
theorem w18_10 {d : Nat} {st : List Value} {Q : Option Value × jW → Prop} {ls : jL} {w : jW} : Wp d 18 10 ls (st) w Q = Wp d 18 14 ls (st) w Q := Wp.br e18_10 (Or.inl rfl) rfl rfl rfl rfl
theorem e18_13 : decode (j_co 18) 13 = .ok (.iconst 0, 1) := by decide +kernel
set_option maxRecDepth 20000 in
theorem w18_13 {d : Nat} {st : List Value} {Q : Option Value × jW → Prop} {ls : jL} {w : jW} : Wp d 18 13 ls (st) w Q = Wp d 18 14 ls (.int (nI 0) :: st) w Q := Wp.alu e18_13 rfl rfl
theorem e18_14 : decode (j_co 18) 14 = .ok (.ireturn, 1) := by decide +kernel
set_option maxRecDepth 20000 in
theorem w18_14 {d : Nat} {Q : Option Value × jW → Prop} {ls : jL} {w : jW} {x : Int32} (hx : x = 0 ∨ x = 1) : Wp d 18 14 ls [.int x] w Q = Q (some (.int x), w) := Wp.ret e18_14 (by rcases hx with rfl | rfl <;> rfl)
/-! X.slope -/
theorem e19_0 : decode (j_co 19) 0 = .ok (.aload_n 0, 1) := by decide +kernel
set_option maxRecDepth 20000 in
theorem w19_0 {d : Nat} {st : List Value} {Q : Option Value × jW → Prop} {w : jW} {a1 a2 a3 a4 : Option Value} {x : Nat} : Wp d 19 0 [some (.ref x), a1, a2, a3, a4] (st) w Q = Wp d 19 1 [some (.ref x), a1, a2, a3, a4] (.ref x :: st) w Q := Wp.loc e19_0 rfl rfl rfl
theorem e19_1 : decode (j_co 19) 1 = .ok (.getfield 10, 3) := by decide +kernel
set_option maxRecDepth 20000 in
theorem w19_1 {d : Nat} {st : List Value} {Q : Option Value × jW → Prop} {ls : jL} {xs : List Value} {I : fI} {L : fL} {o : Nat} (ht : f_tg o = 10) : Wp d 19 1 ls (.ref o :: st) (f_W xs I L) Q = Wp d 19 4 ls (.ref (f_rf o 0) :: st) (f_W xs I L) Q := Wp.getR (ci := 10) (k := 0) e19_1 rfl (by decide) (by decide) rfl ht
theorem e19_4 : decode (j_co 19) 4 = .ok (.iload_n 1, 1) := by decide +kernel
set_option maxRecDepth 20000 in
theorem w19_4 {d : Nat} {st : List Value} {Q : Option Value × jW → Prop} {w : jW} {a0 a2 a3 a4 : Option Value} {x : Int32} : Wp d 19 4 [a0, some (.int x), a2, a3, a4] (st) w Q = Wp d 19 5 [a0, some (.int x), a2, a3, a4] (.int x :: st) w Q := Wp.loc e19_4 rfl rfl rfl
theorem e19_5 : decode (j_co 19) 5 = .ok (.invokevirtual 69, 3) := by decide +kernel
set_option maxRecDepth 20000 in
theorem w19_5 {d : Nat} {st : List Value} {Q : Option Value × jW → Prop} {ls : jL} {xs : List Value} {I : fI} {L : fL} {r : Nat} {x0 : Int32} (hs : j_sumc st ≤ 8) (ht : f_tg r = 5) : Wp (d + 1) 19 5 ls (.int x0 :: .ref r :: st) (f_W xs I L) Q = Wp d 16 0 [some (.ref r), some (.int x0)] [] (f_W xs I L) (fun r1 => Wp (d + 1) 19 8 ls (r1.1.toList ++ st) r1.2 Q) := Wp.cv (y' := 16) (as := [.int x0]) e19_5 rfl (by decide) rfl (show 2 ≤ 2 by decide) (by decide) hs ht
theorem e19_8 : decode (j_co 19) 8 = .ok (.ifCond .eq 14, 3) := by decide +kernel
set_option maxRecDepth 20000 in
theorem w19_8 {d : Nat} {st : List Value} {Q : Option Value × jW → Prop} {ls : jL} {w : jW} {a : Int32} : Wp d 19 8 ls (.int a :: st) w Q = ((a = nI 0 → Wp d 19 22 ls st w Q) ∧ (¬ a = nI 0 → Wp d 19 11 ls st w Q)) := Wp.if2 (c := a = nI 0) (off := 14) e19_8 rfl rfl rfl rfl rfl
theorem e19_11 : decode (j_co 19) 11 = .ok (.iload_n 2, 1) := by decide +kernel
set_option maxRecDepth 20000 in
theorem w19_11 {d : Nat} {st : List Value} {Q : Option Value × jW → Prop} {w : jW} {a0 a1 a3 a4 : Option Value} {x : Int32} : Wp d 19 11 [a0, a1, some (.int x), a3, a4] (st) w Q = Wp d 19 12 [a0, a1, some (.int x), a3, a4] (.int x :: st) w Q := Wp.loc e19_11 rfl rfl rfl
theorem e19_12 : decode (j_co 19) 12 = .ok (.iload_n 3, 1) := by decide +kernel
set_option maxRecDepth 20000 in
theorem w19_12 {d : Nat} {st : List Value} {Q : Option Value × jW → Prop} {w : jW} {a0 a1 a2 a4 : Option Value} {x : Int32} : Wp d 19 12 [a0, a1, a2, some (.int x), a4] (st) w Q = Wp d 19 13 [a0, a1, a2, some (.int x), a4] (.int x :: st) w Q := Wp.loc e19_12 rfl rfl rfl
theorem e19_13 : decode (j_co 19) 13 = .ok (.iload 4, 2) := by decide +kernel
set_option maxRecDepth 20000 in
theorem w19_13 {d : Nat} {st : List Value} {Q : Option Value × jW → Prop} {w : jW} {a0 a1 a2 a3 : Option Value} {x : Int32} : Wp d 19 13 [a0, a1, a2, a3, some (.int x)] (st) w Q = Wp d 19 15 [a0, a1, a2, a3, some (.int x)] (.int x :: st) w Q := Wp.loc e19_13 rfl rfl rfl
theorem e19_15 : decode (j_co 19) 15 = .ok (.iconst 5, 1) := by decide +kernel
set_option maxRecDepth 20000 in
theorem w19_15 {d : Nat} {st : List Value} {Q : Option Value × jW → Prop} {ls : jL} {w : jW} : Wp d 19 15 ls (st) w Q = Wp d 19 16 ls (.int (nI 5) :: st) w Q := Wp.alu e19_15 rfl rfl
theorem e19_16 : decode (j_co 19) 16 = .ok (.invokestatic 73, 3) := by decide +kernel
set_option maxRecDepth 20000 in
theorem w19_16 {d : Nat} {st : List Value} {Q : Option Value × jW → Prop} {ls : jL} {w : jW} {x0 : Int32} {x1 : Int32} {x2 : Int32} {x3 : Int32} (hs : j_sumc st ≤ 8) : Wp (d + 1) 19 16 ls (.int x3 :: .int x2 :: .int x1 :: .int x0 :: st) w Q = Wp d 17 0 [some (.int x0), some (.int x1), some (.int x2), some (.int x3)] [] w (fun r1 => Wp (d + 1) 19 19 ls (r1.1.toList ++ st) r1.2 Q) := Wp.cs (kd := 1) (y' := 17) (as := [.int x0, .int x1, .int x2, .int x3]) e19_16 rfl (by decide) (by decide) rfl (show 4 ≤ 4 by decide) hs
theorem e19_19 : decode (j_co 19) 19 = .ok (.ifCond .ne 5, 3) := by decide +kernel
set_option maxRecDepth 20000 in
theorem w19_19 {d : Nat} {st : List Value} {Q : Option Value × jW → Prop} {ls : jL} {w : jW} {a : Int32} : Wp d 19 19 ls (.int a :: st) w Q = ((a = nI 0 → Wp d 19 22 ls st w Q) ∧ (¬ a = nI 0 → Wp d 19 24 ls st w Q)) := Wp.if2n (c := a = nI 0) (off := 5) e19_19 rfl rfl rfl rfl rfl
theorem e19_22 : decode (j_co 19) 22 = .ok (.iconst (-1), 1) := by decide +kernel
set_option maxRecDepth 20000 in
theorem w19_22 {d : Nat} {st : List Value} {Q : Option Value × jW → Prop} {ls : jL} {w : jW} : Wp d 19 22 ls (st) w Q = Wp d 19 23 ls (.int (-1) :: st) w Q := Wp.alu e19_22 rfl rfl
theorem e19_23 : decode (j_co 19) 23 = .ok (.ireturn, 1) := by decide +kernel
set_option maxRecDepth 20000 in
theorem w19_23 {d : Nat} {Q : Option Value × jW → Prop} {ls : jL} {w : jW} {x : Int32} : Wp d 19 23 ls [.int x] w Q = Q (some (.int x), w) := Wp.ret e19_23 rfl
theorem e19_24 : decode (j_co 19) 24 = .ok (.aload_n 0, 1) := by decide +kernel
set_option maxRecDepth 20000 in
theorem w19_24 {d : Nat} {st : List Value} {Q : Option Value × jW → Prop} {w : jW} {a1 a2 a3 a4 : Option Value} {x : Nat} : Wp d 19 24 [some (.ref x), a1, a2, a3, a4] (st) w Q = Wp d 19 25 [some (.ref x), a1, a2, a3, a4] (.ref x :: st) w Q := Wp.loc e19_24 rfl rfl rfl
theorem e19_25 : decode (j_co 19) 25 = .ok (.getfield 21, 3) := by decide +kernel
set_option maxRecDepth 20000 in
theorem w19_25 {d : Nat} {st : List Value} {Q : Option Value × jW → Prop} {ls : jL} {xs : List Value} {I : fI} {L : fL} {o : Nat} (ht : f_tg o = 10) : Wp d 19 25 ls (.ref o :: st) (f_W xs I L) Q = Wp d 19 28 ls (.ref (f_rf o 1) :: st) (f_W xs I L) Q := Wp.getR (ci := 10) (k := 1) e19_25 rfl (by decide) (by decide) rfl ht
theorem e19_28 : decode (j_co 19) 28 = .ok (.invokevirtual 66, 3) := by decide +kernel
set_option maxRecDepth 20000 in
theorem w19_28 {d : Nat} {st : List Value} {Q : Option Value × jW → Prop} {ls : jL} {xs : List Value} {I : fI} {L : fL} {r : Nat} (hs : j_sumc st ≤ 8) (ht : f_tg r = 7) : Wp (d + 1) 19 28 ls (.ref r :: st) (f_W xs I L) Q = Wp d 14 0 [some (.ref r)] [] (f_W xs I L) (fun r1 => Wp (d + 1) 19 31 ls (r1.1.toList ++ st) r1.2 Q) := Wp.cv (y' := 14) (as := []) e19_28 rfl (by decide) rfl (show 1 ≤ 1 by decide) (by decide) hs ht
theorem e19_31 : decode (j_co 19) 31 = .ok (.aload_n 0, 1) := by decide +kernel
set_option maxRecDepth 20000 in
theorem w19_31 {d : Nat} {st : List Value} {Q : Option Value × jW → Prop} {w : jW} {a1 a2 a3 a4 : Option Value} {x : Nat} : Wp d 19 31 [some (.ref x), a1, a2, a3, a4] (st) w Q = Wp d 19 32 [some (.ref x), a1, a2, a3, a4] (.ref x :: st) w Q := Wp.loc e19_31 rfl rfl rfl
theorem e19_32 : decode (j_co 19) 32 = .ok (.getfield 10, 3) := by decide +kernel
set_option maxRecDepth 20000 in
theorem w19_32 {d : Nat} {st : List Value} {Q : Option Value × jW → Prop} {ls : jL} {xs : List Value} {I : fI} {L : fL} {o : Nat} (ht : f_tg o = 10) : Wp d 19 32 ls (.ref o :: st) (f_W xs I L) Q = Wp d 19 35 ls (.ref (f_rf o 0) :: st) (f_W xs I L) Q := Wp.getR (ci := 10) (k := 0) e19_32 rfl (by decide) (by decide) rfl ht
theorem e19_35 : decode (j_co 19) 35 = .ok (.getfield 77, 3) := by decide +kernel
set_option maxRecDepth 20000 in
theorem w19_35 {d : Nat} {st : List Value} {Q : Option Value × jW → Prop} {ls : jL} {xs : List Value} {I : fI} {L : fL} {o : Nat} (ht : f_tg o = 5) : Wp d 19 35 ls (.ref o :: st) (f_W xs I L) Q = Wp d 19 38 ls (.ref (f_rf o 0) :: st) (f_W xs I L) Q := Wp.getR (ci := 5) (k := 0) e19_35 rfl (by decide) (by decide) rfl ht
theorem e19_38 : decode (j_co 19) 38 = .ok (.iload_n 1, 1) := by decide +kernel
set_option maxRecDepth 20000 in
theorem w19_38 {d : Nat} {st : List Value} {Q : Option Value × jW → Prop} {w : jW} {a0 a2 a3 a4 : Option Value} {x : Int32} : Wp d 19 38 [a0, some (.int x), a2, a3, a4] (st) w Q = Wp d 19 39 [a0, some (.int x), a2, a3, a4] (.int x :: st) w Q := Wp.loc e19_38 rfl rfl rfl
theorem e19_39 : decode (j_co 19) 39 = .ok (.aaload, 1) := by decide +kernel
set_option maxRecDepth 20000 in
theorem w19_39 {d : Nat} {st : List Value} {Q : Option Value × jW → Prop} {ls : jL} {xs : List Value} {I : fI} {L : fL} {o : Nat} {i : Int32} (ht : 103 ≤ f_tg o ∧ f_tg o ≤ 106) (hi : ¬ (i < 0 ∨ f_ln o ≤ i.toNatClampNeg)) : Wp d 19 39 ls (.int i :: .ref o :: st) (f_W xs I L) Q = Wp d 19 40 ls (.ref (f_rf o i.toNatClampNeg) :: st) (f_W xs I L) Q := Wp.aald e19_39 rfl ht hi
theorem e19_40 : decode (j_co 19) 40 = .ok (.getfield 90, 3) := by decide +kernel
set_option maxRecDepth 20000 in
theorem w19_40 {d : Nat} {st : List Value} {Q : Option Value × jW → Prop} {ls : jL} {xs : List Value} {I : fI} {L : fL} {o : Nat} (ht : f_tg o = 6) : Wp d 19 40 ls (.ref o :: st) (f_W xs I L) Q = Wp d 19 43 ls (.ref (f_rf o 1) :: st) (f_W xs I L) Q := Wp.getR (ci := 6) (k := 1) e19_40 rfl (by decide) (by decide) rfl ht
theorem e19_43 : decode (j_co 19) 43 = .ok (.iload_n 2, 1) := by decide +kernel
set_option maxRecDepth 20000 in
theorem w19_43 {d : Nat} {st : List Value} {Q : Option Value × jW → Prop} {w : jW} {a0 a1 a3 a4 : Option Value} {x : Int32} : Wp d 19 43 [a0, a1, some (.int x), a3, a4] (st) w Q = Wp d 19 44 [a0, a1, some (.int x), a3, a4] (.int x :: st) w Q := Wp.loc e19_43 rfl rfl rfl
theorem e19_44 : decode (j_co 19) 44 = .ok (.iload_n 3, 1) := by decide +kernel
set_option maxRecDepth 20000 in
theorem w19_44 {d : Nat} {st : List Value} {Q : Option Value × jW → Prop} {w : jW} {a0 a1 a2 a4 : Option Value} {x : Int32} : Wp d 19 44 [a0, a1, a2, some (.int x), a4] (st) w Q = Wp d 19 45 [a0, a1, a2, some (.int x), a4] (.int x :: st) w Q := Wp.loc e19_44 rfl rfl rfl
theorem e19_45 : decode (j_co 19) 45 = .ok (.iload 4, 2) := by decide +kernel
set_option maxRecDepth 20000 in
theorem w19_45 {d : Nat} {st : List Value} {Q : Option Value × jW → Prop} {w : jW} {a0 a1 a2 a3 : Option Value} {x : Int32} : Wp d 19 45 [a0, a1, a2, a3, some (.int x)] (st) w Q = Wp d 19 47 [a0, a1, a2, a3, some (.int x)] (.int x :: st) w Q := Wp.loc e19_45 rfl rfl rfl
theorem e19_47 : decode (j_co 19) 47 = .ok (.invokevirtual 86, 3) := by decide +kernel
set_option maxRecDepth 20000 in
theorem w19_47 {d : Nat} {st : List Value} {Q : Option Value × jW → Prop} {ls : jL} {xs : List Value} {I : fI} {L : fL} {r : Nat} {x0 : Int32} {x1 : Int32} {x2 : Int32} (hs : j_sumc st ≤ 8) (ht : f_tg r = 0) : Wp (d + 1) 19 47 ls (.int x2 :: .int x1 :: .int x0 :: .ref r :: st) (f_W xs I L) Q = Wp d 5 0 [some (.ref r), some (.int x0), some (.int x1), some (.int x2)] [] (f_W xs I L) (fun r1 => Wp (d + 1) 19 50 ls (r1.1.toList ++ st) r1.2 Q) := Wp.cv (y' := 5) (as := [.int x0, .int x1, .int x2]) e19_47 rfl (by decide) rfl (show 4 ≤ 4 by decide) (by decide) hs ht
theorem e19_50 : decode (j_co 19) 50 = .ok (.iconst 1, 1) := by decide +kernel
set_option maxRecDepth 20000 in
theorem w19_50 {d : Nat} {st : List Value} {Q : Option Value × jW → Prop} {ls : jL} {w : jW} : Wp d 19 50 ls (st) w Q = Wp d 19 51 ls (.int (nI 1) :: st) w Q := Wp.alu e19_50 rfl rfl
theorem e19_51 : decode (j_co 19) 51 = .ok (.ireturn, 1) := by decide +kernel
set_option maxRecDepth 20000 in
theorem w19_51 {d : Nat} {Q : Option Value × jW → Prop} {ls : jL} {w : jW} {x : Int32} : Wp d 19 51 ls [.int x] w Q = Q (some (.int x), w) := Wp.ret e19_51 rfl
/-! X.jump -/
theorem e20_0 : decode (j_co 20) 0 = .ok (.aload_n 0, 1) := by decide +kernel
set_option maxRecDepth 20000 in
theorem w20_0 {d : Nat} {st : List Value} {Q : Option Value × jW → Prop} {w : jW} {a1 a2 a3 : Option Value} {x : Nat} : Wp d 20 0 [some (.ref x), a1, a2, a3] (st) w Q = Wp d 20 1 [some (.ref x), a1, a2, a3] (.ref x :: st) w Q := Wp.loc e20_0 rfl rfl rfl
theorem e20_1 : decode (j_co 20) 1 = .ok (.getfield 10, 3) := by decide +kernel
set_option maxRecDepth 20000 in
theorem w20_1 {d : Nat} {st : List Value} {Q : Option Value × jW → Prop} {ls : jL} {xs : List Value} {I : fI} {L : fL} {o : Nat} (ht : f_tg o = 10) : Wp d 20 1 ls (.ref o :: st) (f_W xs I L) Q = Wp d 20 4 ls (.ref (f_rf o 0) :: st) (f_W xs I L) Q := Wp.getR (ci := 10) (k := 0) e20_1 rfl (by decide) (by decide) rfl ht
theorem e20_4 : decode (j_co 20) 4 = .ok (.iload_n 1, 1) := by decide +kernel
set_option maxRecDepth 20000 in
theorem w20_4 {d : Nat} {st : List Value} {Q : Option Value × jW → Prop} {w : jW} {a0 a2 a3 : Option Value} {x : Int32} : Wp d 20 4 [a0, some (.int x), a2, a3] (st) w Q = Wp d 20 5 [a0, some (.int x), a2, a3] (.int x :: st) w Q := Wp.loc e20_4 rfl rfl rfl
theorem e20_5 : decode (j_co 20) 5 = .ok (.invokevirtual 69, 3) := by decide +kernel
set_option maxRecDepth 20000 in
theorem w20_5 {d : Nat} {st : List Value} {Q : Option Value × jW → Prop} {ls : jL} {xs : List Value} {I : fI} {L : fL} {r : Nat} {x0 : Int32} (hs : j_sumc st ≤ 8) (ht : f_tg r = 5) : Wp (d + 1) 20 5 ls (.int x0 :: .ref r :: st) (f_W xs I L) Q = Wp d 16 0 [some (.ref r), some (.int x0)] [] (f_W xs I L) (fun r1 => Wp (d + 1) 20 8 ls (r1.1.toList ++ st) r1.2 Q) := Wp.cv (y' := 16) (as := [.int x0]) e20_5 rfl (by decide) rfl (show 2 ≤ 2 by decide) (by decide) hs ht
theorem e20_8 : decode (j_co 20) 8 = .ok (.ifCond .eq 14, 3) := by decide +kernel
set_option maxRecDepth 20000 in
theorem w20_8 {d : Nat} {st : List Value} {Q : Option Value × jW → Prop} {ls : jL} {w : jW} {a : Int32} : Wp d 20 8 ls (.int a :: st) w Q = ((a = nI 0 → Wp d 20 22 ls st w Q) ∧ (¬ a = nI 0 → Wp d 20 11 ls st w Q)) := Wp.if2 (c := a = nI 0) (off := 14) e20_8 rfl rfl rfl rfl rfl
theorem e20_11 : decode (j_co 20) 11 = .ok (.aload_n 0, 1) := by decide +kernel
set_option maxRecDepth 20000 in
theorem w20_11 {d : Nat} {st : List Value} {Q : Option Value × jW → Prop} {w : jW} {a1 a2 a3 : Option Value} {x : Nat} : Wp d 20 11 [some (.ref x), a1, a2, a3] (st) w Q = Wp d 20 12 [some (.ref x), a1, a2, a3] (.ref x :: st) w Q := Wp.loc e20_11 rfl rfl rfl
theorem e20_12 : decode (j_co 20) 12 = .ok (.getfield 10, 3) := by decide +kernel
set_option maxRecDepth 20000 in
theorem w20_12 {d : Nat} {st : List Value} {Q : Option Value × jW → Prop} {ls : jL} {xs : List Value} {I : fI} {L : fL} {o : Nat} (ht : f_tg o = 10) : Wp d 20 12 ls (.ref o :: st) (f_W xs I L) Q = Wp d 20 15 ls (.ref (f_rf o 0) :: st) (f_W xs I L) Q := Wp.getR (ci := 10) (k := 0) e20_12 rfl (by decide) (by decide) rfl ht
theorem e20_15 : decode (j_co 20) 15 = .ok (.iload_n 2, 1) := by decide +kernel
set_option maxRecDepth 20000 in
theorem w20_15 {d : Nat} {st : List Value} {Q : Option Value × jW → Prop} {w : jW} {a0 a1 a3 : Option Value} {x : Int32} : Wp d 20 15 [a0, a1, some (.int x), a3] (st) w Q = Wp d 20 16 [a0, a1, some (.int x), a3] (.int x :: st) w Q := Wp.loc e20_15 rfl rfl rfl
theorem e20_16 : decode (j_co 20) 16 = .ok (.invokevirtual 69, 3) := by decide +kernel
set_option maxRecDepth 20000 in
theorem w20_16 {d : Nat} {st : List Value} {Q : Option Value × jW → Prop} {ls : jL} {xs : List Value} {I : fI} {L : fL} {r : Nat} {x0 : Int32} (hs : j_sumc st ≤ 8) (ht : f_tg r = 5) : Wp (d + 1) 20 16 ls (.int x0 :: .ref r :: st) (f_W xs I L) Q = Wp d 16 0 [some (.ref r), some (.int x0)] [] (f_W xs I L) (fun r1 => Wp (d + 1) 20 19 ls (r1.1.toList ++ st) r1.2 Q) := Wp.cv (y' := 16) (as := [.int x0]) e20_16 rfl (by decide) rfl (show 2 ≤ 2 by decide) (by decide) hs ht
theorem e20_19 : decode (j_co 20) 19 = .ok (.ifCond .ne 5, 3) := by decide +kernel
set_option maxRecDepth 20000 in
theorem w20_19 {d : Nat} {st : List Value} {Q : Option Value × jW → Prop} {ls : jL} {w : jW} {a : Int32} : Wp d 20 19 ls (.int a :: st) w Q = ((a = nI 0 → Wp d 20 22 ls st w Q) ∧ (¬ a = nI 0 → Wp d 20 24 ls st w Q)) := Wp.if2n (c := a = nI 0) (off := 5) e20_19 rfl rfl rfl rfl rfl
theorem e20_22 : decode (j_co 20) 22 = .ok (.iconst (-1), 1) := by decide +kernel
set_option maxRecDepth 20000 in
theorem w20_22 {d : Nat} {st : List Value} {Q : Option Value × jW → Prop} {ls : jL} {w : jW} : Wp d 20 22 ls (st) w Q = Wp d 20 23 ls (.int (-1) :: st) w Q := Wp.alu e20_22 rfl rfl
theorem e20_23 : decode (j_co 20) 23 = .ok (.ireturn, 1) := by decide +kernel
set_option maxRecDepth 20000 in
theorem w20_23 {d : Nat} {Q : Option Value × jW → Prop} {ls : jL} {w : jW} {x : Int32} : Wp d 20 23 ls [.int x] w Q = Q (some (.int x), w) := Wp.ret e20_23 rfl
theorem e20_24 : decode (j_co 20) 24 = .ok (.aload_n 0, 1) := by decide +kernel
set_option maxRecDepth 20000 in
theorem w20_24 {d : Nat} {st : List Value} {Q : Option Value × jW → Prop} {w : jW} {a1 a2 a3 : Option Value} {x : Nat} : Wp d 20 24 [some (.ref x), a1, a2, a3] (st) w Q = Wp d 20 25 [some (.ref x), a1, a2, a3] (.ref x :: st) w Q := Wp.loc e20_24 rfl rfl rfl
theorem e20_25 : decode (j_co 20) 25 = .ok (.getfield 10, 3) := by decide +kernel
set_option maxRecDepth 20000 in
theorem w20_25 {d : Nat} {st : List Value} {Q : Option Value × jW → Prop} {ls : jL} {xs : List Value} {I : fI} {L : fL} {o : Nat} (ht : f_tg o = 10) : Wp d 20 25 ls (.ref o :: st) (f_W xs I L) Q = Wp d 20 28 ls (.ref (f_rf o 0) :: st) (f_W xs I L) Q := Wp.getR (ci := 10) (k := 0) e20_25 rfl (by decide) (by decide) rfl ht
theorem e20_28 : decode (j_co 20) 28 = .ok (.getfield 93, 3) := by decide +kernel
set_option maxRecDepth 20000 in
theorem w20_28 {d : Nat} {st : List Value} {Q : Option Value × jW → Prop} {ls : jL} {xs : List Value} {I : fI} {L : fL} {o : Nat} (ht : f_tg o = 5) : Wp d 20 28 ls (.ref o :: st) (f_W xs I L) Q = Wp d 20 31 ls (.int (I o 5) :: st) (f_W xs I L) Q := Wp.getI (ci := 5) (k := 5) e20_28 rfl (by decide) (by decide) (by decide) ht
theorem e20_31 : decode (j_co 20) 31 = .ok (.bipush 12, 2) := by decide +kernel
set_option maxRecDepth 20000 in
theorem w20_31 {d : Nat} {st : List Value} {Q : Option Value × jW → Prop} {ls : jL} {w : jW} : Wp d 20 31 ls (st) w Q = Wp d 20 33 ls (.int (nI 12) :: st) w Q := Wp.alu e20_31 rfl rfl
theorem e20_33 : decode (j_co 20) 33 = .ok (.if_icmp .lt 6, 3) := by decide +kernel
set_option maxRecDepth 20000 in
theorem w20_33 {d : Nat} {st : List Value} {Q : Option Value × jW → Prop} {ls : jL} {w : jW} {a b : Int32} : Wp d 20 33 ls (.int b :: .int a :: st) w Q = ((a < b → Wp d 20 39 ls st w Q) ∧ (¬ a < b → Wp d 20 36 ls st w Q)) := Wp.if2 (c := a < b) (off := 6) e20_33 rfl rfl rfl rfl rfl
theorem e20_36 : decode (j_co 20) 36 = .ok (.bipush (-3), 2) := by decide +kernel
set_option maxRecDepth 20000 in
theorem w20_36 {d : Nat} {st : List Value} {Q : Option Value × jW → Prop} {ls : jL} {w : jW} : Wp d 20 36 ls (st) w Q = Wp d 20 38 ls (.int (-3) :: st) w Q := Wp.alu e20_36 rfl rfl
theorem e20_38 : decode (j_co 20) 38 = .ok (.ireturn, 1) := by decide +kernel
set_option maxRecDepth 20000 in
theorem w20_38 {d : Nat} {Q : Option Value × jW → Prop} {ls : jL} {w : jW} {x : Int32} : Wp d 20 38 ls [.int x] w Q = Q (some (.int x), w) := Wp.ret e20_38 rfl
theorem e20_39 : decode (j_co 20) 39 = .ok (.aload_n 0, 1) := by decide +kernel
set_option maxRecDepth 20000 in
theorem w20_39 {d : Nat} {st : List Value} {Q : Option Value × jW → Prop} {w : jW} {a1 a2 a3 : Option Value} {x : Nat} : Wp d 20 39 [some (.ref x), a1, a2, a3] (st) w Q = Wp d 20 40 [some (.ref x), a1, a2, a3] (.ref x :: st) w Q := Wp.loc e20_39 rfl rfl rfl
theorem e20_40 : decode (j_co 20) 40 = .ok (.getfield 21, 3) := by decide +kernel
set_option maxRecDepth 20000 in
theorem w20_40 {d : Nat} {st : List Value} {Q : Option Value × jW → Prop} {ls : jL} {xs : List Value} {I : fI} {L : fL} {o : Nat} (ht : f_tg o = 10) : Wp d 20 40 ls (.ref o :: st) (f_W xs I L) Q = Wp d 20 43 ls (.ref (f_rf o 1) :: st) (f_W xs I L) Q := Wp.getR (ci := 10) (k := 1) e20_40 rfl (by decide) (by decide) rfl ht
theorem e20_43 : decode (j_co 20) 43 = .ok (.invokevirtual 66, 3) := by decide +kernel
set_option maxRecDepth 20000 in
theorem w20_43 {d : Nat} {st : List Value} {Q : Option Value × jW → Prop} {ls : jL} {xs : List Value} {I : fI} {L : fL} {r : Nat} (hs : j_sumc st ≤ 8) (ht : f_tg r = 7) : Wp (d + 1) 20 43 ls (.ref r :: st) (f_W xs I L) Q = Wp d 14 0 [some (.ref r)] [] (f_W xs I L) (fun r1 => Wp (d + 1) 20 46 ls (r1.1.toList ++ st) r1.2 Q) := Wp.cv (y' := 14) (as := []) e20_43 rfl (by decide) rfl (show 1 ≤ 1 by decide) (by decide) hs ht
theorem e20_46 : decode (j_co 20) 46 = .ok (.aload_n 0, 1) := by decide +kernel
set_option maxRecDepth 20000 in
theorem w20_46 {d : Nat} {st : List Value} {Q : Option Value × jW → Prop} {w : jW} {a1 a2 a3 : Option Value} {x : Nat} : Wp d 20 46 [some (.ref x), a1, a2, a3] (st) w Q = Wp d 20 47 [some (.ref x), a1, a2, a3] (.ref x :: st) w Q := Wp.loc e20_46 rfl rfl rfl
theorem e20_47 : decode (j_co 20) 47 = .ok (.getfield 10, 3) := by decide +kernel
set_option maxRecDepth 20000 in
theorem w20_47 {d : Nat} {st : List Value} {Q : Option Value × jW → Prop} {ls : jL} {xs : List Value} {I : fI} {L : fL} {o : Nat} (ht : f_tg o = 10) : Wp d 20 47 ls (.ref o :: st) (f_W xs I L) Q = Wp d 20 50 ls (.ref (f_rf o 0) :: st) (f_W xs I L) Q := Wp.getR (ci := 10) (k := 0) e20_47 rfl (by decide) (by decide) rfl ht
theorem e20_50 : decode (j_co 20) 50 = .ok (.getfield 96, 3) := by decide +kernel
set_option maxRecDepth 20000 in
theorem w20_50 {d : Nat} {st : List Value} {Q : Option Value × jW → Prop} {ls : jL} {xs : List Value} {I : fI} {L : fL} {o : Nat} (ht : f_tg o = 5) : Wp d 20 50 ls (.ref o :: st) (f_W xs I L) Q = Wp d 20 53 ls (.ref (f_rf o 1) :: st) (f_W xs I L) Q := Wp.getR (ci := 5) (k := 1) e20_50 rfl (by decide) (by decide) rfl ht
theorem e20_53 : decode (j_co 20) 53 = .ok (.aload_n 0, 1) := by decide +kernel
set_option maxRecDepth 20000 in
theorem w20_53 {d : Nat} {st : List Value} {Q : Option Value × jW → Prop} {w : jW} {a1 a2 a3 : Option Value} {x : Nat} : Wp d 20 53 [some (.ref x), a1, a2, a3] (st) w Q = Wp d 20 54 [some (.ref x), a1, a2, a3] (.ref x :: st) w Q := Wp.loc e20_53 rfl rfl rfl
theorem e20_54 : decode (j_co 20) 54 = .ok (.getfield 10, 3) := by decide +kernel
set_option maxRecDepth 20000 in
theorem w20_54 {d : Nat} {st : List Value} {Q : Option Value × jW → Prop} {ls : jL} {xs : List Value} {I : fI} {L : fL} {o : Nat} (ht : f_tg o = 10) : Wp d 20 54 ls (.ref o :: st) (f_W xs I L) Q = Wp d 20 57 ls (.ref (f_rf o 0) :: st) (f_W xs I L) Q := Wp.getR (ci := 10) (k := 0) e20_54 rfl (by decide) (by decide) rfl ht
theorem e20_57 : decode (j_co 20) 57 = .ok (.getfield 93, 3) := by decide +kernel
set_option maxRecDepth 20000 in
theorem w20_57 {d : Nat} {st : List Value} {Q : Option Value × jW → Prop} {ls : jL} {xs : List Value} {I : fI} {L : fL} {o : Nat} (ht : f_tg o = 5) : Wp d 20 57 ls (.ref o :: st) (f_W xs I L) Q = Wp d 20 60 ls (.int (I o 5) :: st) (f_W xs I L) Q := Wp.getI (ci := 5) (k := 5) e20_57 rfl (by decide) (by decide) (by decide) ht
theorem e20_60 : decode (j_co 20) 60 = .ok (.aaload, 1) := by decide +kernel
set_option maxRecDepth 20000 in
theorem w20_60 {d : Nat} {st : List Value} {Q : Option Value × jW → Prop} {ls : jL} {xs : List Value} {I : fI} {L : fL} {o : Nat} {i : Int32} (ht : 103 ≤ f_tg o ∧ f_tg o ≤ 106) (hi : ¬ (i < 0 ∨ f_ln o ≤ i.toNatClampNeg)) : Wp d 20 60 ls (.int i :: .ref o :: st) (f_W xs I L) Q = Wp d 20 61 ls (.ref (f_rf o i.toNatClampNeg) :: st) (f_W xs I L) Q := Wp.aald e20_60 rfl ht hi
theorem e20_61 : decode (j_co 20) 61 = .ok (.astore_n 3, 1) := by decide +kernel
set_option maxRecDepth 20000 in
theorem w20_61 {d : Nat} {st : List Value} {Q : Option Value × jW → Prop} {w : jW} {a0 a1 a2 a3 : Option Value} {x : Nat} (h : j_cp a2) : Wp d 20 61 [a0, a1, a2, a3] (.ref x :: st) w Q = Wp d 20 62 [a0, a1, a2, some (.ref x)] (st) w Q := Wp.loc e20_61 rfl rfl (v_stA (ls := [a0, a1, a2, a3]) (k := 3) (show 3 < 4 by decide) h)
theorem e20_62 : decode (j_co 20) 62 = .ok (.aload_n 3, 1) := by decide +kernel
set_option maxRecDepth 20000 in
theorem w20_62 {d : Nat} {st : List Value} {Q : Option Value × jW → Prop} {w : jW} {a0 a1 a2 : Option Value} {x : Nat} : Wp d 20 62 [a0, a1, a2, some (.ref x)] (st) w Q = Wp d 20 63 [a0, a1, a2, some (.ref x)] (.ref x :: st) w Q := Wp.loc e20_62 rfl rfl rfl
theorem e20_63 : decode (j_co 20) 63 = .ok (.iload_n 1, 1) := by decide +kernel
set_option maxRecDepth 20000 in
theorem w20_63 {d : Nat} {st : List Value} {Q : Option Value × jW → Prop} {w : jW} {a0 a2 a3 : Option Value} {x : Int32} : Wp d 20 63 [a0, some (.int x), a2, a3] (st) w Q = Wp d 20 64 [a0, some (.int x), a2, a3] (.int x :: st) w Q := Wp.loc e20_63 rfl rfl rfl
theorem e20_64 : decode (j_co 20) 64 = .ok (.putfield 100, 3) := by decide +kernel
set_option maxRecDepth 20000 in
theorem w20_64 {d : Nat} {st : List Value} {Q : Option Value × jW → Prop} {ls : jL} {xs : List Value} {I : fI} {L : fL} {o : Nat} {x : Int32} (ht : f_tg o = 4) : Wp d 20 64 ls (.int x :: .ref o :: st) (f_W xs I L) Q = Wp d 20 67 ls (st) (f_W xs (f_up I o 3 x) L) Q := Wp.putI (ci := 4) (k := 3) e20_64 rfl (by decide) (by decide) rfl (by decide) ht
theorem e20_67 : decode (j_co 20) 67 = .ok (.aload_n 3, 1) := by decide +kernel
set_option maxRecDepth 20000 in
theorem w20_67 {d : Nat} {st : List Value} {Q : Option Value × jW → Prop} {w : jW} {a0 a1 a2 : Option Value} {x : Nat} : Wp d 20 67 [a0, a1, a2, some (.ref x)] (st) w Q = Wp d 20 68 [a0, a1, a2, some (.ref x)] (.ref x :: st) w Q := Wp.loc e20_67 rfl rfl rfl
theorem e20_68 : decode (j_co 20) 68 = .ok (.iload_n 2, 1) := by decide +kernel
set_option maxRecDepth 20000 in
theorem w20_68 {d : Nat} {st : List Value} {Q : Option Value × jW → Prop} {w : jW} {a0 a1 a3 : Option Value} {x : Int32} : Wp d 20 68 [a0, a1, some (.int x), a3] (st) w Q = Wp d 20 69 [a0, a1, some (.int x), a3] (.int x :: st) w Q := Wp.loc e20_68 rfl rfl rfl
theorem e20_69 : decode (j_co 20) 69 = .ok (.putfield 105, 3) := by decide +kernel
set_option maxRecDepth 20000 in
theorem w20_69 {d : Nat} {st : List Value} {Q : Option Value × jW → Prop} {ls : jL} {xs : List Value} {I : fI} {L : fL} {o : Nat} {x : Int32} (ht : f_tg o = 4) : Wp d 20 69 ls (.int x :: .ref o :: st) (f_W xs I L) Q = Wp d 20 72 ls (st) (f_W xs (f_up I o 4 x) L) Q := Wp.putI (ci := 4) (k := 4) e20_69 rfl (by decide) (by decide) rfl (by decide) ht
theorem e20_72 : decode (j_co 20) 72 = .ok (.aload_n 0, 1) := by decide +kernel
set_option maxRecDepth 20000 in
theorem w20_72 {d : Nat} {st : List Value} {Q : Option Value × jW → Prop} {w : jW} {a1 a2 a3 : Option Value} {x : Nat} : Wp d 20 72 [some (.ref x), a1, a2, a3] (st) w Q = Wp d 20 73 [some (.ref x), a1, a2, a3] (.ref x :: st) w Q := Wp.loc e20_72 rfl rfl rfl
theorem e20_73 : decode (j_co 20) 73 = .ok (.getfield 10, 3) := by decide +kernel
set_option maxRecDepth 20000 in
theorem w20_73 {d : Nat} {st : List Value} {Q : Option Value × jW → Prop} {ls : jL} {xs : List Value} {I : fI} {L : fL} {o : Nat} (ht : f_tg o = 10) : Wp d 20 73 ls (.ref o :: st) (f_W xs I L) Q = Wp d 20 76 ls (.ref (f_rf o 0) :: st) (f_W xs I L) Q := Wp.getR (ci := 10) (k := 0) e20_73 rfl (by decide) (by decide) rfl ht
theorem e20_76 : decode (j_co 20) 76 = .ok (.dup, 1) := by decide +kernel
set_option maxRecDepth 20000 in
theorem w20_76 {d : Nat} {st : List Value} {Q : Option Value × jW → Prop} {ls : jL} {w : jW} {a : Int32} : Wp d 20 76 ls (.int a :: st) w Q = Wp d 20 77 ls (.int a :: .int a :: st) w Q := Wp.alu e20_76 rfl rfl
set_option maxRecDepth 20000 in
theorem w20_76r {d : Nat} {st : List Value} {Q : Option Value × jW → Prop} {ls : jL} {w : jW} {a : Nat} : Wp d 20 76 ls (.ref a :: st) w Q = Wp d 20 77 ls (.ref a :: .ref a :: st) w Q := Wp.alu e20_76 rfl rfl
theorem e20_77 : decode (j_co 20) 77 = .ok (.getfield 93, 3) := by decide +kernel
set_option maxRecDepth 20000 in
theorem w20_77 {d : Nat} {st : List Value} {Q : Option Value × jW → Prop} {ls : jL} {xs : List Value} {I : fI} {L : fL} {o : Nat} (ht : f_tg o = 5) : Wp d 20 77 ls (.ref o :: st) (f_W xs I L) Q = Wp d 20 80 ls (.int (I o 5) :: st) (f_W xs I L) Q := Wp.getI (ci := 5) (k := 5) e20_77 rfl (by decide) (by decide) (by decide) ht
theorem e20_80 : decode (j_co 20) 80 = .ok (.dup_x1, 1) := by decide +kernel
set_option maxRecDepth 20000 in
theorem w20_80 {d : Nat} {st : List Value} {Q : Option Value × jW → Prop} {ls : jL} {w : jW} {a : Int32} {b : Nat} : Wp d 20 80 ls (.int a :: .ref b :: st) w Q = Wp d 20 81 ls (.int a :: .ref b :: .int a :: st) w Q := Wp.alu e20_80 rfl rfl
theorem e20_81 : decode (j_co 20) 81 = .ok (.iconst 1, 1) := by decide +kernel
set_option maxRecDepth 20000 in
theorem w20_81 {d : Nat} {st : List Value} {Q : Option Value × jW → Prop} {ls : jL} {w : jW} : Wp d 20 81 ls (st) w Q = Wp d 20 82 ls (.int (nI 1) :: st) w Q := Wp.alu e20_81 rfl rfl
theorem e20_82 : decode (j_co 20) 82 = .ok (.iadd, 1) := by decide +kernel
set_option maxRecDepth 20000 in
theorem w20_82 {d : Nat} {st : List Value} {Q : Option Value × jW → Prop} {ls : jL} {w : jW} {a b : Int32} : Wp d 20 82 ls (.int b :: .int a :: st) w Q = Wp d 20 83 ls (.int (a + b) :: st) w Q := Wp.alu e20_82 rfl rfl
theorem e20_83 : decode (j_co 20) 83 = .ok (.putfield 93, 3) := by decide +kernel
set_option maxRecDepth 20000 in
theorem w20_83 {d : Nat} {st : List Value} {Q : Option Value × jW → Prop} {ls : jL} {xs : List Value} {I : fI} {L : fL} {o : Nat} {x : Int32} (ht : f_tg o = 5) : Wp d 20 83 ls (.int x :: .ref o :: st) (f_W xs I L) Q = Wp d 20 86 ls (st) (f_W xs (f_up I o 5 x) L) Q := Wp.putI (ci := 5) (k := 5) e20_83 rfl (by decide) (by decide) rfl (by decide) ht
theorem e20_86 : decode (j_co 20) 86 = .ok (.ireturn, 1) := by decide +kernel
set_option maxRecDepth 20000 in
theorem w20_86 {d : Nat} {Q : Option Value × jW → Prop} {ls : jL} {w : jW} {x : Int32} : Wp d 20 86 ls [.int x] w Q = Q (some (.int x), w) := Wp.ret e20_86 rfl
/-! X.guard -/
theorem e21_0 : decode (j_co 21) 0 = .ok (.aload_n 0, 1) := by decide +kernel
set_option maxRecDepth 20000 in
theorem w21_0 {d : Nat} {st : List Value} {Q : Option Value × jW → Prop} {w : jW} {a1 a2 a3 a4 : Option Value} {x : Nat} : Wp d 21 0 [some (.ref x), a1, a2, a3, a4] (st) w Q = Wp d 21 1 [some (.ref x), a1, a2, a3, a4] (.ref x :: st) w Q := Wp.loc e21_0 rfl rfl rfl
theorem e21_1 : decode (j_co 21) 1 = .ok (.getfield 10, 3) := by decide +kernel
set_option maxRecDepth 20000 in
theorem w21_1 {d : Nat} {st : List Value} {Q : Option Value × jW → Prop} {ls : jL} {xs : List Value} {I : fI} {L : fL} {o : Nat} (ht : f_tg o = 10) : Wp d 21 1 ls (.ref o :: st) (f_W xs I L) Q = Wp d 21 4 ls (.ref (f_rf o 0) :: st) (f_W xs I L) Q := Wp.getR (ci := 10) (k := 0) e21_1 rfl (by decide) (by decide) rfl ht
theorem e21_4 : decode (j_co 21) 4 = .ok (.iload_n 1, 1) := by decide +kernel
set_option maxRecDepth 20000 in
theorem w21_4 {d : Nat} {st : List Value} {Q : Option Value × jW → Prop} {w : jW} {a0 a2 a3 a4 : Option Value} {x : Int32} : Wp d 21 4 [a0, some (.int x), a2, a3, a4] (st) w Q = Wp d 21 5 [a0, some (.int x), a2, a3, a4] (.int x :: st) w Q := Wp.loc e21_4 rfl rfl rfl
theorem e21_5 : decode (j_co 21) 5 = .ok (.invokevirtual 108, 3) := by decide +kernel
set_option maxRecDepth 20000 in
theorem w21_5 {d : Nat} {st : List Value} {Q : Option Value × jW → Prop} {ls : jL} {xs : List Value} {I : fI} {L : fL} {r : Nat} {x0 : Int32} (hs : j_sumc st ≤ 8) (ht : f_tg r = 5) : Wp (d + 1) 21 5 ls (.int x0 :: .ref r :: st) (f_W xs I L) Q = Wp d 22 0 [some (.ref r), some (.int x0)] [] (f_W xs I L) (fun r1 => Wp (d + 1) 21 8 ls (r1.1.toList ++ st) r1.2 Q) := Wp.cv (y' := 22) (as := [.int x0]) e21_5 rfl (by decide) rfl (show 2 ≤ 2 by decide) (by decide) hs ht
theorem e21_8 : decode (j_co 21) 8 = .ok (.ifCond .eq 15, 3) := by decide +kernel
set_option maxRecDepth 20000 in
theorem w21_8 {d : Nat} {st : List Value} {Q : Option Value × jW → Prop} {ls : jL} {w : jW} {a : Int32} : Wp d 21 8 ls (.int a :: st) w Q = ((a = nI 0 → Wp d 21 23 ls st w Q) ∧ (¬ a = nI 0 → Wp d 21 11 ls st w Q)) := Wp.if2 (c := a = nI 0) (off := 15) e21_8 rfl rfl rfl rfl rfl
theorem e21_11 : decode (j_co 21) 11 = .ok (.iload_n 2, 1) := by decide +kernel
set_option maxRecDepth 20000 in
theorem w21_11 {d : Nat} {st : List Value} {Q : Option Value × jW → Prop} {w : jW} {a0 a1 a3 a4 : Option Value} {x : Int32} : Wp d 21 11 [a0, a1, some (.int x), a3, a4] (st) w Q = Wp d 21 12 [a0, a1, some (.int x), a3, a4] (.int x :: st) w Q := Wp.loc e21_11 rfl rfl rfl
theorem e21_12 : decode (j_co 21) 12 = .ok (.iload_n 3, 1) := by decide +kernel
set_option maxRecDepth 20000 in
theorem w21_12 {d : Nat} {st : List Value} {Q : Option Value × jW → Prop} {w : jW} {a0 a1 a2 a4 : Option Value} {x : Int32} : Wp d 21 12 [a0, a1, a2, some (.int x), a4] (st) w Q = Wp d 21 13 [a0, a1, a2, some (.int x), a4] (.int x :: st) w Q := Wp.loc e21_12 rfl rfl rfl
theorem e21_13 : decode (j_co 21) 13 = .ok (.iload 4, 2) := by decide +kernel
set_option maxRecDepth 20000 in
theorem w21_13 {d : Nat} {st : List Value} {Q : Option Value × jW → Prop} {w : jW} {a0 a1 a2 a3 : Option Value} {x : Int32} : Wp d 21 13 [a0, a1, a2, a3, some (.int x)] (st) w Q = Wp d 21 15 [a0, a1, a2, a3, some (.int x)] (.int x :: st) w Q := Wp.loc e21_13 rfl rfl rfl
theorem e21_15 : decode (j_co 21) 15 = .ok (.bipush 20, 2) := by decide +kernel
set_option maxRecDepth 20000 in
theorem w21_15 {d : Nat} {st : List Value} {Q : Option Value × jW → Prop} {ls : jL} {w : jW} : Wp d 21 15 ls (st) w Q = Wp d 21 17 ls (.int (nI 20) :: st) w Q := Wp.alu e21_15 rfl rfl
theorem e21_17 : decode (j_co 21) 17 = .ok (.invokestatic 73, 3) := by decide +kernel
set_option maxRecDepth 20000 in
theorem w21_17 {d : Nat} {st : List Value} {Q : Option Value × jW → Prop} {ls : jL} {w : jW} {x0 : Int32} {x1 : Int32} {x2 : Int32} {x3 : Int32} (hs : j_sumc st ≤ 8) : Wp (d + 1) 21 17 ls (.int x3 :: .int x2 :: .int x1 :: .int x0 :: st) w Q = Wp d 17 0 [some (.int x0), some (.int x1), some (.int x2), some (.int x3)] [] w (fun r1 => Wp (d + 1) 21 20 ls (r1.1.toList ++ st) r1.2 Q) := Wp.cs (kd := 1) (y' := 17) (as := [.int x0, .int x1, .int x2, .int x3]) e21_17 rfl (by decide) (by decide) rfl (show 4 ≤ 4 by decide) hs
theorem e21_20 : decode (j_co 21) 20 = .ok (.ifCond .ne 5, 3) := by decide +kernel
set_option maxRecDepth 20000 in
theorem w21_20 {d : Nat} {st : List Value} {Q : Option Value × jW → Prop} {ls : jL} {w : jW} {a : Int32} : Wp d 21 20 ls (.int a :: st) w Q = ((a = nI 0 → Wp d 21 23 ls st w Q) ∧ (¬ a = nI 0 → Wp d 21 25 ls st w Q)) := Wp.if2n (c := a = nI 0) (off := 5) e21_20 rfl rfl rfl rfl rfl
theorem e21_23 : decode (j_co 21) 23 = .ok (.iconst (-1), 1) := by decide +kernel
set_option maxRecDepth 20000 in
theorem w21_23 {d : Nat} {st : List Value} {Q : Option Value × jW → Prop} {ls : jL} {w : jW} : Wp d 21 23 ls (st) w Q = Wp d 21 24 ls (.int (-1) :: st) w Q := Wp.alu e21_23 rfl rfl
theorem e21_24 : decode (j_co 21) 24 = .ok (.ireturn, 1) := by decide +kernel
set_option maxRecDepth 20000 in
theorem w21_24 {d : Nat} {Q : Option Value × jW → Prop} {ls : jL} {w : jW} {x : Int32} : Wp d 21 24 ls [.int x] w Q = Q (some (.int x), w) := Wp.ret e21_24 rfl
theorem e21_25 : decode (j_co 21) 25 = .ok (.aload_n 0, 1) := by decide +kernel
set_option maxRecDepth 20000 in
theorem w21_25 {d : Nat} {st : List Value} {Q : Option Value × jW → Prop} {w : jW} {a1 a2 a3 a4 : Option Value} {x : Nat} : Wp d 21 25 [some (.ref x), a1, a2, a3, a4] (st) w Q = Wp d 21 26 [some (.ref x), a1, a2, a3, a4] (.ref x :: st) w Q := Wp.loc e21_25 rfl rfl rfl
theorem e21_26 : decode (j_co 21) 26 = .ok (.getfield 21, 3) := by decide +kernel
set_option maxRecDepth 20000 in
theorem w21_26 {d : Nat} {st : List Value} {Q : Option Value × jW → Prop} {ls : jL} {xs : List Value} {I : fI} {L : fL} {o : Nat} (ht : f_tg o = 10) : Wp d 21 26 ls (.ref o :: st) (f_W xs I L) Q = Wp d 21 29 ls (.ref (f_rf o 1) :: st) (f_W xs I L) Q := Wp.getR (ci := 10) (k := 1) e21_26 rfl (by decide) (by decide) rfl ht
theorem e21_29 : decode (j_co 21) 29 = .ok (.invokevirtual 66, 3) := by decide +kernel
set_option maxRecDepth 20000 in
theorem w21_29 {d : Nat} {st : List Value} {Q : Option Value × jW → Prop} {ls : jL} {xs : List Value} {I : fI} {L : fL} {r : Nat} (hs : j_sumc st ≤ 8) (ht : f_tg r = 7) : Wp (d + 1) 21 29 ls (.ref r :: st) (f_W xs I L) Q = Wp d 14 0 [some (.ref r)] [] (f_W xs I L) (fun r1 => Wp (d + 1) 21 32 ls (r1.1.toList ++ st) r1.2 Q) := Wp.cv (y' := 14) (as := []) e21_29 rfl (by decide) rfl (show 1 ≤ 1 by decide) (by decide) hs ht
theorem e21_32 : decode (j_co 21) 32 = .ok (.aload_n 0, 1) := by decide +kernel
set_option maxRecDepth 20000 in
theorem w21_32 {d : Nat} {st : List Value} {Q : Option Value × jW → Prop} {w : jW} {a1 a2 a3 a4 : Option Value} {x : Nat} : Wp d 21 32 [some (.ref x), a1, a2, a3, a4] (st) w Q = Wp d 21 33 [some (.ref x), a1, a2, a3, a4] (.ref x :: st) w Q := Wp.loc e21_32 rfl rfl rfl
theorem e21_33 : decode (j_co 21) 33 = .ok (.getfield 10, 3) := by decide +kernel
set_option maxRecDepth 20000 in
theorem w21_33 {d : Nat} {st : List Value} {Q : Option Value × jW → Prop} {ls : jL} {xs : List Value} {I : fI} {L : fL} {o : Nat} (ht : f_tg o = 10) : Wp d 21 33 ls (.ref o :: st) (f_W xs I L) Q = Wp d 21 36 ls (.ref (f_rf o 0) :: st) (f_W xs I L) Q := Wp.getR (ci := 10) (k := 0) e21_33 rfl (by decide) (by decide) rfl ht
theorem e21_36 : decode (j_co 21) 36 = .ok (.getfield 96, 3) := by decide +kernel
set_option maxRecDepth 20000 in
theorem w21_36 {d : Nat} {st : List Value} {Q : Option Value × jW → Prop} {ls : jL} {xs : List Value} {I : fI} {L : fL} {o : Nat} (ht : f_tg o = 5) : Wp d 21 36 ls (.ref o :: st) (f_W xs I L) Q = Wp d 21 39 ls (.ref (f_rf o 1) :: st) (f_W xs I L) Q := Wp.getR (ci := 5) (k := 1) e21_36 rfl (by decide) (by decide) rfl ht
theorem e21_39 : decode (j_co 21) 39 = .ok (.iload_n 1, 1) := by decide +kernel
set_option maxRecDepth 20000 in
theorem w21_39 {d : Nat} {st : List Value} {Q : Option Value × jW → Prop} {w : jW} {a0 a2 a3 a4 : Option Value} {x : Int32} : Wp d 21 39 [a0, some (.int x), a2, a3, a4] (st) w Q = Wp d 21 40 [a0, some (.int x), a2, a3, a4] (.int x :: st) w Q := Wp.loc e21_39 rfl rfl rfl
theorem e21_40 : decode (j_co 21) 40 = .ok (.aaload, 1) := by decide +kernel
set_option maxRecDepth 20000 in
theorem w21_40 {d : Nat} {st : List Value} {Q : Option Value × jW → Prop} {ls : jL} {xs : List Value} {I : fI} {L : fL} {o : Nat} {i : Int32} (ht : 103 ≤ f_tg o ∧ f_tg o ≤ 106) (hi : ¬ (i < 0 ∨ f_ln o ≤ i.toNatClampNeg)) : Wp d 21 40 ls (.int i :: .ref o :: st) (f_W xs I L) Q = Wp d 21 41 ls (.ref (f_rf o i.toNatClampNeg) :: st) (f_W xs I L) Q := Wp.aald e21_40 rfl ht hi
theorem e21_41 : decode (j_co 21) 41 = .ok (.getfield 111, 3) := by decide +kernel
set_option maxRecDepth 20000 in
theorem w21_41 {d : Nat} {st : List Value} {Q : Option Value × jW → Prop} {ls : jL} {xs : List Value} {I : fI} {L : fL} {o : Nat} (ht : f_tg o = 4) : Wp d 21 41 ls (.ref o :: st) (f_W xs I L) Q = Wp d 21 44 ls (.ref (f_rf o 0) :: st) (f_W xs I L) Q := Wp.getR (ci := 4) (k := 0) e21_41 rfl (by decide) (by decide) rfl ht
theorem e21_44 : decode (j_co 21) 44 = .ok (.iload_n 2, 1) := by decide +kernel
set_option maxRecDepth 20000 in
theorem w21_44 {d : Nat} {st : List Value} {Q : Option Value × jW → Prop} {w : jW} {a0 a1 a3 a4 : Option Value} {x : Int32} : Wp d 21 44 [a0, a1, some (.int x), a3, a4] (st) w Q = Wp d 21 45 [a0, a1, some (.int x), a3, a4] (.int x :: st) w Q := Wp.loc e21_44 rfl rfl rfl
theorem e21_45 : decode (j_co 21) 45 = .ok (.iload_n 3, 1) := by decide +kernel
set_option maxRecDepth 20000 in
theorem w21_45 {d : Nat} {st : List Value} {Q : Option Value × jW → Prop} {w : jW} {a0 a1 a2 a4 : Option Value} {x : Int32} : Wp d 21 45 [a0, a1, a2, some (.int x), a4] (st) w Q = Wp d 21 46 [a0, a1, a2, some (.int x), a4] (.int x :: st) w Q := Wp.loc e21_45 rfl rfl rfl
theorem e21_46 : decode (j_co 21) 46 = .ok (.iload 4, 2) := by decide +kernel
set_option maxRecDepth 20000 in
theorem w21_46 {d : Nat} {st : List Value} {Q : Option Value × jW → Prop} {w : jW} {a0 a1 a2 a3 : Option Value} {x : Int32} : Wp d 21 46 [a0, a1, a2, a3, some (.int x)] (st) w Q = Wp d 21 48 [a0, a1, a2, a3, some (.int x)] (.int x :: st) w Q := Wp.loc e21_46 rfl rfl rfl
theorem e21_48 : decode (j_co 21) 48 = .ok (.invokevirtual 86, 3) := by decide +kernel
set_option maxRecDepth 20000 in
theorem w21_48 {d : Nat} {st : List Value} {Q : Option Value × jW → Prop} {ls : jL} {xs : List Value} {I : fI} {L : fL} {r : Nat} {x0 : Int32} {x1 : Int32} {x2 : Int32} (hs : j_sumc st ≤ 8) (ht : f_tg r = 0) : Wp (d + 1) 21 48 ls (.int x2 :: .int x1 :: .int x0 :: .ref r :: st) (f_W xs I L) Q = Wp d 5 0 [some (.ref r), some (.int x0), some (.int x1), some (.int x2)] [] (f_W xs I L) (fun r1 => Wp (d + 1) 21 51 ls (r1.1.toList ++ st) r1.2 Q) := Wp.cv (y' := 5) (as := [.int x0, .int x1, .int x2]) e21_48 rfl (by decide) rfl (show 4 ≤ 4 by decide) (by decide) hs ht
theorem e21_51 : decode (j_co 21) 51 = .ok (.iconst 1, 1) := by decide +kernel
set_option maxRecDepth 20000 in
theorem w21_51 {d : Nat} {st : List Value} {Q : Option Value × jW → Prop} {ls : jL} {w : jW} : Wp d 21 51 ls (st) w Q = Wp d 21 52 ls (.int (nI 1) :: st) w Q := Wp.alu e21_51 rfl rfl
theorem e21_52 : decode (j_co 21) 52 = .ok (.ireturn, 1) := by decide +kernel
set_option maxRecDepth 20000 in
theorem w21_52 {d : Nat} {Q : Option Value × jW → Prop} {ls : jL} {w : jW} {x : Int32} : Wp d 21 52 ls [.int x] w Q = Q (some (.int x), w) := Wp.ret e21_52 rfl
/-! X.set -/
theorem e23_0 : decode (j_co 23) 0 = .ok (.aload_n 0, 1) := by decide +kernel
set_option maxRecDepth 20000 in
theorem w23_0 {d : Nat} {st : List Value} {Q : Option Value × jW → Prop} {w : jW} {a1 a2 a3 a4 a5 a6 : Option Value} {x : Nat} : Wp d 23 0 [some (.ref x), a1, a2, a3, a4, a5, a6] (st) w Q = Wp d 23 1 [some (.ref x), a1, a2, a3, a4, a5, a6] (.ref x :: st) w Q := Wp.loc e23_0 rfl rfl rfl
theorem e23_1 : decode (j_co 23) 1 = .ok (.getfield 10, 3) := by decide +kernel
set_option maxRecDepth 20000 in
theorem w23_1 {d : Nat} {st : List Value} {Q : Option Value × jW → Prop} {ls : jL} {xs : List Value} {I : fI} {L : fL} {o : Nat} (ht : f_tg o = 10) : Wp d 23 1 ls (.ref o :: st) (f_W xs I L) Q = Wp d 23 4 ls (.ref (f_rf o 0) :: st) (f_W xs I L) Q := Wp.getR (ci := 10) (k := 0) e23_1 rfl (by decide) (by decide) rfl ht
theorem e23_4 : decode (j_co 23) 4 = .ok (.iload_n 1, 1) := by decide +kernel
set_option maxRecDepth 20000 in
theorem w23_4 {d : Nat} {st : List Value} {Q : Option Value × jW → Prop} {w : jW} {a0 a2 a3 a4 a5 a6 : Option Value} {x : Int32} : Wp d 23 4 [a0, some (.int x), a2, a3, a4, a5, a6] (st) w Q = Wp d 23 5 [a0, some (.int x), a2, a3, a4, a5, a6] (.int x :: st) w Q := Wp.loc e23_4 rfl rfl rfl
theorem e23_5 : decode (j_co 23) 5 = .ok (.invokevirtual 108, 3) := by decide +kernel
set_option maxRecDepth 20000 in
theorem w23_5 {d : Nat} {st : List Value} {Q : Option Value × jW → Prop} {ls : jL} {xs : List Value} {I : fI} {L : fL} {r : Nat} {x0 : Int32} (hs : j_sumc st ≤ 8) (ht : f_tg r = 5) : Wp (d + 1) 23 5 ls (.int x0 :: .ref r :: st) (f_W xs I L) Q = Wp d 22 0 [some (.ref r), some (.int x0)] [] (f_W xs I L) (fun r1 => Wp (d + 1) 23 8 ls (r1.1.toList ++ st) r1.2 Q) := Wp.cv (y' := 22) (as := [.int x0]) e23_5 rfl (by decide) rfl (show 2 ≤ 2 by decide) (by decide) hs ht
theorem e23_8 : decode (j_co 23) 8 = .ok (.ifCond .eq 10, 3) := by decide +kernel
set_option maxRecDepth 20000 in
theorem w23_8 {d : Nat} {st : List Value} {Q : Option Value × jW → Prop} {ls : jL} {w : jW} {a : Int32} : Wp d 23 8 ls (.int a :: st) w Q = ((a = nI 0 → Wp d 23 18 ls st w Q) ∧ (¬ a = nI 0 → Wp d 23 11 ls st w Q)) := Wp.if2 (c := a = nI 0) (off := 10) e23_8 rfl rfl rfl rfl rfl
theorem e23_11 : decode (j_co 23) 11 = .ok (.iload_n 2, 1) := by decide +kernel
set_option maxRecDepth 20000 in
theorem w23_11 {d : Nat} {st : List Value} {Q : Option Value × jW → Prop} {w : jW} {a0 a1 a3 a4 a5 a6 : Option Value} {x : Int32} : Wp d 23 11 [a0, a1, some (.int x), a3, a4, a5, a6] (st) w Q = Wp d 23 12 [a0, a1, some (.int x), a3, a4, a5, a6] (.int x :: st) w Q := Wp.loc e23_11 rfl rfl rfl
theorem e23_12 : decode (j_co 23) 12 = .ok (.invokestatic 114, 3) := by decide +kernel
set_option maxRecDepth 20000 in
theorem w23_12 {d : Nat} {st : List Value} {Q : Option Value × jW → Prop} {ls : jL} {w : jW} {x0 : Int32} (hs : j_sumc st ≤ 8) : Wp (d + 1) 23 12 ls (.int x0 :: st) w Q = Wp d 18 0 [some (.int x0)] [] w (fun r1 => Wp (d + 1) 23 15 ls (r1.1.toList ++ st) r1.2 Q) := Wp.cs (kd := 1) (y' := 18) (as := [.int x0]) e23_12 rfl (by decide) (by decide) rfl (show 1 ≤ 1 by decide) hs
theorem e23_15 : decode (j_co 23) 15 = .ok (.ifCond .ne 5, 3) := by decide +kernel
set_option maxRecDepth 20000 in
theorem w23_15 {d : Nat} {st : List Value} {Q : Option Value × jW → Prop} {ls : jL} {w : jW} {a : Int32} : Wp d 23 15 ls (.int a :: st) w Q = ((a = nI 0 → Wp d 23 18 ls st w Q) ∧ (¬ a = nI 0 → Wp d 23 20 ls st w Q)) := Wp.if2n (c := a = nI 0) (off := 5) e23_15 rfl rfl rfl rfl rfl
theorem e23_18 : decode (j_co 23) 18 = .ok (.iconst (-1), 1) := by decide +kernel
set_option maxRecDepth 20000 in
theorem w23_18 {d : Nat} {st : List Value} {Q : Option Value × jW → Prop} {ls : jL} {w : jW} : Wp d 23 18 ls (st) w Q = Wp d 23 19 ls (.int (-1) :: st) w Q := Wp.alu e23_18 rfl rfl
theorem e23_19 : decode (j_co 23) 19 = .ok (.ireturn, 1) := by decide +kernel
set_option maxRecDepth 20000 in
theorem w23_19 {d : Nat} {Q : Option Value × jW → Prop} {ls : jL} {w : jW} {x : Int32} : Wp d 23 19 ls [.int x] w Q = Q (some (.int x), w) := Wp.ret e23_19 rfl
theorem e23_20 : decode (j_co 23) 20 = .ok (.iload_n 3, 1) := by decide +kernel
set_option maxRecDepth 20000 in
theorem w23_20 {d : Nat} {st : List Value} {Q : Option Value × jW → Prop} {w : jW} {a0 a1 a2 a4 a5 a6 : Option Value} {x : Int32} : Wp d 23 20 [a0, a1, a2, some (.int x), a4, a5, a6] (st) w Q = Wp d 23 21 [a0, a1, a2, some (.int x), a4, a5, a6] (.int x :: st) w Q := Wp.loc e23_20 rfl rfl rfl
theorem e23_21 : decode (j_co 23) 21 = .ok (.ifCond .ne 18, 3) := by decide +kernel
set_option maxRecDepth 20000 in
theorem w23_21 {d : Nat} {st : List Value} {Q : Option Value × jW → Prop} {ls : jL} {w : jW} {a : Int32} : Wp d 23 21 ls (.int a :: st) w Q = ((a = nI 0 → Wp d 23 24 ls st w Q) ∧ (¬ a = nI 0 → Wp d 23 39 ls st w Q)) := Wp.if2n (c := a = nI 0) (off := 18) e23_21 rfl rfl rfl rfl rfl
theorem e23_24 : decode (j_co 23) 24 = .ok (.iload_n 2, 1) := by decide +kernel
set_option maxRecDepth 20000 in
theorem w23_24 {d : Nat} {st : List Value} {Q : Option Value × jW → Prop} {w : jW} {a0 a1 a3 a4 a5 a6 : Option Value} {x : Int32} : Wp d 23 24 [a0, a1, some (.int x), a3, a4, a5, a6] (st) w Q = Wp d 23 25 [a0, a1, some (.int x), a3, a4, a5, a6] (.int x :: st) w Q := Wp.loc e23_24 rfl rfl rfl
theorem e23_25 : decode (j_co 23) 25 = .ok (.iload 4, 2) := by decide +kernel
set_option maxRecDepth 20000 in
theorem w23_25 {d : Nat} {st : List Value} {Q : Option Value × jW → Prop} {w : jW} {a0 a1 a2 a3 a5 a6 : Option Value} {x : Int32} : Wp d 23 25 [a0, a1, a2, a3, some (.int x), a5, a6] (st) w Q = Wp d 23 27 [a0, a1, a2, a3, some (.int x), a5, a6] (.int x :: st) w Q := Wp.loc e23_25 rfl rfl rfl
theorem e23_27 : decode (j_co 23) 27 = .ok (.iload 5, 2) := by decide +kernel
set_option maxRecDepth 20000 in
theorem w23_27 {d : Nat} {st : List Value} {Q : Option Value × jW → Prop} {w : jW} {a0 a1 a2 a3 a4 a6 : Option Value} {x : Int32} : Wp d 23 27 [a0, a1, a2, a3, a4, some (.int x), a6] (st) w Q = Wp d 23 29 [a0, a1, a2, a3, a4, some (.int x), a6] (.int x :: st) w Q := Wp.loc e23_27 rfl rfl rfl
theorem e23_29 : decode (j_co 23) 29 = .ok (.bipush 20, 2) := by decide +kernel
set_option maxRecDepth 20000 in
theorem w23_29 {d : Nat} {st : List Value} {Q : Option Value × jW → Prop} {ls : jL} {w : jW} : Wp d 23 29 ls (st) w Q = Wp d 23 31 ls (.int (nI 20) :: st) w Q := Wp.alu e23_29 rfl rfl
theorem e23_31 : decode (j_co 23) 31 = .ok (.invokestatic 73, 3) := by decide +kernel
set_option maxRecDepth 20000 in
theorem w23_31 {d : Nat} {st : List Value} {Q : Option Value × jW → Prop} {ls : jL} {w : jW} {x0 : Int32} {x1 : Int32} {x2 : Int32} {x3 : Int32} (hs : j_sumc st ≤ 8) : Wp (d + 1) 23 31 ls (.int x3 :: .int x2 :: .int x1 :: .int x0 :: st) w Q = Wp d 17 0 [some (.int x0), some (.int x1), some (.int x2), some (.int x3)] [] w (fun r1 => Wp (d + 1) 23 34 ls (r1.1.toList ++ st) r1.2 Q) := Wp.cs (kd := 1) (y' := 17) (as := [.int x0, .int x1, .int x2, .int x3]) e23_31 rfl (by decide) (by decide) rfl (show 4 ≤ 4 by decide) hs
theorem e23_34 : decode (j_co 23) 34 = .ok (.ifCond .ne 5, 3) := by decide +kernel
set_option maxRecDepth 20000 in
theorem w23_34 {d : Nat} {st : List Value} {Q : Option Value × jW → Prop} {ls : jL} {w : jW} {a : Int32} : Wp d 23 34 ls (.int a :: st) w Q = ((a = nI 0 → Wp d 23 37 ls st w Q) ∧ (¬ a = nI 0 → Wp d 23 39 ls st w Q)) := Wp.if2n (c := a = nI 0) (off := 5) e23_34 rfl rfl rfl rfl rfl
theorem e23_37 : decode (j_co 23) 37 = .ok (.iconst (-1), 1) := by decide +kernel
set_option maxRecDepth 20000 in
theorem w23_37 {d : Nat} {st : List Value} {Q : Option Value × jW → Prop} {ls : jL} {w : jW} : Wp d 23 37 ls (st) w Q = Wp d 23 38 ls (.int (-1) :: st) w Q := Wp.alu e23_37 rfl rfl
theorem e23_38 : decode (j_co 23) 38 = .ok (.ireturn, 1) := by decide +kernel
set_option maxRecDepth 20000 in
theorem w23_38 {d : Nat} {Q : Option Value × jW → Prop} {ls : jL} {w : jW} {x : Int32} : Wp d 23 38 ls [.int x] w Q = Q (some (.int x), w) := Wp.ret e23_38 rfl
theorem e23_39 : decode (j_co 23) 39 = .ok (.aload_n 0, 1) := by decide +kernel
set_option maxRecDepth 20000 in
theorem w23_39 {d : Nat} {st : List Value} {Q : Option Value × jW → Prop} {w : jW} {a1 a2 a3 a4 a5 a6 : Option Value} {x : Nat} : Wp d 23 39 [some (.ref x), a1, a2, a3, a4, a5, a6] (st) w Q = Wp d 23 40 [some (.ref x), a1, a2, a3, a4, a5, a6] (.ref x :: st) w Q := Wp.loc e23_39 rfl rfl rfl
theorem e23_40 : decode (j_co 23) 40 = .ok (.getfield 21, 3) := by decide +kernel
set_option maxRecDepth 20000 in
theorem w23_40 {d : Nat} {st : List Value} {Q : Option Value × jW → Prop} {ls : jL} {xs : List Value} {I : fI} {L : fL} {o : Nat} (ht : f_tg o = 10) : Wp d 23 40 ls (.ref o :: st) (f_W xs I L) Q = Wp d 23 43 ls (.ref (f_rf o 1) :: st) (f_W xs I L) Q := Wp.getR (ci := 10) (k := 1) e23_40 rfl (by decide) (by decide) rfl ht
theorem e23_43 : decode (j_co 23) 43 = .ok (.invokevirtual 66, 3) := by decide +kernel
set_option maxRecDepth 20000 in
theorem w23_43 {d : Nat} {st : List Value} {Q : Option Value × jW → Prop} {ls : jL} {xs : List Value} {I : fI} {L : fL} {r : Nat} (hs : j_sumc st ≤ 8) (ht : f_tg r = 7) : Wp (d + 1) 23 43 ls (.ref r :: st) (f_W xs I L) Q = Wp d 14 0 [some (.ref r)] [] (f_W xs I L) (fun r1 => Wp (d + 1) 23 46 ls (r1.1.toList ++ st) r1.2 Q) := Wp.cv (y' := 14) (as := []) e23_43 rfl (by decide) rfl (show 1 ≤ 1 by decide) (by decide) hs ht
theorem e23_46 : decode (j_co 23) 46 = .ok (.aload_n 0, 1) := by decide +kernel
set_option maxRecDepth 20000 in
theorem w23_46 {d : Nat} {st : List Value} {Q : Option Value × jW → Prop} {w : jW} {a1 a2 a3 a4 a5 a6 : Option Value} {x : Nat} : Wp d 23 46 [some (.ref x), a1, a2, a3, a4, a5, a6] (st) w Q = Wp d 23 47 [some (.ref x), a1, a2, a3, a4, a5, a6] (.ref x :: st) w Q := Wp.loc e23_46 rfl rfl rfl
theorem e23_47 : decode (j_co 23) 47 = .ok (.getfield 10, 3) := by decide +kernel
set_option maxRecDepth 20000 in
theorem w23_47 {d : Nat} {st : List Value} {Q : Option Value × jW → Prop} {ls : jL} {xs : List Value} {I : fI} {L : fL} {o : Nat} (ht : f_tg o = 10) : Wp d 23 47 ls (.ref o :: st) (f_W xs I L) Q = Wp d 23 50 ls (.ref (f_rf o 0) :: st) (f_W xs I L) Q := Wp.getR (ci := 10) (k := 0) e23_47 rfl (by decide) (by decide) rfl ht
theorem e23_50 : decode (j_co 23) 50 = .ok (.getfield 96, 3) := by decide +kernel
set_option maxRecDepth 20000 in
theorem w23_50 {d : Nat} {st : List Value} {Q : Option Value × jW → Prop} {ls : jL} {xs : List Value} {I : fI} {L : fL} {o : Nat} (ht : f_tg o = 5) : Wp d 23 50 ls (.ref o :: st) (f_W xs I L) Q = Wp d 23 53 ls (.ref (f_rf o 1) :: st) (f_W xs I L) Q := Wp.getR (ci := 5) (k := 1) e23_50 rfl (by decide) (by decide) rfl ht
theorem e23_53 : decode (j_co 23) 53 = .ok (.iload_n 1, 1) := by decide +kernel
set_option maxRecDepth 20000 in
theorem w23_53 {d : Nat} {st : List Value} {Q : Option Value × jW → Prop} {w : jW} {a0 a2 a3 a4 a5 a6 : Option Value} {x : Int32} : Wp d 23 53 [a0, some (.int x), a2, a3, a4, a5, a6] (st) w Q = Wp d 23 54 [a0, some (.int x), a2, a3, a4, a5, a6] (.int x :: st) w Q := Wp.loc e23_53 rfl rfl rfl
theorem e23_54 : decode (j_co 23) 54 = .ok (.aaload, 1) := by decide +kernel
set_option maxRecDepth 20000 in
theorem w23_54 {d : Nat} {st : List Value} {Q : Option Value × jW → Prop} {ls : jL} {xs : List Value} {I : fI} {L : fL} {o : Nat} {i : Int32} (ht : 103 ≤ f_tg o ∧ f_tg o ≤ 106) (hi : ¬ (i < 0 ∨ f_ln o ≤ i.toNatClampNeg)) : Wp d 23 54 ls (.int i :: .ref o :: st) (f_W xs I L) Q = Wp d 23 55 ls (.ref (f_rf o i.toNatClampNeg) :: st) (f_W xs I L) Q := Wp.aald e23_54 rfl ht hi
theorem e23_55 : decode (j_co 23) 55 = .ok (.astore 6, 2) := by decide +kernel
set_option maxRecDepth 20000 in
theorem w23_55 {d : Nat} {st : List Value} {Q : Option Value × jW → Prop} {w : jW} {a0 a1 a2 a3 a4 a5 a6 : Option Value} {x : Nat} (h : j_cp a5) : Wp d 23 55 [a0, a1, a2, a3, a4, a5, a6] (.ref x :: st) w Q = Wp d 23 57 [a0, a1, a2, a3, a4, a5, some (.ref x)] (st) w Q := Wp.loc e23_55 rfl rfl (v_stA (ls := [a0, a1, a2, a3, a4, a5, a6]) (k := 6) (show 6 < 7 by decide) h)
theorem e23_57 : decode (j_co 23) 57 = .ok (.aload 6, 2) := by decide +kernel
set_option maxRecDepth 20000 in
theorem w23_57 {d : Nat} {st : List Value} {Q : Option Value × jW → Prop} {w : jW} {a0 a1 a2 a3 a4 a5 : Option Value} {x : Nat} : Wp d 23 57 [a0, a1, a2, a3, a4, a5, some (.ref x)] (st) w Q = Wp d 23 59 [a0, a1, a2, a3, a4, a5, some (.ref x)] (.ref x :: st) w Q := Wp.loc e23_57 rfl rfl rfl
theorem e23_59 : decode (j_co 23) 59 = .ok (.getfield 117, 3) := by decide +kernel
set_option maxRecDepth 20000 in
theorem w23_59 {d : Nat} {st : List Value} {Q : Option Value × jW → Prop} {ls : jL} {xs : List Value} {I : fI} {L : fL} {o : Nat} (ht : f_tg o = 4) : Wp d 23 59 ls (.ref o :: st) (f_W xs I L) Q = Wp d 23 62 ls (.ref (f_rf o 2) :: st) (f_W xs I L) Q := Wp.getR (ci := 4) (k := 2) e23_59 rfl (by decide) (by decide) rfl ht
theorem e23_62 : decode (j_co 23) 62 = .ok (.iload_n 2, 1) := by decide +kernel
set_option maxRecDepth 20000 in
theorem w23_62 {d : Nat} {st : List Value} {Q : Option Value × jW → Prop} {w : jW} {a0 a1 a3 a4 a5 a6 : Option Value} {x : Int32} : Wp d 23 62 [a0, a1, some (.int x), a3, a4, a5, a6] (st) w Q = Wp d 23 63 [a0, a1, some (.int x), a3, a4, a5, a6] (.int x :: st) w Q := Wp.loc e23_62 rfl rfl rfl
theorem e23_63 : decode (j_co 23) 63 = .ok (.iload_n 3, 1) := by decide +kernel
set_option maxRecDepth 20000 in
theorem w23_63 {d : Nat} {st : List Value} {Q : Option Value × jW → Prop} {w : jW} {a0 a1 a2 a4 a5 a6 : Option Value} {x : Int32} : Wp d 23 63 [a0, a1, a2, some (.int x), a4, a5, a6] (st) w Q = Wp d 23 64 [a0, a1, a2, some (.int x), a4, a5, a6] (.int x :: st) w Q := Wp.loc e23_63 rfl rfl rfl
theorem e23_64 : decode (j_co 23) 64 = .ok (.ifCond .ne 7, 3) := by decide +kernel
set_option maxRecDepth 20000 in
theorem w23_64 {d : Nat} {st : List Value} {Q : Option Value × jW → Prop} {ls : jL} {w : jW} {a : Int32} : Wp d 23 64 ls (.int a :: st) w Q = ((a = nI 0 → Wp d 23 67 ls st w Q) ∧ (¬ a = nI 0 → Wp d 23 71 ls st w Q)) := Wp.if2n (c := a = nI 0) (off := 7) e23_64 rfl rfl rfl rfl rfl
theorem e23_67 : decode (j_co 23) 67 = .ok (.iconst 1, 1) := by decide +kernel
set_option maxRecDepth 20000 in
theorem w23_67 {d : Nat} {st : List Value} {Q : Option Value × jW → Prop} {ls : jL} {w : jW} : Wp d 23 67 ls (st) w Q = Wp d 23 68 ls (.int (nI 1) :: st) w Q := Wp.alu e23_67 rfl rfl
theorem e23_68 : decode (j_co 23) 68 = .ok (.goto 4, 3) := by decide +kernel
set_option maxRecDepth 20000 in
theorem w23_68 {d : Nat} {st : List Value} {Q : Option Value × jW → Prop} {ls : jL} {w : jW} : Wp d 23 68 ls (st) w Q = Wp d 23 72 ls (st) w Q := Wp.br e23_68 (Or.inl rfl) rfl rfl rfl rfl
theorem e23_71 : decode (j_co 23) 71 = .ok (.iconst 0, 1) := by decide +kernel
set_option maxRecDepth 20000 in
theorem w23_71 {d : Nat} {st : List Value} {Q : Option Value × jW → Prop} {ls : jL} {w : jW} : Wp d 23 71 ls (st) w Q = Wp d 23 72 ls (.int (nI 0) :: st) w Q := Wp.alu e23_71 rfl rfl
theorem e23_72 : decode (j_co 23) 72 = .ok (.bastore, 1) := by decide +kernel
set_option maxRecDepth 20000 in
theorem w23_72 {d : Nat} {st : List Value} {Q : Option Value × jW → Prop} {ls : jL} {xs : List Value} {I : fI} {L : fL} {o : Nat} {i x : Int32} (ht : f_tg o = 101) (hi : ¬ (i < 0 ∨ f_ln o ≤ i.toNatClampNeg)) (hx : x = 0 ∨ x = 1) : Wp d 23 72 ls (.int x :: .int i :: .ref o :: st) (f_W xs I L) Q = Wp d 23 73 ls (st) (f_W xs (f_up I o i.toNatClampNeg x) L) Q := Wp.zast e23_72 ht hi hx
theorem e23_73 : decode (j_co 23) 73 = .ok (.iload_n 3, 1) := by decide +kernel
set_option maxRecDepth 20000 in
theorem w23_73 {d : Nat} {st : List Value} {Q : Option Value × jW → Prop} {w : jW} {a0 a1 a2 a4 a5 a6 : Option Value} {x : Int32} : Wp d 23 73 [a0, a1, a2, some (.int x), a4, a5, a6] (st) w Q = Wp d 23 74 [a0, a1, a2, some (.int x), a4, a5, a6] (.int x :: st) w Q := Wp.loc e23_73 rfl rfl rfl
theorem e23_74 : decode (j_co 23) 74 = .ok (.ifCond .ne 16, 3) := by decide +kernel
set_option maxRecDepth 20000 in
theorem w23_74 {d : Nat} {st : List Value} {Q : Option Value × jW → Prop} {ls : jL} {w : jW} {a : Int32} : Wp d 23 74 ls (.int a :: st) w Q = ((a = nI 0 → Wp d 23 77 ls st w Q) ∧ (¬ a = nI 0 → Wp d 23 90 ls st w Q)) := Wp.if2n (c := a = nI 0) (off := 16) e23_74 rfl rfl rfl rfl rfl
theorem e23_77 : decode (j_co 23) 77 = .ok (.aload 6, 2) := by decide +kernel
set_option maxRecDepth 20000 in
theorem w23_77 {d : Nat} {st : List Value} {Q : Option Value × jW → Prop} {w : jW} {a0 a1 a2 a3 a4 a5 : Option Value} {x : Nat} : Wp d 23 77 [a0, a1, a2, a3, a4, a5, some (.ref x)] (st) w Q = Wp d 23 79 [a0, a1, a2, a3, a4, a5, some (.ref x)] (.ref x :: st) w Q := Wp.loc e23_77 rfl rfl rfl
theorem e23_79 : decode (j_co 23) 79 = .ok (.getfield 121, 3) := by decide +kernel
set_option maxRecDepth 20000 in
theorem w23_79 {d : Nat} {st : List Value} {Q : Option Value × jW → Prop} {ls : jL} {xs : List Value} {I : fI} {L : fL} {o : Nat} (ht : f_tg o = 4) : Wp d 23 79 ls (.ref o :: st) (f_W xs I L) Q = Wp d 23 82 ls (.ref (f_rf o 1) :: st) (f_W xs I L) Q := Wp.getR (ci := 4) (k := 1) e23_79 rfl (by decide) (by decide) rfl ht
theorem e23_82 : decode (j_co 23) 82 = .ok (.iload_n 2, 1) := by decide +kernel
set_option maxRecDepth 20000 in
theorem w23_82 {d : Nat} {st : List Value} {Q : Option Value × jW → Prop} {w : jW} {a0 a1 a3 a4 a5 a6 : Option Value} {x : Int32} : Wp d 23 82 [a0, a1, some (.int x), a3, a4, a5, a6] (st) w Q = Wp d 23 83 [a0, a1, some (.int x), a3, a4, a5, a6] (.int x :: st) w Q := Wp.loc e23_82 rfl rfl rfl
theorem e23_83 : decode (j_co 23) 83 = .ok (.iload 4, 2) := by decide +kernel
set_option maxRecDepth 20000 in
theorem w23_83 {d : Nat} {st : List Value} {Q : Option Value × jW → Prop} {w : jW} {a0 a1 a2 a3 a5 a6 : Option Value} {x : Int32} : Wp d 23 83 [a0, a1, a2, a3, some (.int x), a5, a6] (st) w Q = Wp d 23 85 [a0, a1, a2, a3, some (.int x), a5, a6] (.int x :: st) w Q := Wp.loc e23_83 rfl rfl rfl
theorem e23_85 : decode (j_co 23) 85 = .ok (.iload 5, 2) := by decide +kernel
set_option maxRecDepth 20000 in
theorem w23_85 {d : Nat} {st : List Value} {Q : Option Value × jW → Prop} {w : jW} {a0 a1 a2 a3 a4 a6 : Option Value} {x : Int32} : Wp d 23 85 [a0, a1, a2, a3, a4, some (.int x), a6] (st) w Q = Wp d 23 87 [a0, a1, a2, a3, a4, some (.int x), a6] (.int x :: st) w Q := Wp.loc e23_85 rfl rfl rfl
theorem e23_87 : decode (j_co 23) 87 = .ok (.invokevirtual 86, 3) := by decide +kernel
set_option maxRecDepth 20000 in
theorem w23_87 {d : Nat} {st : List Value} {Q : Option Value × jW → Prop} {ls : jL} {xs : List Value} {I : fI} {L : fL} {r : Nat} {x0 : Int32} {x1 : Int32} {x2 : Int32} (hs : j_sumc st ≤ 8) (ht : f_tg r = 0) : Wp (d + 1) 23 87 ls (.int x2 :: .int x1 :: .int x0 :: .ref r :: st) (f_W xs I L) Q = Wp d 5 0 [some (.ref r), some (.int x0), some (.int x1), some (.int x2)] [] (f_W xs I L) (fun r1 => Wp (d + 1) 23 90 ls (r1.1.toList ++ st) r1.2 Q) := Wp.cv (y' := 5) (as := [.int x0, .int x1, .int x2]) e23_87 rfl (by decide) rfl (show 4 ≤ 4 by decide) (by decide) hs ht
theorem e23_90 : decode (j_co 23) 90 = .ok (.iconst 1, 1) := by decide +kernel
set_option maxRecDepth 20000 in
theorem w23_90 {d : Nat} {st : List Value} {Q : Option Value × jW → Prop} {ls : jL} {w : jW} : Wp d 23 90 ls (st) w Q = Wp d 23 91 ls (.int (nI 1) :: st) w Q := Wp.alu e23_90 rfl rfl
theorem e23_91 : decode (j_co 23) 91 = .ok (.ireturn, 1) := by decide +kernel
set_option maxRecDepth 20000 in
theorem w23_91 {d : Nat} {Q : Option Value × jW → Prop} {ls : jL} {w : jW} {x : Int32} : Wp d 23 91 ls [.int x] w Q = Q (some (.int x), w) := Wp.ret e23_91 rfl
/-! X.start -/
theorem e24_0 : decode (j_co 24) 0 = .ok (.iload_n 1, 1) := by decide +kernel
set_option maxRecDepth 20000 in
theorem w24_0 {d : Nat} {st : List Value} {Q : Option Value × jW → Prop} {w : jW} {a0 a2 : Option Value} {x : Int32} : Wp d 24 0 [a0, some (.int x), a2] (st) w Q = Wp d 24 1 [a0, some (.int x), a2] (.int x :: st) w Q := Wp.loc e24_0 rfl rfl rfl
theorem e24_1 : decode (j_co 24) 1 = .ok (.ifCond .lt 9, 3) := by decide +kernel
set_option maxRecDepth 20000 in
theorem w24_1 {d : Nat} {st : List Value} {Q : Option Value × jW → Prop} {ls : jL} {w : jW} {a : Int32} : Wp d 24 1 ls (.int a :: st) w Q = ((a < nI 0 → Wp d 24 10 ls st w Q) ∧ (¬ a < nI 0 → Wp d 24 4 ls st w Q)) := Wp.if2 (c := a < nI 0) (off := 9) e24_1 rfl rfl rfl rfl rfl
theorem e24_4 : decode (j_co 24) 4 = .ok (.iload_n 1, 1) := by decide +kernel
set_option maxRecDepth 20000 in
theorem w24_4 {d : Nat} {st : List Value} {Q : Option Value × jW → Prop} {w : jW} {a0 a2 : Option Value} {x : Int32} : Wp d 24 4 [a0, some (.int x), a2] (st) w Q = Wp d 24 5 [a0, some (.int x), a2] (.int x :: st) w Q := Wp.loc e24_4 rfl rfl rfl
theorem e24_5 : decode (j_co 24) 5 = .ok (.bipush 6, 2) := by decide +kernel
set_option maxRecDepth 20000 in
theorem w24_5 {d : Nat} {st : List Value} {Q : Option Value × jW → Prop} {ls : jL} {w : jW} : Wp d 24 5 ls (st) w Q = Wp d 24 7 ls (.int (nI 6) :: st) w Q := Wp.alu e24_5 rfl rfl
theorem e24_7 : decode (j_co 24) 7 = .ok (.if_icmp .lt 5, 3) := by decide +kernel
set_option maxRecDepth 20000 in
theorem w24_7 {d : Nat} {st : List Value} {Q : Option Value × jW → Prop} {ls : jL} {w : jW} {a b : Int32} : Wp d 24 7 ls (.int b :: .int a :: st) w Q = ((a < b → Wp d 24 12 ls st w Q) ∧ (¬ a < b → Wp d 24 10 ls st w Q)) := Wp.if2 (c := a < b) (off := 5) e24_7 rfl rfl rfl rfl rfl
theorem e24_10 : decode (j_co 24) 10 = .ok (.iconst (-1), 1) := by decide +kernel
set_option maxRecDepth 20000 in
theorem w24_10 {d : Nat} {st : List Value} {Q : Option Value × jW → Prop} {ls : jL} {w : jW} : Wp d 24 10 ls (st) w Q = Wp d 24 11 ls (.int (-1) :: st) w Q := Wp.alu e24_10 rfl rfl
theorem e24_11 : decode (j_co 24) 11 = .ok (.ireturn, 1) := by decide +kernel
set_option maxRecDepth 20000 in
theorem w24_11 {d : Nat} {Q : Option Value × jW → Prop} {ls : jL} {w : jW} {x : Int32} : Wp d 24 11 ls [.int x] w Q = Q (some (.int x), w) := Wp.ret e24_11 rfl
theorem e24_12 : decode (j_co 24) 12 = .ok (.aload_n 0, 1) := by decide +kernel
set_option maxRecDepth 20000 in
theorem w24_12 {d : Nat} {st : List Value} {Q : Option Value × jW → Prop} {w : jW} {a1 a2 : Option Value} {x : Nat} : Wp d 24 12 [some (.ref x), a1, a2] (st) w Q = Wp d 24 13 [some (.ref x), a1, a2] (.ref x :: st) w Q := Wp.loc e24_12 rfl rfl rfl
theorem e24_13 : decode (j_co 24) 13 = .ok (.getfield 10, 3) := by decide +kernel
set_option maxRecDepth 20000 in
theorem w24_13 {d : Nat} {st : List Value} {Q : Option Value × jW → Prop} {ls : jL} {xs : List Value} {I : fI} {L : fL} {o : Nat} (ht : f_tg o = 10) : Wp d 24 13 ls (.ref o :: st) (f_W xs I L) Q = Wp d 24 16 ls (.ref (f_rf o 0) :: st) (f_W xs I L) Q := Wp.getR (ci := 10) (k := 0) e24_13 rfl (by decide) (by decide) rfl ht
theorem e24_16 : decode (j_co 24) 16 = .ok (.getfield 124, 3) := by decide +kernel
set_option maxRecDepth 20000 in
theorem w24_16 {d : Nat} {st : List Value} {Q : Option Value × jW → Prop} {ls : jL} {xs : List Value} {I : fI} {L : fL} {o : Nat} (ht : f_tg o = 5) : Wp d 24 16 ls (.ref o :: st) (f_W xs I L) Q = Wp d 24 19 ls (.int (I o 6) :: st) (f_W xs I L) Q := Wp.getI (ci := 5) (k := 6) e24_16 rfl (by decide) (by decide) (by decide) ht
theorem e24_19 : decode (j_co 24) 19 = .ok (.istore_n 2, 1) := by decide +kernel
set_option maxRecDepth 20000 in
theorem w24_19 {d : Nat} {st : List Value} {Q : Option Value × jW → Prop} {w : jW} {a0 a1 a2 : Option Value} {x : Int32} (h : j_cp a1) : Wp d 24 19 [a0, a1, a2] (.int x :: st) w Q = Wp d 24 20 [a0, a1, some (.int x)] (st) w Q := Wp.loc e24_19 rfl rfl (v_stI (ls := [a0, a1, a2]) (k := 2) (show 2 < 3 by decide) h)
theorem e24_20 : decode (j_co 24) 20 = .ok (.aload_n 0, 1) := by decide +kernel
set_option maxRecDepth 20000 in
theorem w24_20 {d : Nat} {st : List Value} {Q : Option Value × jW → Prop} {w : jW} {a1 a2 : Option Value} {x : Nat} : Wp d 24 20 [some (.ref x), a1, a2] (st) w Q = Wp d 24 21 [some (.ref x), a1, a2] (.ref x :: st) w Q := Wp.loc e24_20 rfl rfl rfl
theorem e24_21 : decode (j_co 24) 21 = .ok (.getfield 21, 3) := by decide +kernel
set_option maxRecDepth 20000 in
theorem w24_21 {d : Nat} {st : List Value} {Q : Option Value × jW → Prop} {ls : jL} {xs : List Value} {I : fI} {L : fL} {o : Nat} (ht : f_tg o = 10) : Wp d 24 21 ls (.ref o :: st) (f_W xs I L) Q = Wp d 24 24 ls (.ref (f_rf o 1) :: st) (f_W xs I L) Q := Wp.getR (ci := 10) (k := 1) e24_21 rfl (by decide) (by decide) rfl ht
theorem e24_24 : decode (j_co 24) 24 = .ok (.invokevirtual 66, 3) := by decide +kernel
set_option maxRecDepth 20000 in
theorem w24_24 {d : Nat} {st : List Value} {Q : Option Value × jW → Prop} {ls : jL} {xs : List Value} {I : fI} {L : fL} {r : Nat} (hs : j_sumc st ≤ 8) (ht : f_tg r = 7) : Wp (d + 1) 24 24 ls (.ref r :: st) (f_W xs I L) Q = Wp d 14 0 [some (.ref r)] [] (f_W xs I L) (fun r1 => Wp (d + 1) 24 27 ls (r1.1.toList ++ st) r1.2 Q) := Wp.cv (y' := 14) (as := []) e24_24 rfl (by decide) rfl (show 1 ≤ 1 by decide) (by decide) hs ht
theorem e24_27 : decode (j_co 24) 27 = .ok (.aload_n 0, 1) := by decide +kernel
set_option maxRecDepth 20000 in
theorem w24_27 {d : Nat} {st : List Value} {Q : Option Value × jW → Prop} {w : jW} {a1 a2 : Option Value} {x : Nat} : Wp d 24 27 [some (.ref x), a1, a2] (st) w Q = Wp d 24 28 [some (.ref x), a1, a2] (.ref x :: st) w Q := Wp.loc e24_27 rfl rfl rfl
theorem e24_28 : decode (j_co 24) 28 = .ok (.getfield 10, 3) := by decide +kernel
set_option maxRecDepth 20000 in
theorem w24_28 {d : Nat} {st : List Value} {Q : Option Value × jW → Prop} {ls : jL} {xs : List Value} {I : fI} {L : fL} {o : Nat} (ht : f_tg o = 10) : Wp d 24 28 ls (.ref o :: st) (f_W xs I L) Q = Wp d 24 31 ls (.ref (f_rf o 0) :: st) (f_W xs I L) Q := Wp.getR (ci := 10) (k := 0) e24_28 rfl (by decide) (by decide) rfl ht
theorem e24_31 : decode (j_co 24) 31 = .ok (.iload_n 1, 1) := by decide +kernel
set_option maxRecDepth 20000 in
theorem w24_31 {d : Nat} {st : List Value} {Q : Option Value × jW → Prop} {w : jW} {a0 a2 : Option Value} {x : Int32} : Wp d 24 31 [a0, some (.int x), a2] (st) w Q = Wp d 24 32 [a0, some (.int x), a2] (.int x :: st) w Q := Wp.loc e24_31 rfl rfl rfl
theorem e24_32 : decode (j_co 24) 32 = .ok (.putfield 124, 3) := by decide +kernel
set_option maxRecDepth 20000 in
theorem w24_32 {d : Nat} {st : List Value} {Q : Option Value × jW → Prop} {ls : jL} {xs : List Value} {I : fI} {L : fL} {o : Nat} {x : Int32} (ht : f_tg o = 5) : Wp d 24 32 ls (.int x :: .ref o :: st) (f_W xs I L) Q = Wp d 24 35 ls (st) (f_W xs (f_up I o 6 x) L) Q := Wp.putI (ci := 5) (k := 6) e24_32 rfl (by decide) (by decide) rfl (by decide) ht
theorem e24_35 : decode (j_co 24) 35 = .ok (.iload_n 2, 1) := by decide +kernel
set_option maxRecDepth 20000 in
theorem w24_35 {d : Nat} {st : List Value} {Q : Option Value × jW → Prop} {w : jW} {a0 a1 : Option Value} {x : Int32} : Wp d 24 35 [a0, a1, some (.int x)] (st) w Q = Wp d 24 36 [a0, a1, some (.int x)] (.int x :: st) w Q := Wp.loc e24_35 rfl rfl rfl
theorem e24_36 : decode (j_co 24) 36 = .ok (.ireturn, 1) := by decide +kernel
set_option maxRecDepth 20000 in
theorem w24_36 {d : Nat} {Q : Option Value × jW → Prop} {ls : jL} {w : jW} {x : Int32} : Wp d 24 36 ls [.int x] w Q = Q (some (.int x), w) := Wp.ret e24_36 rfl
/-! X.box -/
theorem e25_0 : decode (j_co 25) 0 = .ok (.iload_n 1, 1) := by decide +kernel
set_option maxRecDepth 20000 in
theorem w25_0 {d : Nat} {st : List Value} {Q : Option Value × jW → Prop} {w : jW} {a0 a2 a3 a4 : Option Value} {x : Int32} : Wp d 25 0 [a0, some (.int x), a2, a3, a4] (st) w Q = Wp d 25 1 [a0, some (.int x), a2, a3, a4] (.int x :: st) w Q := Wp.loc e25_0 rfl rfl rfl
theorem e25_1 : decode (j_co 25) 1 = .ok (.ifCond .lt 20, 3) := by decide +kernel
set_option maxRecDepth 20000 in
theorem w25_1 {d : Nat} {st : List Value} {Q : Option Value × jW → Prop} {ls : jL} {w : jW} {a : Int32} : Wp d 25 1 ls (.int a :: st) w Q = ((a < nI 0 → Wp d 25 21 ls st w Q) ∧ (¬ a < nI 0 → Wp d 25 4 ls st w Q)) := Wp.if2 (c := a < nI 0) (off := 20) e25_1 rfl rfl rfl rfl rfl
theorem e25_4 : decode (j_co 25) 4 = .ok (.iload_n 1, 1) := by decide +kernel
set_option maxRecDepth 20000 in
theorem w25_4 {d : Nat} {st : List Value} {Q : Option Value × jW → Prop} {w : jW} {a0 a2 a3 a4 : Option Value} {x : Int32} : Wp d 25 4 [a0, some (.int x), a2, a3, a4] (st) w Q = Wp d 25 5 [a0, some (.int x), a2, a3, a4] (.int x :: st) w Q := Wp.loc e25_4 rfl rfl rfl
theorem e25_5 : decode (j_co 25) 5 = .ok (.iconst 1, 1) := by decide +kernel
set_option maxRecDepth 20000 in
theorem w25_5 {d : Nat} {st : List Value} {Q : Option Value × jW → Prop} {ls : jL} {w : jW} : Wp d 25 5 ls (st) w Q = Wp d 25 6 ls (.int (nI 1) :: st) w Q := Wp.alu e25_5 rfl rfl
theorem e25_6 : decode (j_co 25) 6 = .ok (.if_icmp .gt 15, 3) := by decide +kernel
set_option maxRecDepth 20000 in
theorem w25_6 {d : Nat} {st : List Value} {Q : Option Value × jW → Prop} {ls : jL} {w : jW} {a b : Int32} : Wp d 25 6 ls (.int b :: .int a :: st) w Q = ((b < a → Wp d 25 21 ls st w Q) ∧ (¬ b < a → Wp d 25 9 ls st w Q)) := Wp.if2 (c := b < a) (off := 15) e25_6 rfl rfl rfl rfl rfl
theorem e25_9 : decode (j_co 25) 9 = .ok (.iload_n 2, 1) := by decide +kernel
set_option maxRecDepth 20000 in
theorem w25_9 {d : Nat} {st : List Value} {Q : Option Value × jW → Prop} {w : jW} {a0 a1 a3 a4 : Option Value} {x : Int32} : Wp d 25 9 [a0, a1, some (.int x), a3, a4] (st) w Q = Wp d 25 10 [a0, a1, some (.int x), a3, a4] (.int x :: st) w Q := Wp.loc e25_9 rfl rfl rfl
theorem e25_10 : decode (j_co 25) 10 = .ok (.iload_n 3, 1) := by decide +kernel
set_option maxRecDepth 20000 in
theorem w25_10 {d : Nat} {st : List Value} {Q : Option Value × jW → Prop} {w : jW} {a0 a1 a2 a4 : Option Value} {x : Int32} : Wp d 25 10 [a0, a1, a2, some (.int x), a4] (st) w Q = Wp d 25 11 [a0, a1, a2, some (.int x), a4] (.int x :: st) w Q := Wp.loc e25_10 rfl rfl rfl
theorem e25_11 : decode (j_co 25) 11 = .ok (.iload 4, 2) := by decide +kernel
set_option maxRecDepth 20000 in
theorem w25_11 {d : Nat} {st : List Value} {Q : Option Value × jW → Prop} {w : jW} {a0 a1 a2 a3 : Option Value} {x : Int32} : Wp d 25 11 [a0, a1, a2, a3, some (.int x)] (st) w Q = Wp d 25 13 [a0, a1, a2, a3, some (.int x)] (.int x :: st) w Q := Wp.loc e25_11 rfl rfl rfl
theorem e25_13 : decode (j_co 25) 13 = .ok (.bipush 20, 2) := by decide +kernel
set_option maxRecDepth 20000 in
theorem w25_13 {d : Nat} {st : List Value} {Q : Option Value × jW → Prop} {ls : jL} {w : jW} : Wp d 25 13 ls (st) w Q = Wp d 25 15 ls (.int (nI 20) :: st) w Q := Wp.alu e25_13 rfl rfl
theorem e25_15 : decode (j_co 25) 15 = .ok (.invokestatic 73, 3) := by decide +kernel
set_option maxRecDepth 20000 in
theorem w25_15 {d : Nat} {st : List Value} {Q : Option Value × jW → Prop} {ls : jL} {w : jW} {x0 : Int32} {x1 : Int32} {x2 : Int32} {x3 : Int32} (hs : j_sumc st ≤ 8) : Wp (d + 1) 25 15 ls (.int x3 :: .int x2 :: .int x1 :: .int x0 :: st) w Q = Wp d 17 0 [some (.int x0), some (.int x1), some (.int x2), some (.int x3)] [] w (fun r1 => Wp (d + 1) 25 18 ls (r1.1.toList ++ st) r1.2 Q) := Wp.cs (kd := 1) (y' := 17) (as := [.int x0, .int x1, .int x2, .int x3]) e25_15 rfl (by decide) (by decide) rfl (show 4 ≤ 4 by decide) hs
theorem e25_18 : decode (j_co 25) 18 = .ok (.ifCond .ne 5, 3) := by decide +kernel
set_option maxRecDepth 20000 in
theorem w25_18 {d : Nat} {st : List Value} {Q : Option Value × jW → Prop} {ls : jL} {w : jW} {a : Int32} : Wp d 25 18 ls (.int a :: st) w Q = ((a = nI 0 → Wp d 25 21 ls st w Q) ∧ (¬ a = nI 0 → Wp d 25 23 ls st w Q)) := Wp.if2n (c := a = nI 0) (off := 5) e25_18 rfl rfl rfl rfl rfl
theorem e25_21 : decode (j_co 25) 21 = .ok (.iconst (-1), 1) := by decide +kernel
set_option maxRecDepth 20000 in
theorem w25_21 {d : Nat} {st : List Value} {Q : Option Value × jW → Prop} {ls : jL} {w : jW} : Wp d 25 21 ls (st) w Q = Wp d 25 22 ls (.int (-1) :: st) w Q := Wp.alu e25_21 rfl rfl
theorem e25_22 : decode (j_co 25) 22 = .ok (.ireturn, 1) := by decide +kernel
set_option maxRecDepth 20000 in
theorem w25_22 {d : Nat} {Q : Option Value × jW → Prop} {ls : jL} {w : jW} {x : Int32} : Wp d 25 22 ls [.int x] w Q = Q (some (.int x), w) := Wp.ret e25_22 rfl
theorem e25_23 : decode (j_co 25) 23 = .ok (.iload_n 1, 1) := by decide +kernel
set_option maxRecDepth 20000 in
theorem w25_23 {d : Nat} {st : List Value} {Q : Option Value × jW → Prop} {w : jW} {a0 a2 a3 a4 : Option Value} {x : Int32} : Wp d 25 23 [a0, some (.int x), a2, a3, a4] (st) w Q = Wp d 25 24 [a0, some (.int x), a2, a3, a4] (.int x :: st) w Q := Wp.loc e25_23 rfl rfl rfl
theorem e25_24 : decode (j_co 25) 24 = .ok (.iconst 1, 1) := by decide +kernel
set_option maxRecDepth 20000 in
theorem w25_24 {d : Nat} {st : List Value} {Q : Option Value × jW → Prop} {ls : jL} {w : jW} : Wp d 25 24 ls (st) w Q = Wp d 25 25 ls (.int (nI 1) :: st) w Q := Wp.alu e25_24 rfl rfl
theorem e25_25 : decode (j_co 25) 25 = .ok (.if_icmp .ne 19, 3) := by decide +kernel
set_option maxRecDepth 20000 in
theorem w25_25 {d : Nat} {st : List Value} {Q : Option Value × jW → Prop} {ls : jL} {w : jW} {a b : Int32} : Wp d 25 25 ls (.int b :: .int a :: st) w Q = ((a = b → Wp d 25 28 ls st w Q) ∧ (¬ a = b → Wp d 25 44 ls st w Q)) := Wp.if2n (c := a = b) (off := 19) e25_25 rfl rfl rfl rfl rfl
theorem e25_28 : decode (j_co 25) 28 = .ok (.aload_n 0, 1) := by decide +kernel
set_option maxRecDepth 20000 in
theorem w25_28 {d : Nat} {st : List Value} {Q : Option Value × jW → Prop} {w : jW} {a1 a2 a3 a4 : Option Value} {x : Nat} : Wp d 25 28 [some (.ref x), a1, a2, a3, a4] (st) w Q = Wp d 25 29 [some (.ref x), a1, a2, a3, a4] (.ref x :: st) w Q := Wp.loc e25_28 rfl rfl rfl
theorem e25_29 : decode (j_co 25) 29 = .ok (.getfield 10, 3) := by decide +kernel
set_option maxRecDepth 20000 in
theorem w25_29 {d : Nat} {st : List Value} {Q : Option Value × jW → Prop} {ls : jL} {xs : List Value} {I : fI} {L : fL} {o : Nat} (ht : f_tg o = 10) : Wp d 25 29 ls (.ref o :: st) (f_W xs I L) Q = Wp d 25 32 ls (.ref (f_rf o 0) :: st) (f_W xs I L) Q := Wp.getR (ci := 10) (k := 0) e25_29 rfl (by decide) (by decide) rfl ht
theorem e25_32 : decode (j_co 25) 32 = .ok (.getfield 127, 3) := by decide +kernel
set_option maxRecDepth 20000 in
theorem w25_32 {d : Nat} {st : List Value} {Q : Option Value × jW → Prop} {ls : jL} {xs : List Value} {I : fI} {L : fL} {o : Nat} (ht : f_tg o = 5) : Wp d 25 32 ls (.ref o :: st) (f_W xs I L) Q = Wp d 25 35 ls (.ref (f_rf o 3) :: st) (f_W xs I L) Q := Wp.getR (ci := 5) (k := 3) e25_32 rfl (by decide) (by decide) rfl ht
theorem e25_35 : decode (j_co 25) 35 = .ok (.iload_n 2, 1) := by decide +kernel
set_option maxRecDepth 20000 in
theorem w25_35 {d : Nat} {st : List Value} {Q : Option Value × jW → Prop} {w : jW} {a0 a1 a3 a4 : Option Value} {x : Int32} : Wp d 25 35 [a0, a1, some (.int x), a3, a4] (st) w Q = Wp d 25 36 [a0, a1, some (.int x), a3, a4] (.int x :: st) w Q := Wp.loc e25_35 rfl rfl rfl
theorem e25_36 : decode (j_co 25) 36 = .ok (.iload_n 3, 1) := by decide +kernel
set_option maxRecDepth 20000 in
theorem w25_36 {d : Nat} {st : List Value} {Q : Option Value × jW → Prop} {w : jW} {a0 a1 a2 a4 : Option Value} {x : Int32} : Wp d 25 36 [a0, a1, a2, some (.int x), a4] (st) w Q = Wp d 25 37 [a0, a1, a2, some (.int x), a4] (.int x :: st) w Q := Wp.loc e25_36 rfl rfl rfl
theorem e25_37 : decode (j_co 25) 37 = .ok (.iload 4, 2) := by decide +kernel
set_option maxRecDepth 20000 in
theorem w25_37 {d : Nat} {st : List Value} {Q : Option Value × jW → Prop} {w : jW} {a0 a1 a2 a3 : Option Value} {x : Int32} : Wp d 25 37 [a0, a1, a2, a3, some (.int x)] (st) w Q = Wp d 25 39 [a0, a1, a2, a3, some (.int x)] (.int x :: st) w Q := Wp.loc e25_37 rfl rfl rfl
theorem e25_39 : decode (j_co 25) 39 = .ok (.invokevirtual 86, 3) := by decide +kernel
set_option maxRecDepth 20000 in
theorem w25_39 {d : Nat} {st : List Value} {Q : Option Value × jW → Prop} {ls : jL} {xs : List Value} {I : fI} {L : fL} {r : Nat} {x0 : Int32} {x1 : Int32} {x2 : Int32} (hs : j_sumc st ≤ 8) (ht : f_tg r = 0) : Wp (d + 1) 25 39 ls (.int x2 :: .int x1 :: .int x0 :: .ref r :: st) (f_W xs I L) Q = Wp d 5 0 [some (.ref r), some (.int x0), some (.int x1), some (.int x2)] [] (f_W xs I L) (fun r1 => Wp (d + 1) 25 42 ls (r1.1.toList ++ st) r1.2 Q) := Wp.cv (y' := 5) (as := [.int x0, .int x1, .int x2]) e25_39 rfl (by decide) rfl (show 4 ≤ 4 by decide) (by decide) hs ht
theorem e25_42 : decode (j_co 25) 42 = .ok (.iconst 1, 1) := by decide +kernel
set_option maxRecDepth 20000 in
theorem w25_42 {d : Nat} {st : List Value} {Q : Option Value × jW → Prop} {ls : jL} {w : jW} : Wp d 25 42 ls (st) w Q = Wp d 25 43 ls (.int (nI 1) :: st) w Q := Wp.alu e25_42 rfl rfl
theorem e25_43 : decode (j_co 25) 43 = .ok (.ireturn, 1) := by decide +kernel
set_option maxRecDepth 20000 in
theorem w25_43 {d : Nat} {Q : Option Value × jW → Prop} {ls : jL} {w : jW} {x : Int32} : Wp d 25 43 ls [.int x] w Q = Q (some (.int x), w) := Wp.ret e25_43 rfl
theorem e25_44 : decode (j_co 25) 44 = .ok (.aload_n 0, 1) := by decide +kernel
set_option maxRecDepth 20000 in
theorem w25_44 {d : Nat} {st : List Value} {Q : Option Value × jW → Prop} {w : jW} {a1 a2 a3 a4 : Option Value} {x : Nat} : Wp d 25 44 [some (.ref x), a1, a2, a3, a4] (st) w Q = Wp d 25 45 [some (.ref x), a1, a2, a3, a4] (.ref x :: st) w Q := Wp.loc e25_44 rfl rfl rfl
theorem e25_45 : decode (j_co 25) 45 = .ok (.getfield 21, 3) := by decide +kernel
set_option maxRecDepth 20000 in
theorem w25_45 {d : Nat} {st : List Value} {Q : Option Value × jW → Prop} {ls : jL} {xs : List Value} {I : fI} {L : fL} {o : Nat} (ht : f_tg o = 10) : Wp d 25 45 ls (.ref o :: st) (f_W xs I L) Q = Wp d 25 48 ls (.ref (f_rf o 1) :: st) (f_W xs I L) Q := Wp.getR (ci := 10) (k := 1) e25_45 rfl (by decide) (by decide) rfl ht
theorem e25_48 : decode (j_co 25) 48 = .ok (.invokevirtual 66, 3) := by decide +kernel
set_option maxRecDepth 20000 in
theorem w25_48 {d : Nat} {st : List Value} {Q : Option Value × jW → Prop} {ls : jL} {xs : List Value} {I : fI} {L : fL} {r : Nat} (hs : j_sumc st ≤ 8) (ht : f_tg r = 7) : Wp (d + 1) 25 48 ls (.ref r :: st) (f_W xs I L) Q = Wp d 14 0 [some (.ref r)] [] (f_W xs I L) (fun r1 => Wp (d + 1) 25 51 ls (r1.1.toList ++ st) r1.2 Q) := Wp.cv (y' := 14) (as := []) e25_48 rfl (by decide) rfl (show 1 ≤ 1 by decide) (by decide) hs ht
theorem e25_51 : decode (j_co 25) 51 = .ok (.aload_n 0, 1) := by decide +kernel
set_option maxRecDepth 20000 in
theorem w25_51 {d : Nat} {st : List Value} {Q : Option Value × jW → Prop} {w : jW} {a1 a2 a3 a4 : Option Value} {x : Nat} : Wp d 25 51 [some (.ref x), a1, a2, a3, a4] (st) w Q = Wp d 25 52 [some (.ref x), a1, a2, a3, a4] (.ref x :: st) w Q := Wp.loc e25_51 rfl rfl rfl
theorem e25_52 : decode (j_co 25) 52 = .ok (.getfield 10, 3) := by decide +kernel
set_option maxRecDepth 20000 in
theorem w25_52 {d : Nat} {st : List Value} {Q : Option Value × jW → Prop} {ls : jL} {xs : List Value} {I : fI} {L : fL} {o : Nat} (ht : f_tg o = 10) : Wp d 25 52 ls (.ref o :: st) (f_W xs I L) Q = Wp d 25 55 ls (.ref (f_rf o 0) :: st) (f_W xs I L) Q := Wp.getR (ci := 10) (k := 0) e25_52 rfl (by decide) (by decide) rfl ht
theorem e25_55 : decode (j_co 25) 55 = .ok (.getfield 130, 3) := by decide +kernel
set_option maxRecDepth 20000 in
theorem w25_55 {d : Nat} {st : List Value} {Q : Option Value × jW → Prop} {ls : jL} {xs : List Value} {I : fI} {L : fL} {o : Nat} (ht : f_tg o = 5) : Wp d 25 55 ls (.ref o :: st) (f_W xs I L) Q = Wp d 25 58 ls (.ref (f_rf o 2) :: st) (f_W xs I L) Q := Wp.getR (ci := 5) (k := 2) e25_55 rfl (by decide) (by decide) rfl ht
theorem e25_58 : decode (j_co 25) 58 = .ok (.iload_n 2, 1) := by decide +kernel
set_option maxRecDepth 20000 in
theorem w25_58 {d : Nat} {st : List Value} {Q : Option Value × jW → Prop} {w : jW} {a0 a1 a3 a4 : Option Value} {x : Int32} : Wp d 25 58 [a0, a1, some (.int x), a3, a4] (st) w Q = Wp d 25 59 [a0, a1, some (.int x), a3, a4] (.int x :: st) w Q := Wp.loc e25_58 rfl rfl rfl
theorem e25_59 : decode (j_co 25) 59 = .ok (.iload_n 3, 1) := by decide +kernel
set_option maxRecDepth 20000 in
theorem w25_59 {d : Nat} {st : List Value} {Q : Option Value × jW → Prop} {w : jW} {a0 a1 a2 a4 : Option Value} {x : Int32} : Wp d 25 59 [a0, a1, a2, some (.int x), a4] (st) w Q = Wp d 25 60 [a0, a1, a2, some (.int x), a4] (.int x :: st) w Q := Wp.loc e25_59 rfl rfl rfl
theorem e25_60 : decode (j_co 25) 60 = .ok (.iload 4, 2) := by decide +kernel
set_option maxRecDepth 20000 in
theorem w25_60 {d : Nat} {st : List Value} {Q : Option Value × jW → Prop} {w : jW} {a0 a1 a2 a3 : Option Value} {x : Int32} : Wp d 25 60 [a0, a1, a2, a3, some (.int x)] (st) w Q = Wp d 25 62 [a0, a1, a2, a3, some (.int x)] (.int x :: st) w Q := Wp.loc e25_60 rfl rfl rfl
theorem e25_62 : decode (j_co 25) 62 = .ok (.invokevirtual 86, 3) := by decide +kernel
set_option maxRecDepth 20000 in
theorem w25_62 {d : Nat} {st : List Value} {Q : Option Value × jW → Prop} {ls : jL} {xs : List Value} {I : fI} {L : fL} {r : Nat} {x0 : Int32} {x1 : Int32} {x2 : Int32} (hs : j_sumc st ≤ 8) (ht : f_tg r = 0) : Wp (d + 1) 25 62 ls (.int x2 :: .int x1 :: .int x0 :: .ref r :: st) (f_W xs I L) Q = Wp d 5 0 [some (.ref r), some (.int x0), some (.int x1), some (.int x2)] [] (f_W xs I L) (fun r1 => Wp (d + 1) 25 65 ls (r1.1.toList ++ st) r1.2 Q) := Wp.cv (y' := 5) (as := [.int x0, .int x1, .int x2]) e25_62 rfl (by decide) rfl (show 4 ≤ 4 by decide) (by decide) hs ht
theorem e25_65 : decode (j_co 25) 65 = .ok (.iconst 1, 1) := by decide +kernel
set_option maxRecDepth 20000 in
theorem w25_65 {d : Nat} {st : List Value} {Q : Option Value × jW → Prop} {ls : jL} {w : jW} : Wp d 25 65 ls (st) w Q = Wp d 25 66 ls (.int (nI 1) :: st) w Q := Wp.alu e25_65 rfl rfl
theorem e25_66 : decode (j_co 25) 66 = .ok (.ireturn, 1) := by decide +kernel
set_option maxRecDepth 20000 in
theorem w25_66 {d : Nat} {Q : Option Value × jW → Prop} {ls : jL} {w : jW} {x : Int32} : Wp d 25 66 ls [.int x] w Q = Q (some (.int x), w) := Wp.ret e25_66 rfl
/-! X.wrong -/
theorem e26_0 : decode (j_co 26) 0 = .ok (.iload_n 1, 1) := by decide +kernel
set_option maxRecDepth 20000 in
theorem w26_0 {d : Nat} {st : List Value} {Q : Option Value × jW → Prop} {w : jW} {a0 a2 : Option Value} {x : Int32} : Wp d 26 0 [a0, some (.int x), a2] (st) w Q = Wp d 26 1 [a0, some (.int x), a2] (.int x :: st) w Q := Wp.loc e26_0 rfl rfl rfl
theorem e26_1 : decode (j_co 26) 1 = .ok (.bipush (-4), 2) := by decide +kernel
set_option maxRecDepth 20000 in
theorem w26_1 {d : Nat} {st : List Value} {Q : Option Value × jW → Prop} {ls : jL} {w : jW} : Wp d 26 1 ls (st) w Q = Wp d 26 3 ls (.int (-4) :: st) w Q := Wp.alu e26_1 rfl rfl
theorem e26_3 : decode (j_co 26) 3 = .ok (.if_icmp .eq 15, 3) := by decide +kernel
set_option maxRecDepth 20000 in
theorem w26_3 {d : Nat} {st : List Value} {Q : Option Value × jW → Prop} {ls : jL} {w : jW} {a b : Int32} : Wp d 26 3 ls (.int b :: .int a :: st) w Q = ((a = b → Wp d 26 18 ls st w Q) ∧ (¬ a = b → Wp d 26 6 ls st w Q)) := Wp.if2 (c := a = b) (off := 15) e26_3 rfl rfl rfl rfl rfl
theorem e26_6 : decode (j_co 26) 6 = .ok (.iload_n 1, 1) := by decide +kernel
set_option maxRecDepth 20000 in
theorem w26_6 {d : Nat} {st : List Value} {Q : Option Value × jW → Prop} {w : jW} {a0 a2 : Option Value} {x : Int32} : Wp d 26 6 [a0, some (.int x), a2] (st) w Q = Wp d 26 7 [a0, some (.int x), a2] (.int x :: st) w Q := Wp.loc e26_6 rfl rfl rfl
theorem e26_7 : decode (j_co 26) 7 = .ok (.ifCond .lt 9, 3) := by decide +kernel
set_option maxRecDepth 20000 in
theorem w26_7 {d : Nat} {st : List Value} {Q : Option Value × jW → Prop} {ls : jL} {w : jW} {a : Int32} : Wp d 26 7 ls (.int a :: st) w Q = ((a < nI 0 → Wp d 26 16 ls st w Q) ∧ (¬ a < nI 0 → Wp d 26 10 ls st w Q)) := Wp.if2 (c := a < nI 0) (off := 9) e26_7 rfl rfl rfl rfl rfl
theorem e26_10 : decode (j_co 26) 10 = .ok (.iload_n 1, 1) := by decide +kernel
set_option maxRecDepth 20000 in
theorem w26_10 {d : Nat} {st : List Value} {Q : Option Value × jW → Prop} {w : jW} {a0 a2 : Option Value} {x : Int32} : Wp d 26 10 [a0, some (.int x), a2] (st) w Q = Wp d 26 11 [a0, some (.int x), a2] (.int x :: st) w Q := Wp.loc e26_10 rfl rfl rfl
theorem e26_11 : decode (j_co 26) 11 = .ok (.bipush 6, 2) := by decide +kernel
set_option maxRecDepth 20000 in
theorem w26_11 {d : Nat} {st : List Value} {Q : Option Value × jW → Prop} {ls : jL} {w : jW} : Wp d 26 11 ls (st) w Q = Wp d 26 13 ls (.int (nI 6) :: st) w Q := Wp.alu e26_11 rfl rfl
theorem e26_13 : decode (j_co 26) 13 = .ok (.if_icmp .lt 5, 3) := by decide +kernel
set_option maxRecDepth 20000 in
theorem w26_13 {d : Nat} {st : List Value} {Q : Option Value × jW → Prop} {ls : jL} {w : jW} {a b : Int32} : Wp d 26 13 ls (.int b :: .int a :: st) w Q = ((a < b → Wp d 26 18 ls st w Q) ∧ (¬ a < b → Wp d 26 16 ls st w Q)) := Wp.if2 (c := a < b) (off := 5) e26_13 rfl rfl rfl rfl rfl
theorem e26_16 : decode (j_co 26) 16 = .ok (.iconst (-1), 1) := by decide +kernel
set_option maxRecDepth 20000 in
theorem w26_16 {d : Nat} {st : List Value} {Q : Option Value × jW → Prop} {ls : jL} {w : jW} : Wp d 26 16 ls (st) w Q = Wp d 26 17 ls (.int (-1) :: st) w Q := Wp.alu e26_16 rfl rfl
theorem e26_17 : decode (j_co 26) 17 = .ok (.ireturn, 1) := by decide +kernel
set_option maxRecDepth 20000 in
theorem w26_17 {d : Nat} {Q : Option Value × jW → Prop} {ls : jL} {w : jW} {x : Int32} : Wp d 26 17 ls [.int x] w Q = Q (some (.int x), w) := Wp.ret e26_17 rfl
theorem e26_18 : decode (j_co 26) 18 = .ok (.aload_n 0, 1) := by decide +kernel
set_option maxRecDepth 20000 in
theorem w26_18 {d : Nat} {st : List Value} {Q : Option Value × jW → Prop} {w : jW} {a1 a2 : Option Value} {x : Nat} : Wp d 26 18 [some (.ref x), a1, a2] (st) w Q = Wp d 26 19 [some (.ref x), a1, a2] (.ref x :: st) w Q := Wp.loc e26_18 rfl rfl rfl
theorem e26_19 : decode (j_co 26) 19 = .ok (.getfield 10, 3) := by decide +kernel
set_option maxRecDepth 20000 in
theorem w26_19 {d : Nat} {st : List Value} {Q : Option Value × jW → Prop} {ls : jL} {xs : List Value} {I : fI} {L : fL} {o : Nat} (ht : f_tg o = 10) : Wp d 26 19 ls (.ref o :: st) (f_W xs I L) Q = Wp d 26 22 ls (.ref (f_rf o 0) :: st) (f_W xs I L) Q := Wp.getR (ci := 10) (k := 0) e26_19 rfl (by decide) (by decide) rfl ht
theorem e26_22 : decode (j_co 26) 22 = .ok (.getfield 133, 3) := by decide +kernel
set_option maxRecDepth 20000 in
theorem w26_22 {d : Nat} {st : List Value} {Q : Option Value × jW → Prop} {ls : jL} {xs : List Value} {I : fI} {L : fL} {o : Nat} (ht : f_tg o = 5) : Wp d 26 22 ls (.ref o :: st) (f_W xs I L) Q = Wp d 26 25 ls (.int (I o 7) :: st) (f_W xs I L) Q := Wp.getI (ci := 5) (k := 7) e26_22 rfl (by decide) (by decide) (by decide) ht
theorem e26_25 : decode (j_co 26) 25 = .ok (.istore_n 2, 1) := by decide +kernel
set_option maxRecDepth 20000 in
theorem w26_25 {d : Nat} {st : List Value} {Q : Option Value × jW → Prop} {w : jW} {a0 a1 a2 : Option Value} {x : Int32} (h : j_cp a1) : Wp d 26 25 [a0, a1, a2] (.int x :: st) w Q = Wp d 26 26 [a0, a1, some (.int x)] (st) w Q := Wp.loc e26_25 rfl rfl (v_stI (ls := [a0, a1, a2]) (k := 2) (show 2 < 3 by decide) h)
theorem e26_26 : decode (j_co 26) 26 = .ok (.aload_n 0, 1) := by decide +kernel
set_option maxRecDepth 20000 in
theorem w26_26 {d : Nat} {st : List Value} {Q : Option Value × jW → Prop} {w : jW} {a1 a2 : Option Value} {x : Nat} : Wp d 26 26 [some (.ref x), a1, a2] (st) w Q = Wp d 26 27 [some (.ref x), a1, a2] (.ref x :: st) w Q := Wp.loc e26_26 rfl rfl rfl
theorem e26_27 : decode (j_co 26) 27 = .ok (.getfield 10, 3) := by decide +kernel
set_option maxRecDepth 20000 in
theorem w26_27 {d : Nat} {st : List Value} {Q : Option Value × jW → Prop} {ls : jL} {xs : List Value} {I : fI} {L : fL} {o : Nat} (ht : f_tg o = 10) : Wp d 26 27 ls (.ref o :: st) (f_W xs I L) Q = Wp d 26 30 ls (.ref (f_rf o 0) :: st) (f_W xs I L) Q := Wp.getR (ci := 10) (k := 0) e26_27 rfl (by decide) (by decide) rfl ht
theorem e26_30 : decode (j_co 26) 30 = .ok (.iload_n 1, 1) := by decide +kernel
set_option maxRecDepth 20000 in
theorem w26_30 {d : Nat} {st : List Value} {Q : Option Value × jW → Prop} {w : jW} {a0 a2 : Option Value} {x : Int32} : Wp d 26 30 [a0, some (.int x), a2] (st) w Q = Wp d 26 31 [a0, some (.int x), a2] (.int x :: st) w Q := Wp.loc e26_30 rfl rfl rfl
theorem e26_31 : decode (j_co 26) 31 = .ok (.putfield 133, 3) := by decide +kernel
set_option maxRecDepth 20000 in
theorem w26_31 {d : Nat} {st : List Value} {Q : Option Value × jW → Prop} {ls : jL} {xs : List Value} {I : fI} {L : fL} {o : Nat} {x : Int32} (ht : f_tg o = 5) : Wp d 26 31 ls (.int x :: .ref o :: st) (f_W xs I L) Q = Wp d 26 34 ls (st) (f_W xs (f_up I o 7 x) L) Q := Wp.putI (ci := 5) (k := 7) e26_31 rfl (by decide) (by decide) rfl (by decide) ht
theorem e26_34 : decode (j_co 26) 34 = .ok (.iload_n 2, 1) := by decide +kernel
set_option maxRecDepth 20000 in
theorem w26_34 {d : Nat} {st : List Value} {Q : Option Value × jW → Prop} {w : jW} {a0 a1 : Option Value} {x : Int32} : Wp d 26 34 [a0, a1, some (.int x)] (st) w Q = Wp d 26 35 [a0, a1, some (.int x)] (.int x :: st) w Q := Wp.loc e26_34 rfl rfl rfl
theorem e26_35 : decode (j_co 26) 35 = .ok (.ireturn, 1) := by decide +kernel
set_option maxRecDepth 20000 in
theorem w26_35 {d : Nat} {Q : Option Value × jW → Prop} {ls : jL} {w : jW} {x : Int32} : Wp d 26 35 ls [.int x] w Q = Q (some (.int x), w) := Wp.ret e26_35 rfl
/-! X.most -/
theorem e27_0 : decode (j_co 27) 0 = .ok (.iload_n 1, 1) := by decide +kernel
set_option maxRecDepth 20000 in
theorem w27_0 {d : Nat} {st : List Value} {Q : Option Value × jW → Prop} {w : jW} {a0 a2 : Option Value} {x : Int32} : Wp d 27 0 [a0, some (.int x), a2] (st) w Q = Wp d 27 1 [a0, some (.int x), a2] (.int x :: st) w Q := Wp.loc e27_0 rfl rfl rfl
theorem e27_1 : decode (j_co 27) 1 = .ok (.iconst 1, 1) := by decide +kernel
set_option maxRecDepth 20000 in
theorem w27_1 {d : Nat} {st : List Value} {Q : Option Value × jW → Prop} {ls : jL} {w : jW} : Wp d 27 1 ls (st) w Q = Wp d 27 2 ls (.int (nI 1) :: st) w Q := Wp.alu e27_1 rfl rfl
theorem e27_2 : decode (j_co 27) 2 = .ok (.if_icmp .lt 9, 3) := by decide +kernel
set_option maxRecDepth 20000 in
theorem w27_2 {d : Nat} {st : List Value} {Q : Option Value × jW → Prop} {ls : jL} {w : jW} {a b : Int32} : Wp d 27 2 ls (.int b :: .int a :: st) w Q = ((a < b → Wp d 27 11 ls st w Q) ∧ (¬ a < b → Wp d 27 5 ls st w Q)) := Wp.if2 (c := a < b) (off := 9) e27_2 rfl rfl rfl rfl rfl
theorem e27_5 : decode (j_co 27) 5 = .ok (.iload_n 1, 1) := by decide +kernel
set_option maxRecDepth 20000 in
theorem w27_5 {d : Nat} {st : List Value} {Q : Option Value × jW → Prop} {w : jW} {a0 a2 : Option Value} {x : Int32} : Wp d 27 5 [a0, some (.int x), a2] (st) w Q = Wp d 27 6 [a0, some (.int x), a2] (.int x :: st) w Q := Wp.loc e27_5 rfl rfl rfl
theorem e27_6 : decode (j_co 27) 6 = .ok (.bipush 12, 2) := by decide +kernel
set_option maxRecDepth 20000 in
theorem w27_6 {d : Nat} {st : List Value} {Q : Option Value × jW → Prop} {ls : jL} {w : jW} : Wp d 27 6 ls (st) w Q = Wp d 27 8 ls (.int (nI 12) :: st) w Q := Wp.alu e27_6 rfl rfl
theorem e27_8 : decode (j_co 27) 8 = .ok (.if_icmp .le 5, 3) := by decide +kernel
set_option maxRecDepth 20000 in
theorem w27_8 {d : Nat} {st : List Value} {Q : Option Value × jW → Prop} {ls : jL} {w : jW} {a b : Int32} : Wp d 27 8 ls (.int b :: .int a :: st) w Q = ((a ≤ b → Wp d 27 13 ls st w Q) ∧ (¬ a ≤ b → Wp d 27 11 ls st w Q)) := Wp.if2 (c := a ≤ b) (off := 5) e27_8 rfl rfl rfl rfl rfl
theorem e27_11 : decode (j_co 27) 11 = .ok (.iconst (-1), 1) := by decide +kernel
set_option maxRecDepth 20000 in
theorem w27_11 {d : Nat} {st : List Value} {Q : Option Value × jW → Prop} {ls : jL} {w : jW} : Wp d 27 11 ls (st) w Q = Wp d 27 12 ls (.int (-1) :: st) w Q := Wp.alu e27_11 rfl rfl
theorem e27_12 : decode (j_co 27) 12 = .ok (.ireturn, 1) := by decide +kernel
set_option maxRecDepth 20000 in
theorem w27_12 {d : Nat} {Q : Option Value × jW → Prop} {ls : jL} {w : jW} {x : Int32} : Wp d 27 12 ls [.int x] w Q = Q (some (.int x), w) := Wp.ret e27_12 rfl
theorem e27_13 : decode (j_co 27) 13 = .ok (.aload_n 0, 1) := by decide +kernel
set_option maxRecDepth 20000 in
theorem w27_13 {d : Nat} {st : List Value} {Q : Option Value × jW → Prop} {w : jW} {a1 a2 : Option Value} {x : Nat} : Wp d 27 13 [some (.ref x), a1, a2] (st) w Q = Wp d 27 14 [some (.ref x), a1, a2] (.ref x :: st) w Q := Wp.loc e27_13 rfl rfl rfl
theorem e27_14 : decode (j_co 27) 14 = .ok (.getfield 21, 3) := by decide +kernel
set_option maxRecDepth 20000 in
theorem w27_14 {d : Nat} {st : List Value} {Q : Option Value × jW → Prop} {ls : jL} {xs : List Value} {I : fI} {L : fL} {o : Nat} (ht : f_tg o = 10) : Wp d 27 14 ls (.ref o :: st) (f_W xs I L) Q = Wp d 27 17 ls (.ref (f_rf o 1) :: st) (f_W xs I L) Q := Wp.getR (ci := 10) (k := 1) e27_14 rfl (by decide) (by decide) rfl ht
theorem e27_17 : decode (j_co 27) 17 = .ok (.getfield 136, 3) := by decide +kernel
set_option maxRecDepth 20000 in
theorem w27_17 {d : Nat} {st : List Value} {Q : Option Value × jW → Prop} {ls : jL} {xs : List Value} {I : fI} {L : fL} {o : Nat} (ht : f_tg o = 7) : Wp d 27 17 ls (.ref o :: st) (f_W xs I L) Q = Wp d 27 20 ls (.int (I o 5) :: st) (f_W xs I L) Q := Wp.getI (ci := 7) (k := 5) e27_17 rfl (by decide) (by decide) (by decide) ht
theorem e27_20 : decode (j_co 27) 20 = .ok (.istore_n 2, 1) := by decide +kernel
set_option maxRecDepth 20000 in
theorem w27_20 {d : Nat} {st : List Value} {Q : Option Value × jW → Prop} {w : jW} {a0 a1 a2 : Option Value} {x : Int32} (h : j_cp a1) : Wp d 27 20 [a0, a1, a2] (.int x :: st) w Q = Wp d 27 21 [a0, a1, some (.int x)] (st) w Q := Wp.loc e27_20 rfl rfl (v_stI (ls := [a0, a1, a2]) (k := 2) (show 2 < 3 by decide) h)
theorem e27_21 : decode (j_co 27) 21 = .ok (.aload_n 0, 1) := by decide +kernel
set_option maxRecDepth 20000 in
theorem w27_21 {d : Nat} {st : List Value} {Q : Option Value × jW → Prop} {w : jW} {a1 a2 : Option Value} {x : Nat} : Wp d 27 21 [some (.ref x), a1, a2] (st) w Q = Wp d 27 22 [some (.ref x), a1, a2] (.ref x :: st) w Q := Wp.loc e27_21 rfl rfl rfl
theorem e27_22 : decode (j_co 27) 22 = .ok (.getfield 21, 3) := by decide +kernel
set_option maxRecDepth 20000 in
theorem w27_22 {d : Nat} {st : List Value} {Q : Option Value × jW → Prop} {ls : jL} {xs : List Value} {I : fI} {L : fL} {o : Nat} (ht : f_tg o = 10) : Wp d 27 22 ls (.ref o :: st) (f_W xs I L) Q = Wp d 27 25 ls (.ref (f_rf o 1) :: st) (f_W xs I L) Q := Wp.getR (ci := 10) (k := 1) e27_22 rfl (by decide) (by decide) rfl ht
theorem e27_25 : decode (j_co 27) 25 = .ok (.invokevirtual 66, 3) := by decide +kernel
set_option maxRecDepth 20000 in
theorem w27_25 {d : Nat} {st : List Value} {Q : Option Value × jW → Prop} {ls : jL} {xs : List Value} {I : fI} {L : fL} {r : Nat} (hs : j_sumc st ≤ 8) (ht : f_tg r = 7) : Wp (d + 1) 27 25 ls (.ref r :: st) (f_W xs I L) Q = Wp d 14 0 [some (.ref r)] [] (f_W xs I L) (fun r1 => Wp (d + 1) 27 28 ls (r1.1.toList ++ st) r1.2 Q) := Wp.cv (y' := 14) (as := []) e27_25 rfl (by decide) rfl (show 1 ≤ 1 by decide) (by decide) hs ht
theorem e27_28 : decode (j_co 27) 28 = .ok (.aload_n 0, 1) := by decide +kernel
set_option maxRecDepth 20000 in
theorem w27_28 {d : Nat} {st : List Value} {Q : Option Value × jW → Prop} {w : jW} {a1 a2 : Option Value} {x : Nat} : Wp d 27 28 [some (.ref x), a1, a2] (st) w Q = Wp d 27 29 [some (.ref x), a1, a2] (.ref x :: st) w Q := Wp.loc e27_28 rfl rfl rfl
theorem e27_29 : decode (j_co 27) 29 = .ok (.getfield 21, 3) := by decide +kernel
set_option maxRecDepth 20000 in
theorem w27_29 {d : Nat} {st : List Value} {Q : Option Value × jW → Prop} {ls : jL} {xs : List Value} {I : fI} {L : fL} {o : Nat} (ht : f_tg o = 10) : Wp d 27 29 ls (.ref o :: st) (f_W xs I L) Q = Wp d 27 32 ls (.ref (f_rf o 1) :: st) (f_W xs I L) Q := Wp.getR (ci := 10) (k := 1) e27_29 rfl (by decide) (by decide) rfl ht
theorem e27_32 : decode (j_co 27) 32 = .ok (.iload_n 1, 1) := by decide +kernel
set_option maxRecDepth 20000 in
theorem w27_32 {d : Nat} {st : List Value} {Q : Option Value × jW → Prop} {w : jW} {a0 a2 : Option Value} {x : Int32} : Wp d 27 32 [a0, some (.int x), a2] (st) w Q = Wp d 27 33 [a0, some (.int x), a2] (.int x :: st) w Q := Wp.loc e27_32 rfl rfl rfl
theorem e27_33 : decode (j_co 27) 33 = .ok (.putfield 136, 3) := by decide +kernel
set_option maxRecDepth 20000 in
theorem w27_33 {d : Nat} {st : List Value} {Q : Option Value × jW → Prop} {ls : jL} {xs : List Value} {I : fI} {L : fL} {o : Nat} {x : Int32} (ht : f_tg o = 7) : Wp d 27 33 ls (.int x :: .ref o :: st) (f_W xs I L) Q = Wp d 27 36 ls (st) (f_W xs (f_up I o 5 x) L) Q := Wp.putI (ci := 7) (k := 5) e27_33 rfl (by decide) (by decide) rfl (by decide) ht
theorem e27_36 : decode (j_co 27) 36 = .ok (.iload_n 2, 1) := by decide +kernel
set_option maxRecDepth 20000 in
theorem w27_36 {d : Nat} {st : List Value} {Q : Option Value × jW → Prop} {w : jW} {a0 a1 : Option Value} {x : Int32} : Wp d 27 36 [a0, a1, some (.int x)] (st) w Q = Wp d 27 37 [a0, a1, some (.int x)] (.int x :: st) w Q := Wp.loc e27_36 rfl rfl rfl
theorem e27_37 : decode (j_co 27) 37 = .ok (.ireturn, 1) := by decide +kernel
set_option maxRecDepth 20000 in
theorem w27_37 {d : Nat} {Q : Option Value × jW → Prop} {ls : jL} {w : jW} {x : Int32} : Wp d 27 37 ls [.int x] w Q = Q (some (.int x), w) := Wp.ret e27_37 rfl
/-! X.safe -/
theorem e28_0 : decode (j_co 28) 0 = .ok (.aload_n 0, 1) := by decide +kernel
set_option maxRecDepth 20000 in
theorem w28_0 {d : Nat} {st : List Value} {Q : Option Value × jW → Prop} {w : jW} {x : Nat} : Wp d 28 0 [some (.ref x)] (st) w Q = Wp d 28 1 [some (.ref x)] (.ref x :: st) w Q := Wp.loc e28_0 rfl rfl rfl
theorem e28_1 : decode (j_co 28) 1 = .ok (.getfield 21, 3) := by decide +kernel
set_option maxRecDepth 20000 in
theorem w28_1 {d : Nat} {st : List Value} {Q : Option Value × jW → Prop} {ls : jL} {xs : List Value} {I : fI} {L : fL} {o : Nat} (ht : f_tg o = 10) : Wp d 28 1 ls (.ref o :: st) (f_W xs I L) Q = Wp d 28 4 ls (.ref (f_rf o 1) :: st) (f_W xs I L) Q := Wp.getR (ci := 10) (k := 1) e28_1 rfl (by decide) (by decide) rfl ht
theorem e28_4 : decode (j_co 28) 4 = .ok (.invokevirtual 139, 3) := by decide +kernel
set_option maxRecDepth 20000 in
theorem w28_4 {d : Nat} {st : List Value} {Q : Option Value × jW → Prop} {ls : jL} {xs : List Value} {I : fI} {L : fL} {r : Nat} (hs : j_sumc st ≤ 8) (ht : f_tg r = 7) : Wp (d + 1) 28 4 ls (.ref r :: st) (f_W xs I L) Q = Wp d 29 0 [some (.ref r)] [] (f_W xs I L) (fun r1 => Wp (d + 1) 28 7 ls (r1.1.toList ++ st) r1.2 Q) := Wp.cv (y' := 29) (as := []) e28_4 rfl (by decide) rfl (show 1 ≤ 1 by decide) (by decide) hs ht
theorem e28_7 : decode (j_co 28) 7 = .ok (.aload_n 0, 1) := by decide +kernel
set_option maxRecDepth 20000 in
theorem w28_7 {d : Nat} {st : List Value} {Q : Option Value × jW → Prop} {w : jW} {x : Nat} : Wp d 28 7 [some (.ref x)] (st) w Q = Wp d 28 8 [some (.ref x)] (.ref x :: st) w Q := Wp.loc e28_7 rfl rfl rfl
theorem e28_8 : decode (j_co 28) 8 = .ok (.getfield 21, 3) := by decide +kernel
set_option maxRecDepth 20000 in
theorem w28_8 {d : Nat} {st : List Value} {Q : Option Value × jW → Prop} {ls : jL} {xs : List Value} {I : fI} {L : fL} {o : Nat} (ht : f_tg o = 10) : Wp d 28 8 ls (.ref o :: st) (f_W xs I L) Q = Wp d 28 11 ls (.ref (f_rf o 1) :: st) (f_W xs I L) Q := Wp.getR (ci := 10) (k := 1) e28_8 rfl (by decide) (by decide) rfl ht
theorem e28_11 : decode (j_co 28) 11 = .ok (.invokevirtual 142, 3) := by decide +kernel
set_option maxRecDepth 20000 in
theorem w28_11 {d : Nat} {st : List Value} {Q : Option Value × jW → Prop} {ls : jL} {xs : List Value} {I : fI} {L : fL} {r : Nat} (hs : j_sumc st ≤ 8) (ht : f_tg r = 7) : Wp (d + 1) 28 11 ls (.ref r :: st) (f_W xs I L) Q = Wp d 51 0 [some (.ref r), none, none] [] (f_W xs I L) (fun r1 => Wp (d + 1) 28 14 ls (r1.1.toList ++ st) r1.2 Q) := Wp.cv (y' := 51) (as := []) e28_11 rfl (by decide) rfl (show 1 ≤ 3 by decide) (by decide) hs ht
theorem e28_14 : decode (j_co 28) 14 = .ok (.ireturn, 1) := by decide +kernel
set_option maxRecDepth 20000 in
theorem w28_14 {d : Nat} {Q : Option Value × jW → Prop} {ls : jL} {w : jW} {x : Int32} : Wp d 28 14 ls [.int x] w Q = Q (some (.int x), w) := Wp.ret e28_14 rfl
/-! X.heap -/
theorem e54_0 : decode (j_co 54) 0 = .ok (.aload_n 0, 1) := by decide +kernel
set_option maxRecDepth 20000 in
theorem w54_0 {d : Nat} {st : List Value} {Q : Option Value × jW → Prop} {w : jW} {a1 a2 a3 : Option Value} {x : Nat} : Wp d 54 0 [some (.ref x), a1, a2, a3] (st) w Q = Wp d 54 1 [some (.ref x), a1, a2, a3] (.ref x :: st) w Q := Wp.loc e54_0 rfl rfl rfl
theorem e54_1 : decode (j_co 54) 1 = .ok (.getfield 21, 3) := by decide +kernel
set_option maxRecDepth 20000 in
theorem w54_1 {d : Nat} {st : List Value} {Q : Option Value × jW → Prop} {ls : jL} {xs : List Value} {I : fI} {L : fL} {o : Nat} (ht : f_tg o = 10) : Wp d 54 1 ls (.ref o :: st) (f_W xs I L) Q = Wp d 54 4 ls (.ref (f_rf o 1) :: st) (f_W xs I L) Q := Wp.getR (ci := 10) (k := 1) e54_1 rfl (by decide) (by decide) rfl ht
theorem e54_4 : decode (j_co 54) 4 = .ok (.invokevirtual 139, 3) := by decide +kernel
set_option maxRecDepth 20000 in
theorem w54_4 {d : Nat} {st : List Value} {Q : Option Value × jW → Prop} {ls : jL} {xs : List Value} {I : fI} {L : fL} {r : Nat} (hs : j_sumc st ≤ 8) (ht : f_tg r = 7) : Wp (d + 1) 54 4 ls (.ref r :: st) (f_W xs I L) Q = Wp d 29 0 [some (.ref r)] [] (f_W xs I L) (fun r1 => Wp (d + 1) 54 7 ls (r1.1.toList ++ st) r1.2 Q) := Wp.cv (y' := 29) (as := []) e54_4 rfl (by decide) rfl (show 1 ≤ 1 by decide) (by decide) hs ht
theorem e54_7 : decode (j_co 54) 7 = .ok (.aload_n 0, 1) := by decide +kernel
set_option maxRecDepth 20000 in
theorem w54_7 {d : Nat} {st : List Value} {Q : Option Value × jW → Prop} {w : jW} {a1 a2 a3 : Option Value} {x : Nat} : Wp d 54 7 [some (.ref x), a1, a2, a3] (st) w Q = Wp d 54 8 [some (.ref x), a1, a2, a3] (.ref x :: st) w Q := Wp.loc e54_7 rfl rfl rfl
theorem e54_8 : decode (j_co 54) 8 = .ok (.getfield 21, 3) := by decide +kernel
set_option maxRecDepth 20000 in
theorem w54_8 {d : Nat} {st : List Value} {Q : Option Value × jW → Prop} {ls : jL} {xs : List Value} {I : fI} {L : fL} {o : Nat} (ht : f_tg o = 10) : Wp d 54 8 ls (.ref o :: st) (f_W xs I L) Q = Wp d 54 11 ls (.ref (f_rf o 1) :: st) (f_W xs I L) Q := Wp.getR (ci := 10) (k := 1) e54_8 rfl (by decide) (by decide) rfl ht
theorem e54_11 : decode (j_co 54) 11 = .ok (.iload_n 1, 1) := by decide +kernel
set_option maxRecDepth 20000 in
theorem w54_11 {d : Nat} {st : List Value} {Q : Option Value × jW → Prop} {w : jW} {a0 a2 a3 : Option Value} {x : Int32} : Wp d 54 11 [a0, some (.int x), a2, a3] (st) w Q = Wp d 54 12 [a0, some (.int x), a2, a3] (.int x :: st) w Q := Wp.loc e54_11 rfl rfl rfl
theorem e54_12 : decode (j_co 54) 12 = .ok (.invokevirtual 146, 3) := by decide +kernel
set_option maxRecDepth 20000 in
theorem w54_12 {d : Nat} {st : List Value} {Q : Option Value × jW → Prop} {ls : jL} {xs : List Value} {I : fI} {L : fL} {r : Nat} {x0 : Int32} (hs : j_sumc st ≤ 8) (ht : f_tg r = 7) : Wp (d + 1) 54 12 ls (.int x0 :: .ref r :: st) (f_W xs I L) Q = Wp d 50 0 [some (.ref r), some (.int x0)] [] (f_W xs I L) (fun r1 => Wp (d + 1) 54 15 ls (r1.1.toList ++ st) r1.2 Q) := Wp.cv (y' := 50) (as := [.int x0]) e54_12 rfl (by decide) rfl (show 2 ≤ 2 by decide) (by decide) hs ht
theorem e54_15 : decode (j_co 54) 15 = .ok (.ifCond .ne 5, 3) := by decide +kernel
set_option maxRecDepth 20000 in
theorem w54_15 {d : Nat} {st : List Value} {Q : Option Value × jW → Prop} {ls : jL} {w : jW} {a : Int32} : Wp d 54 15 ls (.int a :: st) w Q = ((a = nI 0 → Wp d 54 18 ls st w Q) ∧ (¬ a = nI 0 → Wp d 54 20 ls st w Q)) := Wp.if2n (c := a = nI 0) (off := 5) e54_15 rfl rfl rfl rfl rfl
theorem e54_18 : decode (j_co 54) 18 = .ok (.iconst (-1), 1) := by decide +kernel
set_option maxRecDepth 20000 in
theorem w54_18 {d : Nat} {st : List Value} {Q : Option Value × jW → Prop} {ls : jL} {w : jW} : Wp d 54 18 ls (st) w Q = Wp d 54 19 ls (.int (-1) :: st) w Q := Wp.alu e54_18 rfl rfl
theorem e54_19 : decode (j_co 54) 19 = .ok (.ireturn, 1) := by decide +kernel
set_option maxRecDepth 20000 in
theorem w54_19 {d : Nat} {Q : Option Value × jW → Prop} {ls : jL} {w : jW} {x : Int32} : Wp d 54 19 ls [.int x] w Q = Q (some (.int x), w) := Wp.ret e54_19 rfl
theorem e54_20 : decode (j_co 54) 20 = .ok (.aload_n 0, 1) := by decide +kernel
set_option maxRecDepth 20000 in
theorem w54_20 {d : Nat} {st : List Value} {Q : Option Value × jW → Prop} {w : jW} {a1 a2 a3 : Option Value} {x : Nat} : Wp d 54 20 [some (.ref x), a1, a2, a3] (st) w Q = Wp d 54 21 [some (.ref x), a1, a2, a3] (.ref x :: st) w Q := Wp.loc e54_20 rfl rfl rfl
theorem e54_21 : decode (j_co 54) 21 = .ok (.getfield 21, 3) := by decide +kernel
set_option maxRecDepth 20000 in
theorem w54_21 {d : Nat} {st : List Value} {Q : Option Value × jW → Prop} {ls : jL} {xs : List Value} {I : fI} {L : fL} {o : Nat} (ht : f_tg o = 10) : Wp d 54 21 ls (.ref o :: st) (f_W xs I L) Q = Wp d 54 24 ls (.ref (f_rf o 1) :: st) (f_W xs I L) Q := Wp.getR (ci := 10) (k := 1) e54_21 rfl (by decide) (by decide) rfl ht
theorem e54_24 : decode (j_co 54) 24 = .ok (.getfield 149, 3) := by decide +kernel
set_option maxRecDepth 20000 in
theorem w54_24 {d : Nat} {st : List Value} {Q : Option Value × jW → Prop} {ls : jL} {xs : List Value} {I : fI} {L : fL} {o : Nat} (ht : f_tg o = 7) : Wp d 54 24 ls (.ref o :: st) (f_W xs I L) Q = Wp d 54 27 ls (.ref (f_rf o 1) :: st) (f_W xs I L) Q := Wp.getR (ci := 7) (k := 1) e54_24 rfl (by decide) (by decide) rfl ht
theorem e54_27 : decode (j_co 54) 27 = .ok (.iload_n 1, 1) := by decide +kernel
set_option maxRecDepth 20000 in
theorem w54_27 {d : Nat} {st : List Value} {Q : Option Value × jW → Prop} {w : jW} {a0 a2 a3 : Option Value} {x : Int32} : Wp d 54 27 [a0, some (.int x), a2, a3] (st) w Q = Wp d 54 28 [a0, some (.int x), a2, a3] (.int x :: st) w Q := Wp.loc e54_27 rfl rfl rfl
theorem e54_28 : decode (j_co 54) 28 = .ok (.aaload, 1) := by decide +kernel
set_option maxRecDepth 20000 in
theorem w54_28 {d : Nat} {st : List Value} {Q : Option Value × jW → Prop} {ls : jL} {xs : List Value} {I : fI} {L : fL} {o : Nat} {i : Int32} (ht : 103 ≤ f_tg o ∧ f_tg o ≤ 106) (hi : ¬ (i < 0 ∨ f_ln o ≤ i.toNatClampNeg)) : Wp d 54 28 ls (.int i :: .ref o :: st) (f_W xs I L) Q = Wp d 54 29 ls (.ref (f_rf o i.toNatClampNeg) :: st) (f_W xs I L) Q := Wp.aald e54_28 rfl ht hi
theorem e54_29 : decode (j_co 54) 29 = .ok (.astore_n 3, 1) := by decide +kernel
set_option maxRecDepth 20000 in
theorem w54_29 {d : Nat} {st : List Value} {Q : Option Value × jW → Prop} {w : jW} {a0 a1 a2 a3 : Option Value} {x : Nat} (h : j_cp a2) : Wp d 54 29 [a0, a1, a2, a3] (.ref x :: st) w Q = Wp d 54 30 [a0, a1, a2, some (.ref x)] (st) w Q := Wp.loc e54_29 rfl rfl (v_stA (ls := [a0, a1, a2, a3]) (k := 3) (show 3 < 4 by decide) h)
theorem e54_30 : decode (j_co 54) 30 = .ok (.iload_n 2, 1) := by decide +kernel
set_option maxRecDepth 20000 in
theorem w54_30 {d : Nat} {st : List Value} {Q : Option Value × jW → Prop} {w : jW} {a0 a1 a3 : Option Value} {x : Int32} : Wp d 54 30 [a0, a1, some (.int x), a3] (st) w Q = Wp d 54 31 [a0, a1, some (.int x), a3] (.int x :: st) w Q := Wp.loc e54_30 rfl rfl rfl
theorem e54_31 : decode (j_co 54) 31 = .ok (.tableswitch 87 0 5 #[37, 42, 47, 52, 60, 68], 37) := by decide +kernel
theorem e54_68 : decode (j_co 54) 68 = .ok (.aload_n 3, 1) := by decide +kernel
set_option maxRecDepth 20000 in
theorem w54_68 {d : Nat} {st : List Value} {Q : Option Value × jW → Prop} {w : jW} {a0 a1 a2 : Option Value} {x : Nat} : Wp d 54 68 [a0, a1, a2, some (.ref x)] (st) w Q = Wp d 54 69 [a0, a1, a2, some (.ref x)] (.ref x :: st) w Q := Wp.loc e54_68 rfl rfl rfl
theorem e54_69 : decode (j_co 54) 69 = .ok (.getfield 153, 3) := by decide +kernel
set_option maxRecDepth 20000 in
theorem w54_69 {d : Nat} {st : List Value} {Q : Option Value × jW → Prop} {ls : jL} {xs : List Value} {I : fI} {L : fL} {o : Nat} (ht : f_tg o = 3) : Wp d 54 69 ls (.ref o :: st) (f_W xs I L) Q = Wp d 54 72 ls (.int (I o 1) :: st) (f_W xs I L) Q := Wp.getI (ci := 3) (k := 1) e54_69 rfl (by decide) (by decide) (by decide) ht
theorem e54_72 : decode (j_co 54) 72 = .ok (.ireturn, 1) := by decide +kernel
set_option maxRecDepth 20000 in
theorem w54_72 {d : Nat} {Q : Option Value × jW → Prop} {ls : jL} {w : jW} {x : Int32} : Wp d 54 72 ls [.int x] w Q = Q (some (.int x), w) := Wp.ret e54_72 rfl
theorem e54_73 : decode (j_co 54) 73 = .ok (.aload_n 3, 1) := by decide +kernel
set_option maxRecDepth 20000 in
theorem w54_73 {d : Nat} {st : List Value} {Q : Option Value × jW → Prop} {w : jW} {a0 a1 a2 : Option Value} {x : Nat} : Wp d 54 73 [a0, a1, a2, some (.ref x)] (st) w Q = Wp d 54 74 [a0, a1, a2, some (.ref x)] (.ref x :: st) w Q := Wp.loc e54_73 rfl rfl rfl
theorem e54_74 : decode (j_co 54) 74 = .ok (.getfield 158, 3) := by decide +kernel
set_option maxRecDepth 20000 in
theorem w54_74 {d : Nat} {st : List Value} {Q : Option Value × jW → Prop} {ls : jL} {xs : List Value} {I : fI} {L : fL} {o : Nat} (ht : f_tg o = 3) : Wp d 54 74 ls (.ref o :: st) (f_W xs I L) Q = Wp d 54 77 ls (.int (I o 2) :: st) (f_W xs I L) Q := Wp.getI (ci := 3) (k := 2) e54_74 rfl (by decide) (by decide) (by decide) ht
theorem e54_77 : decode (j_co 54) 77 = .ok (.ireturn, 1) := by decide +kernel
set_option maxRecDepth 20000 in
theorem w54_77 {d : Nat} {Q : Option Value × jW → Prop} {ls : jL} {w : jW} {x : Int32} : Wp d 54 77 ls [.int x] w Q = Q (some (.int x), w) := Wp.ret e54_77 rfl
theorem e54_78 : decode (j_co 54) 78 = .ok (.aload_n 3, 1) := by decide +kernel
set_option maxRecDepth 20000 in
theorem w54_78 {d : Nat} {st : List Value} {Q : Option Value × jW → Prop} {w : jW} {a0 a1 a2 : Option Value} {x : Nat} : Wp d 54 78 [a0, a1, a2, some (.ref x)] (st) w Q = Wp d 54 79 [a0, a1, a2, some (.ref x)] (.ref x :: st) w Q := Wp.loc e54_78 rfl rfl rfl
theorem e54_79 : decode (j_co 54) 79 = .ok (.getfield 161, 3) := by decide +kernel
set_option maxRecDepth 20000 in
theorem w54_79 {d : Nat} {st : List Value} {Q : Option Value × jW → Prop} {ls : jL} {xs : List Value} {I : fI} {L : fL} {o : Nat} (ht : f_tg o = 3) : Wp d 54 79 ls (.ref o :: st) (f_W xs I L) Q = Wp d 54 82 ls (.int (I o 3) :: st) (f_W xs I L) Q := Wp.getI (ci := 3) (k := 3) e54_79 rfl (by decide) (by decide) (by decide) ht
theorem e54_82 : decode (j_co 54) 82 = .ok (.ireturn, 1) := by decide +kernel
set_option maxRecDepth 20000 in
theorem w54_82 {d : Nat} {Q : Option Value × jW → Prop} {ls : jL} {w : jW} {x : Int32} : Wp d 54 82 ls [.int x] w Q = Q (some (.int x), w) := Wp.ret e54_82 rfl
theorem e54_83 : decode (j_co 54) 83 = .ok (.aload_n 3, 1) := by decide +kernel
set_option maxRecDepth 20000 in
theorem w54_83 {d : Nat} {st : List Value} {Q : Option Value × jW → Prop} {w : jW} {a0 a1 a2 : Option Value} {x : Nat} : Wp d 54 83 [a0, a1, a2, some (.ref x)] (st) w Q = Wp d 54 84 [a0, a1, a2, some (.ref x)] (.ref x :: st) w Q := Wp.loc e54_83 rfl rfl rfl
theorem e54_84 : decode (j_co 54) 84 = .ok (.getfield 164, 3) := by decide +kernel
set_option maxRecDepth 20000 in
theorem w54_84 {d : Nat} {st : List Value} {Q : Option Value × jW → Prop} {ls : jL} {xs : List Value} {I : fI} {L : fL} {o : Nat} (ht : f_tg o = 3) : Wp d 54 84 ls (.ref o :: st) (f_W xs I L) Q = Wp d 54 87 ls (.int (I o 5) :: st) (f_W xs I L) Q := Wp.getI (ci := 3) (k := 5) e54_84 rfl (by decide) (by decide) (by decide) ht
theorem e54_87 : decode (j_co 54) 87 = .ok (.invokestatic 168, 3) := by decide +kernel
set_option maxRecDepth 20000 in
theorem w54_87 {d : Nat} {st : List Value} {Q : Option Value × jW → Prop} {ls : jL} {w : jW} {x0 : Int32} (hs : j_sumc st ≤ 8) : Wp (d + 1) 54 87 ls (.int x0 :: st) w Q = Wp d 55 0 [some (.int x0)] [] w (fun r1 => Wp (d + 1) 54 90 ls (r1.1.toList ++ st) r1.2 Q) := Wp.cs (kd := 1) (y' := 55) (as := [.int x0]) e54_87 rfl (by decide) (by decide) rfl (show 1 ≤ 1 by decide) hs
theorem e54_90 : decode (j_co 54) 90 = .ok (.ireturn, 1) := by decide +kernel
set_option maxRecDepth 20000 in
theorem w54_90 {d : Nat} {Q : Option Value × jW → Prop} {ls : jL} {w : jW} {x : Int32} : Wp d 54 90 ls [.int x] w Q = Q (some (.int x), w) := Wp.ret e54_90 rfl
theorem e54_91 : decode (j_co 54) 91 = .ok (.aload_n 3, 1) := by decide +kernel
set_option maxRecDepth 20000 in
theorem w54_91 {d : Nat} {st : List Value} {Q : Option Value × jW → Prop} {w : jW} {a0 a1 a2 : Option Value} {x : Nat} : Wp d 54 91 [a0, a1, a2, some (.ref x)] (st) w Q = Wp d 54 92 [a0, a1, a2, some (.ref x)] (.ref x :: st) w Q := Wp.loc e54_91 rfl rfl rfl
theorem e54_92 : decode (j_co 54) 92 = .ok (.getfield 172, 3) := by decide +kernel
set_option maxRecDepth 20000 in
theorem w54_92 {d : Nat} {st : List Value} {Q : Option Value × jW → Prop} {ls : jL} {xs : List Value} {I : fI} {L : fL} {o : Nat} (ht : f_tg o = 3) : Wp d 54 92 ls (.ref o :: st) (f_W xs I L) Q = Wp d 54 95 ls (.int (I o 6) :: st) (f_W xs I L) Q := Wp.getI (ci := 3) (k := 6) e54_92 rfl (by decide) (by decide) (by decide) ht
theorem e54_95 : decode (j_co 54) 95 = .ok (.invokestatic 168, 3) := by decide +kernel
set_option maxRecDepth 20000 in
theorem w54_95 {d : Nat} {st : List Value} {Q : Option Value × jW → Prop} {ls : jL} {w : jW} {x0 : Int32} (hs : j_sumc st ≤ 8) : Wp (d + 1) 54 95 ls (.int x0 :: st) w Q = Wp d 55 0 [some (.int x0)] [] w (fun r1 => Wp (d + 1) 54 98 ls (r1.1.toList ++ st) r1.2 Q) := Wp.cs (kd := 1) (y' := 55) (as := [.int x0]) e54_95 rfl (by decide) (by decide) rfl (show 1 ≤ 1 by decide) hs
theorem e54_98 : decode (j_co 54) 98 = .ok (.ireturn, 1) := by decide +kernel
set_option maxRecDepth 20000 in
theorem w54_98 {d : Nat} {Q : Option Value × jW → Prop} {ls : jL} {w : jW} {x : Int32} : Wp d 54 98 ls [.int x] w Q = Q (some (.int x), w) := Wp.ret e54_98 rfl
theorem e54_99 : decode (j_co 54) 99 = .ok (.aload_n 0, 1) := by decide +kernel
set_option maxRecDepth 20000 in
theorem w54_99 {d : Nat} {st : List Value} {Q : Option Value × jW → Prop} {w : jW} {a1 a2 a3 : Option Value} {x : Nat} : Wp d 54 99 [some (.ref x), a1, a2, a3] (st) w Q = Wp d 54 100 [some (.ref x), a1, a2, a3] (.ref x :: st) w Q := Wp.loc e54_99 rfl rfl rfl
theorem e54_100 : decode (j_co 54) 100 = .ok (.getfield 10, 3) := by decide +kernel
set_option maxRecDepth 20000 in
theorem w54_100 {d : Nat} {st : List Value} {Q : Option Value × jW → Prop} {ls : jL} {xs : List Value} {I : fI} {L : fL} {o : Nat} (ht : f_tg o = 10) : Wp d 54 100 ls (.ref o :: st) (f_W xs I L) Q = Wp d 54 103 ls (.ref (f_rf o 0) :: st) (f_W xs I L) Q := Wp.getR (ci := 10) (k := 0) e54_100 rfl (by decide) (by decide) rfl ht
theorem e54_103 : decode (j_co 54) 103 = .ok (.aload_n 3, 1) := by decide +kernel
set_option maxRecDepth 20000 in
theorem w54_103 {d : Nat} {st : List Value} {Q : Option Value × jW → Prop} {w : jW} {a0 a1 a2 : Option Value} {x : Nat} : Wp d 54 103 [a0, a1, a2, some (.ref x)] (st) w Q = Wp d 54 104 [a0, a1, a2, some (.ref x)] (.ref x :: st) w Q := Wp.loc e54_103 rfl rfl rfl
theorem e54_104 : decode (j_co 54) 104 = .ok (.getfield 153, 3) := by decide +kernel
set_option maxRecDepth 20000 in
theorem w54_104 {d : Nat} {st : List Value} {Q : Option Value × jW → Prop} {ls : jL} {xs : List Value} {I : fI} {L : fL} {o : Nat} (ht : f_tg o = 3) : Wp d 54 104 ls (.ref o :: st) (f_W xs I L) Q = Wp d 54 107 ls (.int (I o 1) :: st) (f_W xs I L) Q := Wp.getI (ci := 3) (k := 1) e54_104 rfl (by decide) (by decide) (by decide) ht
theorem e54_107 : decode (j_co 54) 107 = .ok (.aload_n 3, 1) := by decide +kernel
set_option maxRecDepth 20000 in
theorem w54_107 {d : Nat} {st : List Value} {Q : Option Value × jW → Prop} {w : jW} {a0 a1 a2 : Option Value} {x : Nat} : Wp d 54 107 [a0, a1, a2, some (.ref x)] (st) w Q = Wp d 54 108 [a0, a1, a2, some (.ref x)] (.ref x :: st) w Q := Wp.loc e54_107 rfl rfl rfl
theorem e54_108 : decode (j_co 54) 108 = .ok (.getfield 175, 3) := by decide +kernel
set_option maxRecDepth 20000 in
theorem w54_108 {d : Nat} {st : List Value} {Q : Option Value × jW → Prop} {ls : jL} {xs : List Value} {I : fI} {L : fL} {o : Nat} (ht : f_tg o = 3) : Wp d 54 108 ls (.ref o :: st) (f_W xs I L) Q = Wp d 54 111 ls (.ref (f_rf o 0) :: st) (f_W xs I L) Q := Wp.getR (ci := 3) (k := 0) e54_108 rfl (by decide) (by decide) rfl ht
theorem e54_111 : decode (j_co 54) 111 = .ok (.invokevirtual 178, 3) := by decide +kernel
set_option maxRecDepth 20000 in
theorem w54_111 {d : Nat} {st : List Value} {Q : Option Value × jW → Prop} {ls : jL} {xs : List Value} {I : fI} {L : fL} {r : Nat} {x0 : Int32} {x1 : Nat} (hs : j_sumc st ≤ 8) (ht : f_tg r = 5) : Wp (d + 1) 54 111 ls (.ref x1 :: .int x0 :: .ref r :: st) (f_W xs I L) Q = Wp d 52 0 [some (.ref r), some (.int x0), some (.ref x1)] [] (f_W xs I L) (fun r1 => Wp (d + 1) 54 114 ls (r1.1.toList ++ st) r1.2 Q) := Wp.cv (y' := 52) (as := [.int x0, .ref x1]) e54_111 rfl (by decide) rfl (show 3 ≤ 3 by decide) (by decide) hs ht
theorem e54_114 : decode (j_co 54) 114 = .ok (.invokestatic 168, 3) := by decide +kernel
set_option maxRecDepth 20000 in
theorem w54_114 {d : Nat} {st : List Value} {Q : Option Value × jW → Prop} {ls : jL} {w : jW} {x0 : Int32} (hs : j_sumc st ≤ 8) : Wp (d + 1) 54 114 ls (.int x0 :: st) w Q = Wp d 55 0 [some (.int x0)] [] w (fun r1 => Wp (d + 1) 54 117 ls (r1.1.toList ++ st) r1.2 Q) := Wp.cs (kd := 1) (y' := 55) (as := [.int x0]) e54_114 rfl (by decide) (by decide) rfl (show 1 ≤ 1 by decide) hs
theorem e54_117 : decode (j_co 54) 117 = .ok (.ireturn, 1) := by decide +kernel
set_option maxRecDepth 20000 in
theorem w54_117 {d : Nat} {Q : Option Value × jW → Prop} {ls : jL} {w : jW} {x : Int32} : Wp d 54 117 ls [.int x] w Q = Q (some (.int x), w) := Wp.ret e54_117 rfl
theorem e54_118 : decode (j_co 54) 118 = .ok (.iconst (-1), 1) := by decide +kernel
set_option maxRecDepth 20000 in
theorem w54_118 {d : Nat} {st : List Value} {Q : Option Value × jW → Prop} {ls : jL} {w : jW} : Wp d 54 118 ls (st) w Q = Wp d 54 119 ls (.int (-1) :: st) w Q := Wp.alu e54_118 rfl rfl
theorem e54_119 : decode (j_co 54) 119 = .ok (.ireturn, 1) := by decide +kernel
set_option maxRecDepth 20000 in
theorem w54_119 {d : Nat} {Q : Option Value × jW → Prop} {ls : jL} {w : jW} {x : Int32} : Wp d 54 119 ls [.int x] w Q = Q (some (.int x), w) := Wp.ret e54_119 rfl
/-! X.oneIf -/
theorem e55_0 : decode (j_co 55) 0 = .ok (.iload_n 0, 1) := by decide +kernel
set_option maxRecDepth 20000 in
theorem w55_0 {d : Nat} {st : List Value} {Q : Option Value × jW → Prop} {w : jW} {x : Int32} : Wp d 55 0 [some (.int x)] (st) w Q = Wp d 55 1 [some (.int x)] (.int x :: st) w Q := Wp.loc e55_0 rfl rfl rfl
theorem e55_1 : decode (j_co 55) 1 = .ok (.ifCond .eq 7, 3) := by decide +kernel
set_option maxRecDepth 20000 in
theorem w55_1 {d : Nat} {st : List Value} {Q : Option Value × jW → Prop} {ls : jL} {w : jW} {a : Int32} : Wp d 55 1 ls (.int a :: st) w Q = ((a = nI 0 → Wp d 55 8 ls st w Q) ∧ (¬ a = nI 0 → Wp d 55 4 ls st w Q)) := Wp.if2 (c := a = nI 0) (off := 7) e55_1 rfl rfl rfl rfl rfl
theorem e55_4 : decode (j_co 55) 4 = .ok (.iconst 1, 1) := by decide +kernel
set_option maxRecDepth 20000 in
theorem w55_4 {d : Nat} {st : List Value} {Q : Option Value × jW → Prop} {ls : jL} {w : jW} : Wp d 55 4 ls (st) w Q = Wp d 55 5 ls (.int (nI 1) :: st) w Q := Wp.alu e55_4 rfl rfl
theorem e55_5 : decode (j_co 55) 5 = .ok (.goto 4, 3) := by decide +kernel
set_option maxRecDepth 20000 in
theorem w55_5 {d : Nat} {st : List Value} {Q : Option Value × jW → Prop} {ls : jL} {w : jW} : Wp d 55 5 ls (st) w Q = Wp d 55 9 ls (st) w Q := Wp.br e55_5 (Or.inl rfl) rfl rfl rfl rfl
theorem e55_8 : decode (j_co 55) 8 = .ok (.iconst 0, 1) := by decide +kernel
set_option maxRecDepth 20000 in
theorem w55_8 {d : Nat} {st : List Value} {Q : Option Value × jW → Prop} {ls : jL} {w : jW} : Wp d 55 8 ls (st) w Q = Wp d 55 9 ls (.int (nI 0) :: st) w Q := Wp.alu e55_8 rfl rfl
theorem e55_9 : decode (j_co 55) 9 = .ok (.ireturn, 1) := by decide +kernel
set_option maxRecDepth 20000 in
theorem w55_9 {d : Nat} {Q : Option Value × jW → Prop} {ls : jL} {w : jW} {x : Int32} : Wp d 55 9 ls [.int x] w Q = Q (some (.int x), w) := Wp.ret e55_9 rfl
/-! X.side -/
theorem e56_0 : decode (j_co 56) 0 = .ok (.aload_n 0, 1) := by decide +kernel
set_option maxRecDepth 20000 in
theorem w56_0 {d : Nat} {st : List Value} {Q : Option Value × jW → Prop} {w : jW} {a1 a2 a3 a4 : Option Value} {x : Nat} : Wp d 56 0 [some (.ref x), a1, a2, a3, a4] (st) w Q = Wp d 56 1 [some (.ref x), a1, a2, a3, a4] (.ref x :: st) w Q := Wp.loc e56_0 rfl rfl rfl
theorem e56_1 : decode (j_co 56) 1 = .ok (.getfield 21, 3) := by decide +kernel
set_option maxRecDepth 20000 in
theorem w56_1 {d : Nat} {st : List Value} {Q : Option Value × jW → Prop} {ls : jL} {xs : List Value} {I : fI} {L : fL} {o : Nat} (ht : f_tg o = 10) : Wp d 56 1 ls (.ref o :: st) (f_W xs I L) Q = Wp d 56 4 ls (.ref (f_rf o 1) :: st) (f_W xs I L) Q := Wp.getR (ci := 10) (k := 1) e56_1 rfl (by decide) (by decide) rfl ht
theorem e56_4 : decode (j_co 56) 4 = .ok (.invokevirtual 139, 3) := by decide +kernel
set_option maxRecDepth 20000 in
theorem w56_4 {d : Nat} {st : List Value} {Q : Option Value × jW → Prop} {ls : jL} {xs : List Value} {I : fI} {L : fL} {r : Nat} (hs : j_sumc st ≤ 8) (ht : f_tg r = 7) : Wp (d + 1) 56 4 ls (.ref r :: st) (f_W xs I L) Q = Wp d 29 0 [some (.ref r)] [] (f_W xs I L) (fun r1 => Wp (d + 1) 56 7 ls (r1.1.toList ++ st) r1.2 Q) := Wp.cv (y' := 29) (as := []) e56_4 rfl (by decide) rfl (show 1 ≤ 1 by decide) (by decide) hs ht
theorem e56_7 : decode (j_co 56) 7 = .ok (.aload_n 0, 1) := by decide +kernel
set_option maxRecDepth 20000 in
theorem w56_7 {d : Nat} {st : List Value} {Q : Option Value × jW → Prop} {w : jW} {a1 a2 a3 a4 : Option Value} {x : Nat} : Wp d 56 7 [some (.ref x), a1, a2, a3, a4] (st) w Q = Wp d 56 8 [some (.ref x), a1, a2, a3, a4] (.ref x :: st) w Q := Wp.loc e56_7 rfl rfl rfl
theorem e56_8 : decode (j_co 56) 8 = .ok (.getfield 21, 3) := by decide +kernel
set_option maxRecDepth 20000 in
theorem w56_8 {d : Nat} {st : List Value} {Q : Option Value × jW → Prop} {ls : jL} {xs : List Value} {I : fI} {L : fL} {o : Nat} (ht : f_tg o = 10) : Wp d 56 8 ls (.ref o :: st) (f_W xs I L) Q = Wp d 56 11 ls (.ref (f_rf o 1) :: st) (f_W xs I L) Q := Wp.getR (ci := 10) (k := 1) e56_8 rfl (by decide) (by decide) rfl ht
theorem e56_11 : decode (j_co 56) 11 = .ok (.iload_n 1, 1) := by decide +kernel
set_option maxRecDepth 20000 in
theorem w56_11 {d : Nat} {st : List Value} {Q : Option Value × jW → Prop} {w : jW} {a0 a2 a3 a4 : Option Value} {x : Int32} : Wp d 56 11 [a0, some (.int x), a2, a3, a4] (st) w Q = Wp d 56 12 [a0, some (.int x), a2, a3, a4] (.int x :: st) w Q := Wp.loc e56_11 rfl rfl rfl
theorem e56_12 : decode (j_co 56) 12 = .ok (.invokevirtual 146, 3) := by decide +kernel
set_option maxRecDepth 20000 in
theorem w56_12 {d : Nat} {st : List Value} {Q : Option Value × jW → Prop} {ls : jL} {xs : List Value} {I : fI} {L : fL} {r : Nat} {x0 : Int32} (hs : j_sumc st ≤ 8) (ht : f_tg r = 7) : Wp (d + 1) 56 12 ls (.int x0 :: .ref r :: st) (f_W xs I L) Q = Wp d 50 0 [some (.ref r), some (.int x0)] [] (f_W xs I L) (fun r1 => Wp (d + 1) 56 15 ls (r1.1.toList ++ st) r1.2 Q) := Wp.cv (y' := 50) (as := [.int x0]) e56_12 rfl (by decide) rfl (show 2 ≤ 2 by decide) (by decide) hs ht
theorem e56_15 : decode (j_co 56) 15 = .ok (.ifCond .eq 10, 3) := by decide +kernel
set_option maxRecDepth 20000 in
theorem w56_15 {d : Nat} {st : List Value} {Q : Option Value × jW → Prop} {ls : jL} {w : jW} {a : Int32} : Wp d 56 15 ls (.int a :: st) w Q = ((a = nI 0 → Wp d 56 25 ls st w Q) ∧ (¬ a = nI 0 → Wp d 56 18 ls st w Q)) := Wp.if2 (c := a = nI 0) (off := 10) e56_15 rfl rfl rfl rfl rfl
theorem e56_18 : decode (j_co 56) 18 = .ok (.iload_n 2, 1) := by decide +kernel
set_option maxRecDepth 20000 in
theorem w56_18 {d : Nat} {st : List Value} {Q : Option Value × jW → Prop} {w : jW} {a0 a1 a3 a4 : Option Value} {x : Int32} : Wp d 56 18 [a0, a1, some (.int x), a3, a4] (st) w Q = Wp d 56 19 [a0, a1, some (.int x), a3, a4] (.int x :: st) w Q := Wp.loc e56_18 rfl rfl rfl
theorem e56_19 : decode (j_co 56) 19 = .ok (.invokestatic 114, 3) := by decide +kernel
set_option maxRecDepth 20000 in
theorem w56_19 {d : Nat} {st : List Value} {Q : Option Value × jW → Prop} {ls : jL} {w : jW} {x0 : Int32} (hs : j_sumc st ≤ 8) : Wp (d + 1) 56 19 ls (.int x0 :: st) w Q = Wp d 18 0 [some (.int x0)] [] w (fun r1 => Wp (d + 1) 56 22 ls (r1.1.toList ++ st) r1.2 Q) := Wp.cs (kd := 1) (y' := 18) (as := [.int x0]) e56_19 rfl (by decide) (by decide) rfl (show 1 ≤ 1 by decide) hs
theorem e56_22 : decode (j_co 56) 22 = .ok (.ifCond .ne 6, 3) := by decide +kernel
set_option maxRecDepth 20000 in
theorem w56_22 {d : Nat} {st : List Value} {Q : Option Value × jW → Prop} {ls : jL} {w : jW} {a : Int32} : Wp d 56 22 ls (.int a :: st) w Q = ((a = nI 0 → Wp d 56 25 ls st w Q) ∧ (¬ a = nI 0 → Wp d 56 28 ls st w Q)) := Wp.if2n (c := a = nI 0) (off := 6) e56_22 rfl rfl rfl rfl rfl
theorem e56_25 : decode (j_co 56) 25 = .ok (.bipush (-100), 2) := by decide +kernel
set_option maxRecDepth 20000 in
theorem w56_25 {d : Nat} {st : List Value} {Q : Option Value × jW → Prop} {ls : jL} {w : jW} : Wp d 56 25 ls (st) w Q = Wp d 56 27 ls (.int (-100) :: st) w Q := Wp.alu e56_25 rfl rfl
theorem e56_27 : decode (j_co 56) 27 = .ok (.ireturn, 1) := by decide +kernel
set_option maxRecDepth 20000 in
theorem w56_27 {d : Nat} {Q : Option Value × jW → Prop} {ls : jL} {w : jW} {x : Int32} : Wp d 56 27 ls [.int x] w Q = Q (some (.int x), w) := Wp.ret e56_27 rfl
theorem e56_28 : decode (j_co 56) 28 = .ok (.aload_n 0, 1) := by decide +kernel
set_option maxRecDepth 20000 in
theorem w56_28 {d : Nat} {st : List Value} {Q : Option Value × jW → Prop} {w : jW} {a1 a2 a3 a4 : Option Value} {x : Nat} : Wp d 56 28 [some (.ref x), a1, a2, a3, a4] (st) w Q = Wp d 56 29 [some (.ref x), a1, a2, a3, a4] (.ref x :: st) w Q := Wp.loc e56_28 rfl rfl rfl
theorem e56_29 : decode (j_co 56) 29 = .ok (.getfield 21, 3) := by decide +kernel
set_option maxRecDepth 20000 in
theorem w56_29 {d : Nat} {st : List Value} {Q : Option Value × jW → Prop} {ls : jL} {xs : List Value} {I : fI} {L : fL} {o : Nat} (ht : f_tg o = 10) : Wp d 56 29 ls (.ref o :: st) (f_W xs I L) Q = Wp d 56 32 ls (.ref (f_rf o 1) :: st) (f_W xs I L) Q := Wp.getR (ci := 10) (k := 1) e56_29 rfl (by decide) (by decide) rfl ht
theorem e56_32 : decode (j_co 56) 32 = .ok (.getfield 149, 3) := by decide +kernel
set_option maxRecDepth 20000 in
theorem w56_32 {d : Nat} {st : List Value} {Q : Option Value × jW → Prop} {ls : jL} {xs : List Value} {I : fI} {L : fL} {o : Nat} (ht : f_tg o = 7) : Wp d 56 32 ls (.ref o :: st) (f_W xs I L) Q = Wp d 56 35 ls (.ref (f_rf o 1) :: st) (f_W xs I L) Q := Wp.getR (ci := 7) (k := 1) e56_32 rfl (by decide) (by decide) rfl ht
theorem e56_35 : decode (j_co 56) 35 = .ok (.iload_n 1, 1) := by decide +kernel
set_option maxRecDepth 20000 in
theorem w56_35 {d : Nat} {st : List Value} {Q : Option Value × jW → Prop} {w : jW} {a0 a2 a3 a4 : Option Value} {x : Int32} : Wp d 56 35 [a0, some (.int x), a2, a3, a4] (st) w Q = Wp d 56 36 [a0, some (.int x), a2, a3, a4] (.int x :: st) w Q := Wp.loc e56_35 rfl rfl rfl
theorem e56_36 : decode (j_co 56) 36 = .ok (.aaload, 1) := by decide +kernel
set_option maxRecDepth 20000 in
theorem w56_36 {d : Nat} {st : List Value} {Q : Option Value × jW → Prop} {ls : jL} {xs : List Value} {I : fI} {L : fL} {o : Nat} {i : Int32} (ht : 103 ≤ f_tg o ∧ f_tg o ≤ 106) (hi : ¬ (i < 0 ∨ f_ln o ≤ i.toNatClampNeg)) : Wp d 56 36 ls (.int i :: .ref o :: st) (f_W xs I L) Q = Wp d 56 37 ls (.ref (f_rf o i.toNatClampNeg) :: st) (f_W xs I L) Q := Wp.aald e56_36 rfl ht hi
theorem e56_37 : decode (j_co 56) 37 = .ok (.getfield 175, 3) := by decide +kernel
set_option maxRecDepth 20000 in
theorem w56_37 {d : Nat} {st : List Value} {Q : Option Value × jW → Prop} {ls : jL} {xs : List Value} {I : fI} {L : fL} {o : Nat} (ht : f_tg o = 3) : Wp d 56 37 ls (.ref o :: st) (f_W xs I L) Q = Wp d 56 40 ls (.ref (f_rf o 0) :: st) (f_W xs I L) Q := Wp.getR (ci := 3) (k := 0) e56_37 rfl (by decide) (by decide) rfl ht
theorem e56_40 : decode (j_co 56) 40 = .ok (.astore 4, 2) := by decide +kernel
set_option maxRecDepth 20000 in
theorem w56_40 {d : Nat} {st : List Value} {Q : Option Value × jW → Prop} {w : jW} {a0 a1 a2 a3 a4 : Option Value} {x : Nat} (h : j_cp a3) : Wp d 56 40 [a0, a1, a2, a3, a4] (.ref x :: st) w Q = Wp d 56 42 [a0, a1, a2, a3, some (.ref x)] (st) w Q := Wp.loc e56_40 rfl rfl (v_stA (ls := [a0, a1, a2, a3, a4]) (k := 4) (show 4 < 5 by decide) h)
theorem e56_42 : decode (j_co 56) 42 = .ok (.iload_n 3, 1) := by decide +kernel
set_option maxRecDepth 20000 in
theorem w56_42 {d : Nat} {st : List Value} {Q : Option Value × jW → Prop} {w : jW} {a0 a1 a2 a4 : Option Value} {x : Int32} : Wp d 56 42 [a0, a1, a2, some (.int x), a4] (st) w Q = Wp d 56 43 [a0, a1, a2, some (.int x), a4] (.int x :: st) w Q := Wp.loc e56_42 rfl rfl rfl
theorem e56_43 : decode (j_co 56) 43 = .ok (.ifCond .eq 12, 3) := by decide +kernel
set_option maxRecDepth 20000 in
theorem w56_43 {d : Nat} {st : List Value} {Q : Option Value × jW → Prop} {ls : jL} {w : jW} {a : Int32} : Wp d 56 43 ls (.int a :: st) w Q = ((a = nI 0 → Wp d 56 55 ls st w Q) ∧ (¬ a = nI 0 → Wp d 56 46 ls st w Q)) := Wp.if2 (c := a = nI 0) (off := 12) e56_43 rfl rfl rfl rfl rfl
theorem e56_46 : decode (j_co 56) 46 = .ok (.aload 4, 2) := by decide +kernel
set_option maxRecDepth 20000 in
theorem w56_46 {d : Nat} {st : List Value} {Q : Option Value × jW → Prop} {w : jW} {a0 a1 a2 a3 : Option Value} {x : Nat} : Wp d 56 46 [a0, a1, a2, a3, some (.ref x)] (st) w Q = Wp d 56 48 [a0, a1, a2, a3, some (.ref x)] (.ref x :: st) w Q := Wp.loc e56_46 rfl rfl rfl
theorem e56_48 : decode (j_co 56) 48 = .ok (.iload_n 2, 1) := by decide +kernel
set_option maxRecDepth 20000 in
theorem w56_48 {d : Nat} {st : List Value} {Q : Option Value × jW → Prop} {w : jW} {a0 a1 a3 a4 : Option Value} {x : Int32} : Wp d 56 48 [a0, a1, some (.int x), a3, a4] (st) w Q = Wp d 56 49 [a0, a1, some (.int x), a3, a4] (.int x :: st) w Q := Wp.loc e56_48 rfl rfl rfl
theorem e56_49 : decode (j_co 56) 49 = .ok (.invokevirtual 182, 3) := by decide +kernel
set_option maxRecDepth 20000 in
theorem w56_49 {d : Nat} {st : List Value} {Q : Option Value × jW → Prop} {ls : jL} {xs : List Value} {I : fI} {L : fL} {r : Nat} {x0 : Int32} (hs : j_sumc st ≤ 8) (ht : f_tg r = 0) : Wp (d + 1) 56 49 ls (.int x0 :: .ref r :: st) (f_W xs I L) Q = Wp d 35 0 [some (.ref r), some (.int x0)] [] (f_W xs I L) (fun r1 => Wp (d + 1) 56 52 ls (r1.1.toList ++ st) r1.2 Q) := Wp.cv (y' := 35) (as := [.int x0]) e56_49 rfl (by decide) rfl (show 2 ≤ 2 by decide) (by decide) hs ht
theorem e56_52 : decode (j_co 56) 52 = .ok (.goto 9, 3) := by decide +kernel
set_option maxRecDepth 20000 in
theorem w56_52 {d : Nat} {st : List Value} {Q : Option Value × jW → Prop} {ls : jL} {w : jW} : Wp d 56 52 ls (st) w Q = Wp d 56 61 ls (st) w Q := Wp.br e56_52 (Or.inl rfl) rfl rfl rfl rfl
theorem e56_55 : decode (j_co 56) 55 = .ok (.aload 4, 2) := by decide +kernel
set_option maxRecDepth 20000 in
theorem w56_55 {d : Nat} {st : List Value} {Q : Option Value × jW → Prop} {w : jW} {a0 a1 a2 a3 : Option Value} {x : Nat} : Wp d 56 55 [a0, a1, a2, a3, some (.ref x)] (st) w Q = Wp d 56 57 [a0, a1, a2, a3, some (.ref x)] (.ref x :: st) w Q := Wp.loc e56_55 rfl rfl rfl
theorem e56_57 : decode (j_co 56) 57 = .ok (.iload_n 2, 1) := by decide +kernel
set_option maxRecDepth 20000 in
theorem w56_57 {d : Nat} {st : List Value} {Q : Option Value × jW → Prop} {w : jW} {a0 a1 a3 a4 : Option Value} {x : Int32} : Wp d 56 57 [a0, a1, some (.int x), a3, a4] (st) w Q = Wp d 56 58 [a0, a1, some (.int x), a3, a4] (.int x :: st) w Q := Wp.loc e56_57 rfl rfl rfl
theorem e56_58 : decode (j_co 56) 58 = .ok (.invokevirtual 186, 3) := by decide +kernel
set_option maxRecDepth 20000 in
theorem w56_58 {d : Nat} {st : List Value} {Q : Option Value × jW → Prop} {ls : jL} {xs : List Value} {I : fI} {L : fL} {r : Nat} {x0 : Int32} (hs : j_sumc st ≤ 8) (ht : f_tg r = 0) : Wp (d + 1) 56 58 ls (.int x0 :: .ref r :: st) (f_W xs I L) Q = Wp d 33 0 [some (.ref r), some (.int x0)] [] (f_W xs I L) (fun r1 => Wp (d + 1) 56 61 ls (r1.1.toList ++ st) r1.2 Q) := Wp.cv (y' := 33) (as := [.int x0]) e56_58 rfl (by decide) rfl (show 2 ≤ 2 by decide) (by decide) hs ht
theorem e56_61 : decode (j_co 56) 61 = .ok (.ireturn, 1) := by decide +kernel
set_option maxRecDepth 20000 in
theorem w56_61 {d : Nat} {Q : Option Value × jW → Prop} {ls : jL} {w : jW} {x : Int32} : Wp d 56 61 ls [.int x] w Q = Q (some (.int x), w) := Wp.ret e56_61 rfl
/-! X.comes -/
theorem e57_0 : decode (j_co 57) 0 = .ok (.aload_n 0, 1) := by decide +kernel
set_option maxRecDepth 20000 in
theorem w57_0 {d : Nat} {st : List Value} {Q : Option Value × jW → Prop} {w : jW} {a1 a2 a3 a4 : Option Value} {x : Nat} : Wp d 57 0 [some (.ref x), a1, a2, a3, a4] (st) w Q = Wp d 57 1 [some (.ref x), a1, a2, a3, a4] (.ref x :: st) w Q := Wp.loc e57_0 rfl rfl rfl
theorem e57_1 : decode (j_co 57) 1 = .ok (.getfield 10, 3) := by decide +kernel
set_option maxRecDepth 20000 in
theorem w57_1 {d : Nat} {st : List Value} {Q : Option Value × jW → Prop} {ls : jL} {xs : List Value} {I : fI} {L : fL} {o : Nat} (ht : f_tg o = 10) : Wp d 57 1 ls (.ref o :: st) (f_W xs I L) Q = Wp d 57 4 ls (.ref (f_rf o 0) :: st) (f_W xs I L) Q := Wp.getR (ci := 10) (k := 0) e57_1 rfl (by decide) (by decide) rfl ht
theorem e57_4 : decode (j_co 57) 4 = .ok (.iload_n 1, 1) := by decide +kernel
set_option maxRecDepth 20000 in
theorem w57_4 {d : Nat} {st : List Value} {Q : Option Value × jW → Prop} {w : jW} {a0 a2 a3 a4 : Option Value} {x : Int32} : Wp d 57 4 [a0, some (.int x), a2, a3, a4] (st) w Q = Wp d 57 5 [a0, some (.int x), a2, a3, a4] (.int x :: st) w Q := Wp.loc e57_4 rfl rfl rfl
theorem e57_5 : decode (j_co 57) 5 = .ok (.invokevirtual 69, 3) := by decide +kernel
set_option maxRecDepth 20000 in
theorem w57_5 {d : Nat} {st : List Value} {Q : Option Value × jW → Prop} {ls : jL} {xs : List Value} {I : fI} {L : fL} {r : Nat} {x0 : Int32} (hs : j_sumc st ≤ 8) (ht : f_tg r = 5) : Wp (d + 1) 57 5 ls (.int x0 :: .ref r :: st) (f_W xs I L) Q = Wp d 16 0 [some (.ref r), some (.int x0)] [] (f_W xs I L) (fun r1 => Wp (d + 1) 57 8 ls (r1.1.toList ++ st) r1.2 Q) := Wp.cv (y' := 16) (as := [.int x0]) e57_5 rfl (by decide) rfl (show 2 ≤ 2 by decide) (by decide) hs ht
theorem e57_8 : decode (j_co 57) 8 = .ok (.ifCond .eq 15, 3) := by decide +kernel
set_option maxRecDepth 20000 in
theorem w57_8 {d : Nat} {st : List Value} {Q : Option Value × jW → Prop} {ls : jL} {w : jW} {a : Int32} : Wp d 57 8 ls (.int a :: st) w Q = ((a = nI 0 → Wp d 57 23 ls st w Q) ∧ (¬ a = nI 0 → Wp d 57 11 ls st w Q)) := Wp.if2 (c := a = nI 0) (off := 15) e57_8 rfl rfl rfl rfl rfl
theorem e57_11 : decode (j_co 57) 11 = .ok (.iload_n 2, 1) := by decide +kernel
set_option maxRecDepth 20000 in
theorem w57_11 {d : Nat} {st : List Value} {Q : Option Value × jW → Prop} {w : jW} {a0 a1 a3 a4 : Option Value} {x : Int32} : Wp d 57 11 [a0, a1, some (.int x), a3, a4] (st) w Q = Wp d 57 12 [a0, a1, some (.int x), a3, a4] (.int x :: st) w Q := Wp.loc e57_11 rfl rfl rfl
theorem e57_12 : decode (j_co 57) 12 = .ok (.iload_n 3, 1) := by decide +kernel
set_option maxRecDepth 20000 in
theorem w57_12 {d : Nat} {st : List Value} {Q : Option Value × jW → Prop} {w : jW} {a0 a1 a2 a4 : Option Value} {x : Int32} : Wp d 57 12 [a0, a1, a2, some (.int x), a4] (st) w Q = Wp d 57 13 [a0, a1, a2, some (.int x), a4] (.int x :: st) w Q := Wp.loc e57_12 rfl rfl rfl
theorem e57_13 : decode (j_co 57) 13 = .ok (.iload 4, 2) := by decide +kernel
set_option maxRecDepth 20000 in
theorem w57_13 {d : Nat} {st : List Value} {Q : Option Value × jW → Prop} {w : jW} {a0 a1 a2 a3 : Option Value} {x : Int32} : Wp d 57 13 [a0, a1, a2, a3, some (.int x)] (st) w Q = Wp d 57 15 [a0, a1, a2, a3, some (.int x)] (.int x :: st) w Q := Wp.loc e57_13 rfl rfl rfl
theorem e57_15 : decode (j_co 57) 15 = .ok (.bipush 20, 2) := by decide +kernel
set_option maxRecDepth 20000 in
theorem w57_15 {d : Nat} {st : List Value} {Q : Option Value × jW → Prop} {ls : jL} {w : jW} : Wp d 57 15 ls (st) w Q = Wp d 57 17 ls (.int (nI 20) :: st) w Q := Wp.alu e57_15 rfl rfl
theorem e57_17 : decode (j_co 57) 17 = .ok (.invokestatic 189, 3) := by decide +kernel
set_option maxRecDepth 20000 in
theorem w57_17 {d : Nat} {st : List Value} {Q : Option Value × jW → Prop} {ls : jL} {w : jW} {x0 : Int32} {x1 : Int32} {x2 : Int32} {x3 : Int32} (hs : j_sumc st ≤ 8) : Wp (d + 1) 57 17 ls (.int x3 :: .int x2 :: .int x1 :: .int x0 :: st) w Q = Wp d 58 0 [some (.int x0), some (.int x1), some (.int x2), some (.int x3)] [] w (fun r1 => Wp (d + 1) 57 20 ls (r1.1.toList ++ st) r1.2 Q) := Wp.cs (kd := 1) (y' := 58) (as := [.int x0, .int x1, .int x2, .int x3]) e57_17 rfl (by decide) (by decide) rfl (show 4 ≤ 4 by decide) hs
theorem e57_20 : decode (j_co 57) 20 = .ok (.ifCond .ne 5, 3) := by decide +kernel
set_option maxRecDepth 20000 in
theorem w57_20 {d : Nat} {st : List Value} {Q : Option Value × jW → Prop} {ls : jL} {w : jW} {a : Int32} : Wp d 57 20 ls (.int a :: st) w Q = ((a = nI 0 → Wp d 57 23 ls st w Q) ∧ (¬ a = nI 0 → Wp d 57 25 ls st w Q)) := Wp.if2n (c := a = nI 0) (off := 5) e57_20 rfl rfl rfl rfl rfl
theorem e57_23 : decode (j_co 57) 23 = .ok (.iconst (-1), 1) := by decide +kernel
set_option maxRecDepth 20000 in
theorem w57_23 {d : Nat} {st : List Value} {Q : Option Value × jW → Prop} {ls : jL} {w : jW} : Wp d 57 23 ls (st) w Q = Wp d 57 24 ls (.int (-1) :: st) w Q := Wp.alu e57_23 rfl rfl
theorem e57_24 : decode (j_co 57) 24 = .ok (.ireturn, 1) := by decide +kernel
set_option maxRecDepth 20000 in
theorem w57_24 {d : Nat} {Q : Option Value × jW → Prop} {ls : jL} {w : jW} {x : Int32} : Wp d 57 24 ls [.int x] w Q = Q (some (.int x), w) := Wp.ret e57_24 rfl
theorem e57_25 : decode (j_co 57) 25 = .ok (.aload_n 0, 1) := by decide +kernel
set_option maxRecDepth 20000 in
theorem w57_25 {d : Nat} {st : List Value} {Q : Option Value × jW → Prop} {w : jW} {a1 a2 a3 a4 : Option Value} {x : Nat} : Wp d 57 25 [some (.ref x), a1, a2, a3, a4] (st) w Q = Wp d 57 26 [some (.ref x), a1, a2, a3, a4] (.ref x :: st) w Q := Wp.loc e57_25 rfl rfl rfl
theorem e57_26 : decode (j_co 57) 26 = .ok (.getfield 21, 3) := by decide +kernel
set_option maxRecDepth 20000 in
theorem w57_26 {d : Nat} {st : List Value} {Q : Option Value × jW → Prop} {ls : jL} {xs : List Value} {I : fI} {L : fL} {o : Nat} (ht : f_tg o = 10) : Wp d 57 26 ls (.ref o :: st) (f_W xs I L) Q = Wp d 57 29 ls (.ref (f_rf o 1) :: st) (f_W xs I L) Q := Wp.getR (ci := 10) (k := 1) e57_26 rfl (by decide) (by decide) rfl ht
theorem e57_29 : decode (j_co 57) 29 = .ok (.invokevirtual 139, 3) := by decide +kernel
set_option maxRecDepth 20000 in
theorem w57_29 {d : Nat} {st : List Value} {Q : Option Value × jW → Prop} {ls : jL} {xs : List Value} {I : fI} {L : fL} {r : Nat} (hs : j_sumc st ≤ 8) (ht : f_tg r = 7) : Wp (d + 1) 57 29 ls (.ref r :: st) (f_W xs I L) Q = Wp d 29 0 [some (.ref r)] [] (f_W xs I L) (fun r1 => Wp (d + 1) 57 32 ls (r1.1.toList ++ st) r1.2 Q) := Wp.cv (y' := 29) (as := []) e57_29 rfl (by decide) rfl (show 1 ≤ 1 by decide) (by decide) hs ht
theorem e57_32 : decode (j_co 57) 32 = .ok (.aload_n 0, 1) := by decide +kernel
set_option maxRecDepth 20000 in
theorem w57_32 {d : Nat} {st : List Value} {Q : Option Value × jW → Prop} {w : jW} {a1 a2 a3 a4 : Option Value} {x : Nat} : Wp d 57 32 [some (.ref x), a1, a2, a3, a4] (st) w Q = Wp d 57 33 [some (.ref x), a1, a2, a3, a4] (.ref x :: st) w Q := Wp.loc e57_32 rfl rfl rfl
theorem e57_33 : decode (j_co 57) 33 = .ok (.getfield 21, 3) := by decide +kernel
set_option maxRecDepth 20000 in
theorem w57_33 {d : Nat} {st : List Value} {Q : Option Value × jW → Prop} {ls : jL} {xs : List Value} {I : fI} {L : fL} {o : Nat} (ht : f_tg o = 10) : Wp d 57 33 ls (.ref o :: st) (f_W xs I L) Q = Wp d 57 36 ls (.ref (f_rf o 1) :: st) (f_W xs I L) Q := Wp.getR (ci := 10) (k := 1) e57_33 rfl (by decide) (by decide) rfl ht
theorem e57_36 : decode (j_co 57) 36 = .ok (.iload_n 1, 1) := by decide +kernel
set_option maxRecDepth 20000 in
theorem w57_36 {d : Nat} {st : List Value} {Q : Option Value × jW → Prop} {w : jW} {a0 a2 a3 a4 : Option Value} {x : Int32} : Wp d 57 36 [a0, some (.int x), a2, a3, a4] (st) w Q = Wp d 57 37 [a0, some (.int x), a2, a3, a4] (.int x :: st) w Q := Wp.loc e57_36 rfl rfl rfl
theorem e57_37 : decode (j_co 57) 37 = .ok (.iload_n 2, 1) := by decide +kernel
set_option maxRecDepth 20000 in
theorem w57_37 {d : Nat} {st : List Value} {Q : Option Value × jW → Prop} {w : jW} {a0 a1 a3 a4 : Option Value} {x : Int32} : Wp d 57 37 [a0, a1, some (.int x), a3, a4] (st) w Q = Wp d 57 38 [a0, a1, some (.int x), a3, a4] (.int x :: st) w Q := Wp.loc e57_37 rfl rfl rfl
theorem e57_38 : decode (j_co 57) 38 = .ok (.iload_n 3, 1) := by decide +kernel
set_option maxRecDepth 20000 in
theorem w57_38 {d : Nat} {st : List Value} {Q : Option Value × jW → Prop} {w : jW} {a0 a1 a2 a4 : Option Value} {x : Int32} : Wp d 57 38 [a0, a1, a2, some (.int x), a4] (st) w Q = Wp d 57 39 [a0, a1, a2, some (.int x), a4] (.int x :: st) w Q := Wp.loc e57_38 rfl rfl rfl
theorem e57_39 : decode (j_co 57) 39 = .ok (.iload 4, 2) := by decide +kernel
set_option maxRecDepth 20000 in
theorem w57_39 {d : Nat} {st : List Value} {Q : Option Value × jW → Prop} {w : jW} {a0 a1 a2 a3 : Option Value} {x : Int32} : Wp d 57 39 [a0, a1, a2, a3, some (.int x)] (st) w Q = Wp d 57 41 [a0, a1, a2, a3, some (.int x)] (.int x :: st) w Q := Wp.loc e57_39 rfl rfl rfl
theorem e57_41 : decode (j_co 57) 41 = .ok (.invokevirtual 192, 3) := by decide +kernel
set_option maxRecDepth 20000 in
theorem w57_41 {d : Nat} {st : List Value} {Q : Option Value × jW → Prop} {ls : jL} {xs : List Value} {I : fI} {L : fL} {r : Nat} {x0 : Int32} {x1 : Int32} {x2 : Int32} {x3 : Int32} (hs : j_sumc st ≤ 8) (ht : f_tg r = 7) : Wp (d + 1) 57 41 ls (.int x3 :: .int x2 :: .int x1 :: .int x0 :: .ref r :: st) (f_W xs I L) Q = Wp d 60 0 [some (.ref r), some (.int x0), some (.int x1), some (.int x2), some (.int x3), none] [] (f_W xs I L) (fun r1 => Wp (d + 1) 57 44 ls (r1.1.toList ++ st) r1.2 Q) := Wp.cv (y' := 60) (as := [.int x0, .int x1, .int x2, .int x3]) e57_41 rfl (by decide) rfl (show 5 ≤ 6 by decide) (by decide) hs ht
theorem e57_44 : decode (j_co 57) 44 = .ok (.invokestatic 168, 3) := by decide +kernel
set_option maxRecDepth 20000 in
theorem w57_44 {d : Nat} {st : List Value} {Q : Option Value × jW → Prop} {ls : jL} {w : jW} {x0 : Int32} (hs : j_sumc st ≤ 8) : Wp (d + 1) 57 44 ls (.int x0 :: st) w Q = Wp d 55 0 [some (.int x0)] [] w (fun r1 => Wp (d + 1) 57 47 ls (r1.1.toList ++ st) r1.2 Q) := Wp.cs (kd := 1) (y' := 55) (as := [.int x0]) e57_44 rfl (by decide) (by decide) rfl (show 1 ≤ 1 by decide) hs
theorem e57_47 : decode (j_co 57) 47 = .ok (.ireturn, 1) := by decide +kernel
set_option maxRecDepth 20000 in
theorem w57_47 {d : Nat} {Q : Option Value × jW → Prop} {ls : jL} {w : jW} {x : Int32} : Wp d 57 47 ls [.int x] w Q = Q (some (.int x), w) := Wp.ret e57_47 rfl
/-! X.areWithin -/
theorem e58_0 : decode (j_co 58) 0 = .ok (.iload_n 0, 1) := by decide +kernel
set_option maxRecDepth 20000 in
theorem w58_0 {d : Nat} {st : List Value} {Q : Option Value × jW → Prop} {w : jW} {a1 a2 a3 : Option Value} {x : Int32} : Wp d 58 0 [some (.int x), a1, a2, a3] (st) w Q = Wp d 58 1 [some (.int x), a1, a2, a3] (.int x :: st) w Q := Wp.loc e58_0 rfl rfl rfl
theorem e58_1 : decode (j_co 58) 1 = .ok (.iload_n 3, 1) := by decide +kernel
set_option maxRecDepth 20000 in
theorem w58_1 {d : Nat} {st : List Value} {Q : Option Value × jW → Prop} {w : jW} {a0 a1 a2 : Option Value} {x : Int32} : Wp d 58 1 [a0, a1, a2, some (.int x)] (st) w Q = Wp d 58 2 [a0, a1, a2, some (.int x)] (.int x :: st) w Q := Wp.loc e58_1 rfl rfl rfl
theorem e58_2 : decode (j_co 58) 2 = .ok (.invokestatic 275, 3) := by decide +kernel
set_option maxRecDepth 20000 in
theorem w58_2 {d : Nat} {st : List Value} {Q : Option Value × jW → Prop} {ls : jL} {w : jW} {x0 : Int32} {x1 : Int32} (hs : j_sumc st ≤ 8) : Wp (d + 1) 58 2 ls (.int x1 :: .int x0 :: st) w Q = Wp d 59 0 [some (.int x0), some (.int x1)] [] w (fun r1 => Wp (d + 1) 58 5 ls (r1.1.toList ++ st) r1.2 Q) := Wp.cs (kd := 1) (y' := 59) (as := [.int x0, .int x1]) e58_2 rfl (by decide) (by decide) rfl (show 2 ≤ 2 by decide) hs
theorem e58_5 : decode (j_co 58) 5 = .ok (.ifCond .eq 23, 3) := by decide +kernel
set_option maxRecDepth 20000 in
theorem w58_5 {d : Nat} {st : List Value} {Q : Option Value × jW → Prop} {ls : jL} {w : jW} {a : Int32} : Wp d 58 5 ls (.int a :: st) w Q = ((a = nI 0 → Wp d 58 28 ls st w Q) ∧ (¬ a = nI 0 → Wp d 58 8 ls st w Q)) := Wp.if2 (c := a = nI 0) (off := 23) e58_5 rfl rfl rfl rfl rfl
theorem e58_8 : decode (j_co 58) 8 = .ok (.iload_n 1, 1) := by decide +kernel
set_option maxRecDepth 20000 in
theorem w58_8 {d : Nat} {st : List Value} {Q : Option Value × jW → Prop} {w : jW} {a0 a2 a3 : Option Value} {x : Int32} : Wp d 58 8 [a0, some (.int x), a2, a3] (st) w Q = Wp d 58 9 [a0, some (.int x), a2, a3] (.int x :: st) w Q := Wp.loc e58_8 rfl rfl rfl
theorem e58_9 : decode (j_co 58) 9 = .ok (.iload_n 3, 1) := by decide +kernel
set_option maxRecDepth 20000 in
theorem w58_9 {d : Nat} {st : List Value} {Q : Option Value × jW → Prop} {w : jW} {a0 a1 a2 : Option Value} {x : Int32} : Wp d 58 9 [a0, a1, a2, some (.int x)] (st) w Q = Wp d 58 10 [a0, a1, a2, some (.int x)] (.int x :: st) w Q := Wp.loc e58_9 rfl rfl rfl
theorem e58_10 : decode (j_co 58) 10 = .ok (.invokestatic 275, 3) := by decide +kernel
set_option maxRecDepth 20000 in
theorem w58_10 {d : Nat} {st : List Value} {Q : Option Value × jW → Prop} {ls : jL} {w : jW} {x0 : Int32} {x1 : Int32} (hs : j_sumc st ≤ 8) : Wp (d + 1) 58 10 ls (.int x1 :: .int x0 :: st) w Q = Wp d 59 0 [some (.int x0), some (.int x1)] [] w (fun r1 => Wp (d + 1) 58 13 ls (r1.1.toList ++ st) r1.2 Q) := Wp.cs (kd := 1) (y' := 59) (as := [.int x0, .int x1]) e58_10 rfl (by decide) (by decide) rfl (show 2 ≤ 2 by decide) hs
theorem e58_13 : decode (j_co 58) 13 = .ok (.ifCond .eq 15, 3) := by decide +kernel
set_option maxRecDepth 20000 in
theorem w58_13 {d : Nat} {st : List Value} {Q : Option Value × jW → Prop} {ls : jL} {w : jW} {a : Int32} : Wp d 58 13 ls (.int a :: st) w Q = ((a = nI 0 → Wp d 58 28 ls st w Q) ∧ (¬ a = nI 0 → Wp d 58 16 ls st w Q)) := Wp.if2 (c := a = nI 0) (off := 15) e58_13 rfl rfl rfl rfl rfl
theorem e58_16 : decode (j_co 58) 16 = .ok (.iload_n 2, 1) := by decide +kernel
set_option maxRecDepth 20000 in
theorem w58_16 {d : Nat} {st : List Value} {Q : Option Value × jW → Prop} {w : jW} {a0 a1 a3 : Option Value} {x : Int32} : Wp d 58 16 [a0, a1, some (.int x), a3] (st) w Q = Wp d 58 17 [a0, a1, some (.int x), a3] (.int x :: st) w Q := Wp.loc e58_16 rfl rfl rfl
theorem e58_17 : decode (j_co 58) 17 = .ok (.iload_n 3, 1) := by decide +kernel
set_option maxRecDepth 20000 in
theorem w58_17 {d : Nat} {st : List Value} {Q : Option Value × jW → Prop} {w : jW} {a0 a1 a2 : Option Value} {x : Int32} : Wp d 58 17 [a0, a1, a2, some (.int x)] (st) w Q = Wp d 58 18 [a0, a1, a2, some (.int x)] (.int x :: st) w Q := Wp.loc e58_17 rfl rfl rfl
theorem e58_18 : decode (j_co 58) 18 = .ok (.invokestatic 275, 3) := by decide +kernel
set_option maxRecDepth 20000 in
theorem w58_18 {d : Nat} {st : List Value} {Q : Option Value × jW → Prop} {ls : jL} {w : jW} {x0 : Int32} {x1 : Int32} (hs : j_sumc st ≤ 8) : Wp (d + 1) 58 18 ls (.int x1 :: .int x0 :: st) w Q = Wp d 59 0 [some (.int x0), some (.int x1)] [] w (fun r1 => Wp (d + 1) 58 21 ls (r1.1.toList ++ st) r1.2 Q) := Wp.cs (kd := 1) (y' := 59) (as := [.int x0, .int x1]) e58_18 rfl (by decide) (by decide) rfl (show 2 ≤ 2 by decide) hs
theorem e58_21 : decode (j_co 58) 21 = .ok (.ifCond .eq 7, 3) := by decide +kernel
set_option maxRecDepth 20000 in
theorem w58_21 {d : Nat} {st : List Value} {Q : Option Value × jW → Prop} {ls : jL} {w : jW} {a : Int32} : Wp d 58 21 ls (.int a :: st) w Q = ((a = nI 0 → Wp d 58 28 ls st w Q) ∧ (¬ a = nI 0 → Wp d 58 24 ls st w Q)) := Wp.if2 (c := a = nI 0) (off := 7) e58_21 rfl rfl rfl rfl rfl
theorem e58_24 : decode (j_co 58) 24 = .ok (.iconst 1, 1) := by decide +kernel
set_option maxRecDepth 20000 in
theorem w58_24 {d : Nat} {st : List Value} {Q : Option Value × jW → Prop} {ls : jL} {w : jW} : Wp d 58 24 ls (st) w Q = Wp d 58 25 ls (.int (nI 1) :: st) w Q := Wp.alu e58_24 rfl rfl
theorem e58_25 : decode (j_co 58) 25 = .ok (.goto 4, 3) := by decide +kernel
set_option maxRecDepth 20000 in
theorem w58_25 {d : Nat} {st : List Value} {Q : Option Value × jW → Prop} {ls : jL} {w : jW} : Wp d 58 25 ls (st) w Q = Wp d 58 29 ls (st) w Q := Wp.br e58_25 (Or.inl rfl) rfl rfl rfl rfl
theorem e58_28 : decode (j_co 58) 28 = .ok (.iconst 0, 1) := by decide +kernel
set_option maxRecDepth 20000 in
theorem w58_28 {d : Nat} {st : List Value} {Q : Option Value × jW → Prop} {ls : jL} {w : jW} : Wp d 58 28 ls (st) w Q = Wp d 58 29 ls (.int (nI 0) :: st) w Q := Wp.alu e58_28 rfl rfl
theorem e58_29 : decode (j_co 58) 29 = .ok (.ireturn, 1) := by decide +kernel
set_option maxRecDepth 20000 in
theorem w58_29 {d : Nat} {Q : Option Value × jW → Prop} {ls : jL} {w : jW} {x : Int32} (hx : x = 0 ∨ x = 1) : Wp d 58 29 ls [.int x] w Q = Q (some (.int x), w) := Wp.ret e58_29 (by rcases hx with rfl | rfl <;> rfl)
/-! X.isWithin -/
theorem e59_0 : decode (j_co 59) 0 = .ok (.iload_n 0, 1) := by decide +kernel
set_option maxRecDepth 20000 in
theorem w59_0 {d : Nat} {st : List Value} {Q : Option Value × jW → Prop} {w : jW} {a1 : Option Value} {x : Int32} : Wp d 59 0 [some (.int x), a1] (st) w Q = Wp d 59 1 [some (.int x), a1] (.int x :: st) w Q := Wp.loc e59_0 rfl rfl rfl
theorem e59_1 : decode (j_co 59) 1 = .ok (.iload_n 1, 1) := by decide +kernel
set_option maxRecDepth 20000 in
theorem w59_1 {d : Nat} {st : List Value} {Q : Option Value × jW → Prop} {w : jW} {a0 : Option Value} {x : Int32} : Wp d 59 1 [a0, some (.int x)] (st) w Q = Wp d 59 2 [a0, some (.int x)] (.int x :: st) w Q := Wp.loc e59_1 rfl rfl rfl
theorem e59_2 : decode (j_co 59) 2 = .ok (.ineg, 1) := by decide +kernel
set_option maxRecDepth 20000 in
theorem w59_2 {d : Nat} {st : List Value} {Q : Option Value × jW → Prop} {ls : jL} {w : jW} {a : Int32} : Wp d 59 2 ls (.int a :: st) w Q = Wp d 59 3 ls (.int (-a) :: st) w Q := Wp.alu e59_2 rfl rfl
theorem e59_3 : decode (j_co 59) 3 = .ok (.if_icmp .lt 12, 3) := by decide +kernel
set_option maxRecDepth 20000 in
theorem w59_3 {d : Nat} {st : List Value} {Q : Option Value × jW → Prop} {ls : jL} {w : jW} {a b : Int32} : Wp d 59 3 ls (.int b :: .int a :: st) w Q = ((a < b → Wp d 59 15 ls st w Q) ∧ (¬ a < b → Wp d 59 6 ls st w Q)) := Wp.if2 (c := a < b) (off := 12) e59_3 rfl rfl rfl rfl rfl
theorem e59_6 : decode (j_co 59) 6 = .ok (.iload_n 0, 1) := by decide +kernel
set_option maxRecDepth 20000 in
theorem w59_6 {d : Nat} {st : List Value} {Q : Option Value × jW → Prop} {w : jW} {a1 : Option Value} {x : Int32} : Wp d 59 6 [some (.int x), a1] (st) w Q = Wp d 59 7 [some (.int x), a1] (.int x :: st) w Q := Wp.loc e59_6 rfl rfl rfl
theorem e59_7 : decode (j_co 59) 7 = .ok (.iload_n 1, 1) := by decide +kernel
set_option maxRecDepth 20000 in
theorem w59_7 {d : Nat} {st : List Value} {Q : Option Value × jW → Prop} {w : jW} {a0 : Option Value} {x : Int32} : Wp d 59 7 [a0, some (.int x)] (st) w Q = Wp d 59 8 [a0, some (.int x)] (.int x :: st) w Q := Wp.loc e59_7 rfl rfl rfl
theorem e59_8 : decode (j_co 59) 8 = .ok (.if_icmp .gt 7, 3) := by decide +kernel
set_option maxRecDepth 20000 in
theorem w59_8 {d : Nat} {st : List Value} {Q : Option Value × jW → Prop} {ls : jL} {w : jW} {a b : Int32} : Wp d 59 8 ls (.int b :: .int a :: st) w Q = ((b < a → Wp d 59 15 ls st w Q) ∧ (¬ b < a → Wp d 59 11 ls st w Q)) := Wp.if2 (c := b < a) (off := 7) e59_8 rfl rfl rfl rfl rfl
theorem e59_11 : decode (j_co 59) 11 = .ok (.iconst 1, 1) := by decide +kernel
set_option maxRecDepth 20000 in
theorem w59_11 {d : Nat} {st : List Value} {Q : Option Value × jW → Prop} {ls : jL} {w : jW} : Wp d 59 11 ls (st) w Q = Wp d 59 12 ls (.int (nI 1) :: st) w Q := Wp.alu e59_11 rfl rfl
theorem e59_12 : decode (j_co 59) 12 = .ok (.goto 4, 3) := by decide +kernel
set_option maxRecDepth 20000 in
theorem w59_12 {d : Nat} {st : List Value} {Q : Option Value × jW → Prop} {ls : jL} {w : jW} : Wp d 59 12 ls (st) w Q = Wp d 59 16 ls (st) w Q := Wp.br e59_12 (Or.inl rfl) rfl rfl rfl rfl
theorem e59_15 : decode (j_co 59) 15 = .ok (.iconst 0, 1) := by decide +kernel
set_option maxRecDepth 20000 in
theorem w59_15 {d : Nat} {st : List Value} {Q : Option Value × jW → Prop} {ls : jL} {w : jW} : Wp d 59 15 ls (st) w Q = Wp d 59 16 ls (.int (nI 0) :: st) w Q := Wp.alu e59_15 rfl rfl
theorem e59_16 : decode (j_co 59) 16 = .ok (.ireturn, 1) := by decide +kernel
set_option maxRecDepth 20000 in
theorem w59_16 {d : Nat} {Q : Option Value × jW → Prop} {ls : jL} {w : jW} {x : Int32} (hx : x = 0 ∨ x = 1) : Wp d 59 16 ls [.int x] w Q = Q (some (.int x), w) := Wp.ret e59_16 (by rcases hx with rfl | rfl <;> rfl)
/-! X.many -/
theorem e63_0 : decode (j_co 63) 0 = .ok (.aload_n 0, 1) := by decide +kernel
set_option maxRecDepth 20000 in
theorem w63_0 {d : Nat} {st : List Value} {Q : Option Value × jW → Prop} {w : jW} {a1 : Option Value} {x : Nat} : Wp d 63 0 [some (.ref x), a1] (st) w Q = Wp d 63 1 [some (.ref x), a1] (.ref x :: st) w Q := Wp.loc e63_0 rfl rfl rfl
theorem e63_1 : decode (j_co 63) 1 = .ok (.getfield 10, 3) := by decide +kernel
set_option maxRecDepth 20000 in
theorem w63_1 {d : Nat} {st : List Value} {Q : Option Value × jW → Prop} {ls : jL} {xs : List Value} {I : fI} {L : fL} {o : Nat} (ht : f_tg o = 10) : Wp d 63 1 ls (.ref o :: st) (f_W xs I L) Q = Wp d 63 4 ls (.ref (f_rf o 0) :: st) (f_W xs I L) Q := Wp.getR (ci := 10) (k := 0) e63_1 rfl (by decide) (by decide) rfl ht
theorem e63_4 : decode (j_co 63) 4 = .ok (.iload_n 1, 1) := by decide +kernel
set_option maxRecDepth 20000 in
theorem w63_4 {d : Nat} {st : List Value} {Q : Option Value × jW → Prop} {w : jW} {a0 : Option Value} {x : Int32} : Wp d 63 4 [a0, some (.int x)] (st) w Q = Wp d 63 5 [a0, some (.int x)] (.int x :: st) w Q := Wp.loc e63_4 rfl rfl rfl
theorem e63_5 : decode (j_co 63) 5 = .ok (.invokevirtual 69, 3) := by decide +kernel
set_option maxRecDepth 20000 in
theorem w63_5 {d : Nat} {st : List Value} {Q : Option Value × jW → Prop} {ls : jL} {xs : List Value} {I : fI} {L : fL} {r : Nat} {x0 : Int32} (hs : j_sumc st ≤ 8) (ht : f_tg r = 5) : Wp (d + 1) 63 5 ls (.int x0 :: .ref r :: st) (f_W xs I L) Q = Wp d 16 0 [some (.ref r), some (.int x0)] [] (f_W xs I L) (fun r1 => Wp (d + 1) 63 8 ls (r1.1.toList ++ st) r1.2 Q) := Wp.cv (y' := 16) (as := [.int x0]) e63_5 rfl (by decide) rfl (show 2 ≤ 2 by decide) (by decide) hs ht
theorem e63_8 : decode (j_co 63) 8 = .ok (.ifCond .ne 5, 3) := by decide +kernel
set_option maxRecDepth 20000 in
theorem w63_8 {d : Nat} {st : List Value} {Q : Option Value × jW → Prop} {ls : jL} {w : jW} {a : Int32} : Wp d 63 8 ls (.int a :: st) w Q = ((a = nI 0 → Wp d 63 11 ls st w Q) ∧ (¬ a = nI 0 → Wp d 63 13 ls st w Q)) := Wp.if2n (c := a = nI 0) (off := 5) e63_8 rfl rfl rfl rfl rfl
theorem e63_11 : decode (j_co 63) 11 = .ok (.iconst (-1), 1) := by decide +kernel
set_option maxRecDepth 20000 in
theorem w63_11 {d : Nat} {st : List Value} {Q : Option Value × jW → Prop} {ls : jL} {w : jW} : Wp d 63 11 ls (st) w Q = Wp d 63 12 ls (.int (-1) :: st) w Q := Wp.alu e63_11 rfl rfl
theorem e63_12 : decode (j_co 63) 12 = .ok (.ireturn, 1) := by decide +kernel
set_option maxRecDepth 20000 in
theorem w63_12 {d : Nat} {Q : Option Value × jW → Prop} {ls : jL} {w : jW} {x : Int32} : Wp d 63 12 ls [.int x] w Q = Q (some (.int x), w) := Wp.ret e63_12 rfl
theorem e63_13 : decode (j_co 63) 13 = .ok (.aload_n 0, 1) := by decide +kernel
set_option maxRecDepth 20000 in
theorem w63_13 {d : Nat} {st : List Value} {Q : Option Value × jW → Prop} {w : jW} {a1 : Option Value} {x : Nat} : Wp d 63 13 [some (.ref x), a1] (st) w Q = Wp d 63 14 [some (.ref x), a1] (.ref x :: st) w Q := Wp.loc e63_13 rfl rfl rfl
theorem e63_14 : decode (j_co 63) 14 = .ok (.getfield 21, 3) := by decide +kernel
set_option maxRecDepth 20000 in
theorem w63_14 {d : Nat} {st : List Value} {Q : Option Value × jW → Prop} {ls : jL} {xs : List Value} {I : fI} {L : fL} {o : Nat} (ht : f_tg o = 10) : Wp d 63 14 ls (.ref o :: st) (f_W xs I L) Q = Wp d 63 17 ls (.ref (f_rf o 1) :: st) (f_W xs I L) Q := Wp.getR (ci := 10) (k := 1) e63_14 rfl (by decide) (by decide) rfl ht
theorem e63_17 : decode (j_co 63) 17 = .ok (.invokevirtual 139, 3) := by decide +kernel
set_option maxRecDepth 20000 in
theorem w63_17 {d : Nat} {st : List Value} {Q : Option Value × jW → Prop} {ls : jL} {xs : List Value} {I : fI} {L : fL} {r : Nat} (hs : j_sumc st ≤ 8) (ht : f_tg r = 7) : Wp (d + 1) 63 17 ls (.ref r :: st) (f_W xs I L) Q = Wp d 29 0 [some (.ref r)] [] (f_W xs I L) (fun r1 => Wp (d + 1) 63 20 ls (r1.1.toList ++ st) r1.2 Q) := Wp.cv (y' := 29) (as := []) e63_17 rfl (by decide) rfl (show 1 ≤ 1 by decide) (by decide) hs ht
theorem e63_20 : decode (j_co 63) 20 = .ok (.aload_n 0, 1) := by decide +kernel
set_option maxRecDepth 20000 in
theorem w63_20 {d : Nat} {st : List Value} {Q : Option Value × jW → Prop} {w : jW} {a1 : Option Value} {x : Nat} : Wp d 63 20 [some (.ref x), a1] (st) w Q = Wp d 63 21 [some (.ref x), a1] (.ref x :: st) w Q := Wp.loc e63_20 rfl rfl rfl
theorem e63_21 : decode (j_co 63) 21 = .ok (.getfield 21, 3) := by decide +kernel
set_option maxRecDepth 20000 in
theorem w63_21 {d : Nat} {st : List Value} {Q : Option Value × jW → Prop} {ls : jL} {xs : List Value} {I : fI} {L : fL} {o : Nat} (ht : f_tg o = 10) : Wp d 63 21 ls (.ref o :: st) (f_W xs I L) Q = Wp d 63 24 ls (.ref (f_rf o 1) :: st) (f_W xs I L) Q := Wp.getR (ci := 10) (k := 1) e63_21 rfl (by decide) (by decide) rfl ht
theorem e63_24 : decode (j_co 63) 24 = .ok (.iload_n 1, 1) := by decide +kernel
set_option maxRecDepth 20000 in
theorem w63_24 {d : Nat} {st : List Value} {Q : Option Value × jW → Prop} {w : jW} {a0 : Option Value} {x : Int32} : Wp d 63 24 [a0, some (.int x)] (st) w Q = Wp d 63 25 [a0, some (.int x)] (.int x :: st) w Q := Wp.loc e63_24 rfl rfl rfl
theorem e63_25 : decode (j_co 63) 25 = .ok (.invokevirtual 195, 3) := by decide +kernel
set_option maxRecDepth 20000 in
theorem w63_25 {d : Nat} {st : List Value} {Q : Option Value × jW → Prop} {ls : jL} {xs : List Value} {I : fI} {L : fL} {r : Nat} {x0 : Int32} (hs : j_sumc st ≤ 8) (ht : f_tg r = 7) : Wp (d + 1) 63 25 ls (.int x0 :: .ref r :: st) (f_W xs I L) Q = Wp d 64 0 [some (.ref r), some (.int x0), none, none] [] (f_W xs I L) (fun r1 => Wp (d + 1) 63 28 ls (r1.1.toList ++ st) r1.2 Q) := Wp.cv (y' := 64) (as := [.int x0]) e63_25 rfl (by decide) rfl (show 2 ≤ 4 by decide) (by decide) hs ht
theorem e63_28 : decode (j_co 63) 28 = .ok (.ireturn, 1) := by decide +kernel
set_option maxRecDepth 20000 in
theorem w63_28 {d : Nat} {Q : Option Value × jW → Prop} {ls : jL} {w : jW} {x : Int32} : Wp d 63 28 ls [.int x] w Q = Q (some (.int x), w) := Wp.ret e63_28 rfl
/-! X.shown -/
theorem e68_0 : decode (j_co 68) 0 = .ok (.aload_n 0, 1) := by decide +kernel
set_option maxRecDepth 20000 in
theorem w68_0 {d : Nat} {st : List Value} {Q : Option Value × jW → Prop} {w : jW} {x : Nat} : Wp d 68 0 [some (.ref x)] (st) w Q = Wp d 68 1 [some (.ref x)] (.ref x :: st) w Q := Wp.loc e68_0 rfl rfl rfl
theorem e68_1 : decode (j_co 68) 1 = .ok (.getfield 21, 3) := by decide +kernel
set_option maxRecDepth 20000 in
theorem w68_1 {d : Nat} {st : List Value} {Q : Option Value × jW → Prop} {ls : jL} {xs : List Value} {I : fI} {L : fL} {o : Nat} (ht : f_tg o = 10) : Wp d 68 1 ls (.ref o :: st) (f_W xs I L) Q = Wp d 68 4 ls (.ref (f_rf o 1) :: st) (f_W xs I L) Q := Wp.getR (ci := 10) (k := 1) e68_1 rfl (by decide) (by decide) rfl ht
theorem e68_4 : decode (j_co 68) 4 = .ok (.invokevirtual 139, 3) := by decide +kernel
set_option maxRecDepth 20000 in
theorem w68_4 {d : Nat} {st : List Value} {Q : Option Value × jW → Prop} {ls : jL} {xs : List Value} {I : fI} {L : fL} {r : Nat} (hs : j_sumc st ≤ 8) (ht : f_tg r = 7) : Wp (d + 1) 68 4 ls (.ref r :: st) (f_W xs I L) Q = Wp d 29 0 [some (.ref r)] [] (f_W xs I L) (fun r1 => Wp (d + 1) 68 7 ls (r1.1.toList ++ st) r1.2 Q) := Wp.cv (y' := 29) (as := []) e68_4 rfl (by decide) rfl (show 1 ≤ 1 by decide) (by decide) hs ht
theorem e68_7 : decode (j_co 68) 7 = .ok (.aload_n 0, 1) := by decide +kernel
set_option maxRecDepth 20000 in
theorem w68_7 {d : Nat} {st : List Value} {Q : Option Value × jW → Prop} {w : jW} {x : Nat} : Wp d 68 7 [some (.ref x)] (st) w Q = Wp d 68 8 [some (.ref x)] (.ref x :: st) w Q := Wp.loc e68_7 rfl rfl rfl
theorem e68_8 : decode (j_co 68) 8 = .ok (.getfield 30, 3) := by decide +kernel
set_option maxRecDepth 20000 in
theorem w68_8 {d : Nat} {st : List Value} {Q : Option Value × jW → Prop} {ls : jL} {xs : List Value} {I : fI} {L : fL} {o : Nat} (ht : f_tg o = 10) : Wp d 68 8 ls (.ref o :: st) (f_W xs I L) Q = Wp d 68 11 ls (.ref (f_rf o 2) :: st) (f_W xs I L) Q := Wp.getR (ci := 10) (k := 2) e68_8 rfl (by decide) (by decide) rfl ht
theorem e68_11 : decode (j_co 68) 11 = .ok (.invokevirtual 198, 3) := by decide +kernel
set_option maxRecDepth 20000 in
theorem w68_11 {d : Nat} {st : List Value} {Q : Option Value × jW → Prop} {ls : jL} {xs : List Value} {I : fI} {L : fL} {r : Nat} (hs : j_sumc st ≤ 8) (ht : f_tg r = 9) : Wp (d + 1) 68 11 ls (.ref r :: st) (f_W xs I L) Q = Wp d 69 0 [some (.ref r), none, none, none, none] [] (f_W xs I L) (fun r1 => Wp (d + 1) 68 14 ls (r1.1.toList ++ st) r1.2 Q) := Wp.cv (y' := 69) (as := []) e68_11 rfl (by decide) rfl (show 1 ≤ 5 by decide) (by decide) hs ht
theorem e68_14 : decode (j_co 68) 14 = .ok (.ifCond .eq 13, 3) := by decide +kernel
set_option maxRecDepth 20000 in
theorem w68_14 {d : Nat} {st : List Value} {Q : Option Value × jW → Prop} {ls : jL} {w : jW} {a : Int32} : Wp d 68 14 ls (.int a :: st) w Q = ((a = nI 0 → Wp d 68 27 ls st w Q) ∧ (¬ a = nI 0 → Wp d 68 17 ls st w Q)) := Wp.if2 (c := a = nI 0) (off := 13) e68_14 rfl rfl rfl rfl rfl
theorem e68_17 : decode (j_co 68) 17 = .ok (.aload_n 0, 1) := by decide +kernel
set_option maxRecDepth 20000 in
theorem w68_17 {d : Nat} {st : List Value} {Q : Option Value × jW → Prop} {w : jW} {x : Nat} : Wp d 68 17 [some (.ref x)] (st) w Q = Wp d 68 18 [some (.ref x)] (.ref x :: st) w Q := Wp.loc e68_17 rfl rfl rfl
theorem e68_18 : decode (j_co 68) 18 = .ok (.getfield 30, 3) := by decide +kernel
set_option maxRecDepth 20000 in
theorem w68_18 {d : Nat} {st : List Value} {Q : Option Value × jW → Prop} {ls : jL} {xs : List Value} {I : fI} {L : fL} {o : Nat} (ht : f_tg o = 10) : Wp d 68 18 ls (.ref o :: st) (f_W xs I L) Q = Wp d 68 21 ls (.ref (f_rf o 2) :: st) (f_W xs I L) Q := Wp.getR (ci := 10) (k := 2) e68_18 rfl (by decide) (by decide) rfl ht
theorem e68_21 : decode (j_co 68) 21 = .ok (.getfield 202, 3) := by decide +kernel
set_option maxRecDepth 20000 in
theorem w68_21 {d : Nat} {st : List Value} {Q : Option Value × jW → Prop} {ls : jL} {xs : List Value} {I : fI} {L : fL} {o : Nat} (ht : f_tg o = 9) : Wp d 68 21 ls (.ref o :: st) (f_W xs I L) Q = Wp d 68 24 ls (.int (I o 4) :: st) (f_W xs I L) Q := Wp.getI (ci := 9) (k := 4) e68_21 rfl (by decide) (by decide) (by decide) ht
theorem e68_24 : decode (j_co 68) 24 = .ok (.goto 5, 3) := by decide +kernel
set_option maxRecDepth 20000 in
theorem w68_24 {d : Nat} {st : List Value} {Q : Option Value × jW → Prop} {ls : jL} {w : jW} : Wp d 68 24 ls (st) w Q = Wp d 68 29 ls (st) w Q := Wp.br e68_24 (Or.inl rfl) rfl rfl rfl rfl
theorem e68_27 : decode (j_co 68) 27 = .ok (.bipush (-2), 2) := by decide +kernel
set_option maxRecDepth 20000 in
theorem w68_27 {d : Nat} {st : List Value} {Q : Option Value × jW → Prop} {ls : jL} {w : jW} : Wp d 68 27 ls (st) w Q = Wp d 68 29 ls (.int (-2) :: st) w Q := Wp.alu e68_27 rfl rfl
theorem e68_29 : decode (j_co 68) 29 = .ok (.ireturn, 1) := by decide +kernel
set_option maxRecDepth 20000 in
theorem w68_29 {d : Nat} {Q : Option Value × jW → Prop} {ls : jL} {w : jW} {x : Int32} : Wp d 68 29 ls [.int x] w Q = Q (some (.int x), w) := Wp.ret e68_29 rfl
/-! X.shownAt -/
theorem e74_0 : decode (j_co 74) 0 = .ok (.iload_n 2, 1) := by decide +kernel
set_option maxRecDepth 20000 in
theorem w74_0 {d : Nat} {st : List Value} {Q : Option Value × jW → Prop} {w : jW} {a0 a1 : Option Value} {x : Int32} : Wp d 74 0 [a0, a1, some (.int x)] (st) w Q = Wp d 74 1 [a0, a1, some (.int x)] (.int x :: st) w Q := Wp.loc e74_0 rfl rfl rfl
theorem e74_1 : decode (j_co 74) 1 = .ok (.ifCond .lt 8, 3) := by decide +kernel
set_option maxRecDepth 20000 in
theorem w74_1 {d : Nat} {st : List Value} {Q : Option Value × jW → Prop} {ls : jL} {w : jW} {a : Int32} : Wp d 74 1 ls (.int a :: st) w Q = ((a < nI 0 → Wp d 74 9 ls st w Q) ∧ (¬ a < nI 0 → Wp d 74 4 ls st w Q)) := Wp.if2 (c := a < nI 0) (off := 8) e74_1 rfl rfl rfl rfl rfl
theorem e74_4 : decode (j_co 74) 4 = .ok (.iload_n 2, 1) := by decide +kernel
set_option maxRecDepth 20000 in
theorem w74_4 {d : Nat} {st : List Value} {Q : Option Value × jW → Prop} {w : jW} {a0 a1 : Option Value} {x : Int32} : Wp d 74 4 [a0, a1, some (.int x)] (st) w Q = Wp d 74 5 [a0, a1, some (.int x)] (.int x :: st) w Q := Wp.loc e74_4 rfl rfl rfl
theorem e74_5 : decode (j_co 74) 5 = .ok (.iconst 4, 1) := by decide +kernel
set_option maxRecDepth 20000 in
theorem w74_5 {d : Nat} {st : List Value} {Q : Option Value × jW → Prop} {ls : jL} {w : jW} : Wp d 74 5 ls (st) w Q = Wp d 74 6 ls (.int (nI 4) :: st) w Q := Wp.alu e74_5 rfl rfl
theorem e74_6 : decode (j_co 74) 6 = .ok (.if_icmp .le 6, 3) := by decide +kernel
set_option maxRecDepth 20000 in
theorem w74_6 {d : Nat} {st : List Value} {Q : Option Value × jW → Prop} {ls : jL} {w : jW} {a b : Int32} : Wp d 74 6 ls (.int b :: .int a :: st) w Q = ((a ≤ b → Wp d 74 12 ls st w Q) ∧ (¬ a ≤ b → Wp d 74 9 ls st w Q)) := Wp.if2 (c := a ≤ b) (off := 6) e74_6 rfl rfl rfl rfl rfl
theorem e74_9 : decode (j_co 74) 9 = .ok (.bipush (-100), 2) := by decide +kernel
set_option maxRecDepth 20000 in
theorem w74_9 {d : Nat} {st : List Value} {Q : Option Value × jW → Prop} {ls : jL} {w : jW} : Wp d 74 9 ls (st) w Q = Wp d 74 11 ls (.int (-100) :: st) w Q := Wp.alu e74_9 rfl rfl
theorem e74_11 : decode (j_co 74) 11 = .ok (.ireturn, 1) := by decide +kernel
set_option maxRecDepth 20000 in
theorem w74_11 {d : Nat} {Q : Option Value × jW → Prop} {ls : jL} {w : jW} {x : Int32} : Wp d 74 11 ls [.int x] w Q = Q (some (.int x), w) := Wp.ret e74_11 rfl
theorem e74_12 : decode (j_co 74) 12 = .ok (.aload_n 0, 1) := by decide +kernel
set_option maxRecDepth 20000 in
theorem w74_12 {d : Nat} {st : List Value} {Q : Option Value × jW → Prop} {w : jW} {a1 a2 : Option Value} {x : Nat} : Wp d 74 12 [some (.ref x), a1, a2] (st) w Q = Wp d 74 13 [some (.ref x), a1, a2] (.ref x :: st) w Q := Wp.loc e74_12 rfl rfl rfl
theorem e74_13 : decode (j_co 74) 13 = .ok (.getfield 21, 3) := by decide +kernel
set_option maxRecDepth 20000 in
theorem w74_13 {d : Nat} {st : List Value} {Q : Option Value × jW → Prop} {ls : jL} {xs : List Value} {I : fI} {L : fL} {o : Nat} (ht : f_tg o = 10) : Wp d 74 13 ls (.ref o :: st) (f_W xs I L) Q = Wp d 74 16 ls (.ref (f_rf o 1) :: st) (f_W xs I L) Q := Wp.getR (ci := 10) (k := 1) e74_13 rfl (by decide) (by decide) rfl ht
theorem e74_16 : decode (j_co 74) 16 = .ok (.invokevirtual 139, 3) := by decide +kernel
set_option maxRecDepth 20000 in
theorem w74_16 {d : Nat} {st : List Value} {Q : Option Value × jW → Prop} {ls : jL} {xs : List Value} {I : fI} {L : fL} {r : Nat} (hs : j_sumc st ≤ 8) (ht : f_tg r = 7) : Wp (d + 1) 74 16 ls (.ref r :: st) (f_W xs I L) Q = Wp d 29 0 [some (.ref r)] [] (f_W xs I L) (fun r1 => Wp (d + 1) 74 19 ls (r1.1.toList ++ st) r1.2 Q) := Wp.cv (y' := 29) (as := []) e74_16 rfl (by decide) rfl (show 1 ≤ 1 by decide) (by decide) hs ht
theorem e74_19 : decode (j_co 74) 19 = .ok (.aload_n 0, 1) := by decide +kernel
set_option maxRecDepth 20000 in
theorem w74_19 {d : Nat} {st : List Value} {Q : Option Value × jW → Prop} {w : jW} {a1 a2 : Option Value} {x : Nat} : Wp d 74 19 [some (.ref x), a1, a2] (st) w Q = Wp d 74 20 [some (.ref x), a1, a2] (.ref x :: st) w Q := Wp.loc e74_19 rfl rfl rfl
theorem e74_20 : decode (j_co 74) 20 = .ok (.getfield 30, 3) := by decide +kernel
set_option maxRecDepth 20000 in
theorem w74_20 {d : Nat} {st : List Value} {Q : Option Value × jW → Prop} {ls : jL} {xs : List Value} {I : fI} {L : fL} {o : Nat} (ht : f_tg o = 10) : Wp d 74 20 ls (.ref o :: st) (f_W xs I L) Q = Wp d 74 23 ls (.ref (f_rf o 2) :: st) (f_W xs I L) Q := Wp.getR (ci := 10) (k := 2) e74_20 rfl (by decide) (by decide) rfl ht
theorem e74_23 : decode (j_co 74) 23 = .ok (.invokevirtual 198, 3) := by decide +kernel
set_option maxRecDepth 20000 in
theorem w74_23 {d : Nat} {st : List Value} {Q : Option Value × jW → Prop} {ls : jL} {xs : List Value} {I : fI} {L : fL} {r : Nat} (hs : j_sumc st ≤ 8) (ht : f_tg r = 9) : Wp (d + 1) 74 23 ls (.ref r :: st) (f_W xs I L) Q = Wp d 69 0 [some (.ref r), none, none, none, none] [] (f_W xs I L) (fun r1 => Wp (d + 1) 74 26 ls (r1.1.toList ++ st) r1.2 Q) := Wp.cv (y' := 69) (as := []) e74_23 rfl (by decide) rfl (show 1 ≤ 5 by decide) (by decide) hs ht
theorem e74_26 : decode (j_co 74) 26 = .ok (.ifCond .ne 6, 3) := by decide +kernel
set_option maxRecDepth 20000 in
theorem w74_26 {d : Nat} {st : List Value} {Q : Option Value × jW → Prop} {ls : jL} {w : jW} {a : Int32} : Wp d 74 26 ls (.int a :: st) w Q = ((a = nI 0 → Wp d 74 29 ls st w Q) ∧ (¬ a = nI 0 → Wp d 74 32 ls st w Q)) := Wp.if2n (c := a = nI 0) (off := 6) e74_26 rfl rfl rfl rfl rfl
theorem e74_29 : decode (j_co 74) 29 = .ok (.bipush (-102), 2) := by decide +kernel
set_option maxRecDepth 20000 in
theorem w74_29 {d : Nat} {st : List Value} {Q : Option Value × jW → Prop} {ls : jL} {w : jW} : Wp d 74 29 ls (st) w Q = Wp d 74 31 ls (.int (-102) :: st) w Q := Wp.alu e74_29 rfl rfl
theorem e74_31 : decode (j_co 74) 31 = .ok (.ireturn, 1) := by decide +kernel
set_option maxRecDepth 20000 in
theorem w74_31 {d : Nat} {Q : Option Value × jW → Prop} {ls : jL} {w : jW} {x : Int32} : Wp d 74 31 ls [.int x] w Q = Q (some (.int x), w) := Wp.ret e74_31 rfl
theorem e74_32 : decode (j_co 74) 32 = .ok (.aload_n 0, 1) := by decide +kernel
set_option maxRecDepth 20000 in
theorem w74_32 {d : Nat} {st : List Value} {Q : Option Value × jW → Prop} {w : jW} {a1 a2 : Option Value} {x : Nat} : Wp d 74 32 [some (.ref x), a1, a2] (st) w Q = Wp d 74 33 [some (.ref x), a1, a2] (.ref x :: st) w Q := Wp.loc e74_32 rfl rfl rfl
theorem e74_33 : decode (j_co 74) 33 = .ok (.getfield 30, 3) := by decide +kernel
set_option maxRecDepth 20000 in
theorem w74_33 {d : Nat} {st : List Value} {Q : Option Value × jW → Prop} {ls : jL} {xs : List Value} {I : fI} {L : fL} {o : Nat} (ht : f_tg o = 10) : Wp d 74 33 ls (.ref o :: st) (f_W xs I L) Q = Wp d 74 36 ls (.ref (f_rf o 2) :: st) (f_W xs I L) Q := Wp.getR (ci := 10) (k := 2) e74_33 rfl (by decide) (by decide) rfl ht
theorem e74_36 : decode (j_co 74) 36 = .ok (.iload_n 1, 1) := by decide +kernel
set_option maxRecDepth 20000 in
theorem w74_36 {d : Nat} {st : List Value} {Q : Option Value × jW → Prop} {w : jW} {a0 a2 : Option Value} {x : Int32} : Wp d 74 36 [a0, some (.int x), a2] (st) w Q = Wp d 74 37 [a0, some (.int x), a2] (.int x :: st) w Q := Wp.loc e74_36 rfl rfl rfl
theorem e74_37 : decode (j_co 74) 37 = .ok (.iload_n 2, 1) := by decide +kernel
set_option maxRecDepth 20000 in
theorem w74_37 {d : Nat} {st : List Value} {Q : Option Value × jW → Prop} {w : jW} {a0 a1 : Option Value} {x : Int32} : Wp d 74 37 [a0, a1, some (.int x)] (st) w Q = Wp d 74 38 [a0, a1, some (.int x)] (.int x :: st) w Q := Wp.loc e74_37 rfl rfl rfl
theorem e74_38 : decode (j_co 74) 38 = .ok (.invokevirtual 205, 3) := by decide +kernel
set_option maxRecDepth 20000 in
theorem w74_38 {d : Nat} {st : List Value} {Q : Option Value × jW → Prop} {ls : jL} {xs : List Value} {I : fI} {L : fL} {r : Nat} {x0 : Int32} {x1 : Int32} (hs : j_sumc st ≤ 8) (ht : f_tg r = 9) : Wp (d + 1) 74 38 ls (.int x1 :: .int x0 :: .ref r :: st) (f_W xs I L) Q = Wp d 75 0 [some (.ref r), some (.int x0), some (.int x1)] [] (f_W xs I L) (fun r1 => Wp (d + 1) 74 41 ls (r1.1.toList ++ st) r1.2 Q) := Wp.cv (y' := 75) (as := [.int x0, .int x1]) e74_38 rfl (by decide) rfl (show 3 ≤ 3 by decide) (by decide) hs ht
theorem e74_41 : decode (j_co 74) 41 = .ok (.ireturn, 1) := by decide +kernel
set_option maxRecDepth 20000 in
theorem w74_41 {d : Nat} {Q : Option Value × jW → Prop} {ls : jL} {w : jW} {x : Int32} : Wp d 74 41 ls [.int x] w Q = Q (some (.int x), w) := Wp.ret e74_41 rfl
/-! X.fence -/
theorem e76_0 : decode (j_co 76) 0 = .ok (.aload_n 0, 1) := by decide +kernel
set_option maxRecDepth 20000 in
theorem w76_0 {d : Nat} {st : List Value} {Q : Option Value × jW → Prop} {w : jW} {a1 a2 a3 a4 : Option Value} {x : Nat} : Wp d 76 0 [some (.ref x), a1, a2, a3, a4] (st) w Q = Wp d 76 1 [some (.ref x), a1, a2, a3, a4] (.ref x :: st) w Q := Wp.loc e76_0 rfl rfl rfl
theorem e76_1 : decode (j_co 76) 1 = .ok (.getfield 10, 3) := by decide +kernel
set_option maxRecDepth 20000 in
theorem w76_1 {d : Nat} {st : List Value} {Q : Option Value × jW → Prop} {ls : jL} {xs : List Value} {I : fI} {L : fL} {o : Nat} (ht : f_tg o = 10) : Wp d 76 1 ls (.ref o :: st) (f_W xs I L) Q = Wp d 76 4 ls (.ref (f_rf o 0) :: st) (f_W xs I L) Q := Wp.getR (ci := 10) (k := 0) e76_1 rfl (by decide) (by decide) rfl ht
theorem e76_4 : decode (j_co 76) 4 = .ok (.iload_n 1, 1) := by decide +kernel
set_option maxRecDepth 20000 in
theorem w76_4 {d : Nat} {st : List Value} {Q : Option Value × jW → Prop} {w : jW} {a0 a2 a3 a4 : Option Value} {x : Int32} : Wp d 76 4 [a0, some (.int x), a2, a3, a4] (st) w Q = Wp d 76 5 [a0, some (.int x), a2, a3, a4] (.int x :: st) w Q := Wp.loc e76_4 rfl rfl rfl
theorem e76_5 : decode (j_co 76) 5 = .ok (.invokevirtual 69, 3) := by decide +kernel
set_option maxRecDepth 20000 in
theorem w76_5 {d : Nat} {st : List Value} {Q : Option Value × jW → Prop} {ls : jL} {xs : List Value} {I : fI} {L : fL} {r : Nat} {x0 : Int32} (hs : j_sumc st ≤ 8) (ht : f_tg r = 5) : Wp (d + 1) 76 5 ls (.int x0 :: .ref r :: st) (f_W xs I L) Q = Wp d 16 0 [some (.ref r), some (.int x0)] [] (f_W xs I L) (fun r1 => Wp (d + 1) 76 8 ls (r1.1.toList ++ st) r1.2 Q) := Wp.cv (y' := 16) (as := [.int x0]) e76_5 rfl (by decide) rfl (show 2 ≤ 2 by decide) (by decide) hs ht
theorem e76_8 : decode (j_co 76) 8 = .ok (.ifCond .eq 15, 3) := by decide +kernel
set_option maxRecDepth 20000 in
theorem w76_8 {d : Nat} {st : List Value} {Q : Option Value × jW → Prop} {ls : jL} {w : jW} {a : Int32} : Wp d 76 8 ls (.int a :: st) w Q = ((a = nI 0 → Wp d 76 23 ls st w Q) ∧ (¬ a = nI 0 → Wp d 76 11 ls st w Q)) := Wp.if2 (c := a = nI 0) (off := 15) e76_8 rfl rfl rfl rfl rfl
theorem e76_11 : decode (j_co 76) 11 = .ok (.iload_n 2, 1) := by decide +kernel
set_option maxRecDepth 20000 in
theorem w76_11 {d : Nat} {st : List Value} {Q : Option Value × jW → Prop} {w : jW} {a0 a1 a3 a4 : Option Value} {x : Int32} : Wp d 76 11 [a0, a1, some (.int x), a3, a4] (st) w Q = Wp d 76 12 [a0, a1, some (.int x), a3, a4] (.int x :: st) w Q := Wp.loc e76_11 rfl rfl rfl
theorem e76_12 : decode (j_co 76) 12 = .ok (.iload_n 3, 1) := by decide +kernel
set_option maxRecDepth 20000 in
theorem w76_12 {d : Nat} {st : List Value} {Q : Option Value × jW → Prop} {w : jW} {a0 a1 a2 a4 : Option Value} {x : Int32} : Wp d 76 12 [a0, a1, a2, some (.int x), a4] (st) w Q = Wp d 76 13 [a0, a1, a2, some (.int x), a4] (.int x :: st) w Q := Wp.loc e76_12 rfl rfl rfl
theorem e76_13 : decode (j_co 76) 13 = .ok (.iload 4, 2) := by decide +kernel
set_option maxRecDepth 20000 in
theorem w76_13 {d : Nat} {st : List Value} {Q : Option Value × jW → Prop} {w : jW} {a0 a1 a2 a3 : Option Value} {x : Int32} : Wp d 76 13 [a0, a1, a2, a3, some (.int x)] (st) w Q = Wp d 76 15 [a0, a1, a2, a3, some (.int x)] (.int x :: st) w Q := Wp.loc e76_13 rfl rfl rfl
theorem e76_15 : decode (j_co 76) 15 = .ok (.bipush 20, 2) := by decide +kernel
set_option maxRecDepth 20000 in
theorem w76_15 {d : Nat} {st : List Value} {Q : Option Value × jW → Prop} {ls : jL} {w : jW} : Wp d 76 15 ls (st) w Q = Wp d 76 17 ls (.int (nI 20) :: st) w Q := Wp.alu e76_15 rfl rfl
theorem e76_17 : decode (j_co 76) 17 = .ok (.invokestatic 73, 3) := by decide +kernel
set_option maxRecDepth 20000 in
theorem w76_17 {d : Nat} {st : List Value} {Q : Option Value × jW → Prop} {ls : jL} {w : jW} {x0 : Int32} {x1 : Int32} {x2 : Int32} {x3 : Int32} (hs : j_sumc st ≤ 8) : Wp (d + 1) 76 17 ls (.int x3 :: .int x2 :: .int x1 :: .int x0 :: st) w Q = Wp d 17 0 [some (.int x0), some (.int x1), some (.int x2), some (.int x3)] [] w (fun r1 => Wp (d + 1) 76 20 ls (r1.1.toList ++ st) r1.2 Q) := Wp.cs (kd := 1) (y' := 17) (as := [.int x0, .int x1, .int x2, .int x3]) e76_17 rfl (by decide) (by decide) rfl (show 4 ≤ 4 by decide) hs
theorem e76_20 : decode (j_co 76) 20 = .ok (.ifCond .ne 5, 3) := by decide +kernel
set_option maxRecDepth 20000 in
theorem w76_20 {d : Nat} {st : List Value} {Q : Option Value × jW → Prop} {ls : jL} {w : jW} {a : Int32} : Wp d 76 20 ls (.int a :: st) w Q = ((a = nI 0 → Wp d 76 23 ls st w Q) ∧ (¬ a = nI 0 → Wp d 76 25 ls st w Q)) := Wp.if2n (c := a = nI 0) (off := 5) e76_20 rfl rfl rfl rfl rfl
theorem e76_23 : decode (j_co 76) 23 = .ok (.iconst (-1), 1) := by decide +kernel
set_option maxRecDepth 20000 in
theorem w76_23 {d : Nat} {st : List Value} {Q : Option Value × jW → Prop} {ls : jL} {w : jW} : Wp d 76 23 ls (st) w Q = Wp d 76 24 ls (.int (-1) :: st) w Q := Wp.alu e76_23 rfl rfl
theorem e76_24 : decode (j_co 76) 24 = .ok (.ireturn, 1) := by decide +kernel
set_option maxRecDepth 20000 in
theorem w76_24 {d : Nat} {Q : Option Value × jW → Prop} {ls : jL} {w : jW} {x : Int32} : Wp d 76 24 ls [.int x] w Q = Q (some (.int x), w) := Wp.ret e76_24 rfl
theorem e76_25 : decode (j_co 76) 25 = .ok (.aload_n 0, 1) := by decide +kernel
set_option maxRecDepth 20000 in
theorem w76_25 {d : Nat} {st : List Value} {Q : Option Value × jW → Prop} {w : jW} {a1 a2 a3 a4 : Option Value} {x : Nat} : Wp d 76 25 [some (.ref x), a1, a2, a3, a4] (st) w Q = Wp d 76 26 [some (.ref x), a1, a2, a3, a4] (.ref x :: st) w Q := Wp.loc e76_25 rfl rfl rfl
theorem e76_26 : decode (j_co 76) 26 = .ok (.getfield 37, 3) := by decide +kernel
set_option maxRecDepth 20000 in
theorem w76_26 {d : Nat} {st : List Value} {Q : Option Value × jW → Prop} {ls : jL} {xs : List Value} {I : fI} {L : fL} {o : Nat} (ht : f_tg o = 10) : Wp d 76 26 ls (.ref o :: st) (f_W xs I L) Q = Wp d 76 29 ls (.ref (f_rf o 3) :: st) (f_W xs I L) Q := Wp.getR (ci := 10) (k := 3) e76_26 rfl (by decide) (by decide) rfl ht
theorem e76_29 : decode (j_co 76) 29 = .ok (.aload_n 0, 1) := by decide +kernel
set_option maxRecDepth 20000 in
theorem w76_29 {d : Nat} {st : List Value} {Q : Option Value × jW → Prop} {w : jW} {a1 a2 a3 a4 : Option Value} {x : Nat} : Wp d 76 29 [some (.ref x), a1, a2, a3, a4] (st) w Q = Wp d 76 30 [some (.ref x), a1, a2, a3, a4] (.ref x :: st) w Q := Wp.loc e76_29 rfl rfl rfl
theorem e76_30 : decode (j_co 76) 30 = .ok (.getfield 10, 3) := by decide +kernel
set_option maxRecDepth 20000 in
theorem w76_30 {d : Nat} {st : List Value} {Q : Option Value × jW → Prop} {ls : jL} {xs : List Value} {I : fI} {L : fL} {o : Nat} (ht : f_tg o = 10) : Wp d 76 30 ls (.ref o :: st) (f_W xs I L) Q = Wp d 76 33 ls (.ref (f_rf o 0) :: st) (f_W xs I L) Q := Wp.getR (ci := 10) (k := 0) e76_30 rfl (by decide) (by decide) rfl ht
theorem e76_33 : decode (j_co 76) 33 = .ok (.getfield 77, 3) := by decide +kernel
set_option maxRecDepth 20000 in
theorem w76_33 {d : Nat} {st : List Value} {Q : Option Value × jW → Prop} {ls : jL} {xs : List Value} {I : fI} {L : fL} {o : Nat} (ht : f_tg o = 5) : Wp d 76 33 ls (.ref o :: st) (f_W xs I L) Q = Wp d 76 36 ls (.ref (f_rf o 0) :: st) (f_W xs I L) Q := Wp.getR (ci := 5) (k := 0) e76_33 rfl (by decide) (by decide) rfl ht
theorem e76_36 : decode (j_co 76) 36 = .ok (.iload_n 1, 1) := by decide +kernel
set_option maxRecDepth 20000 in
theorem w76_36 {d : Nat} {st : List Value} {Q : Option Value × jW → Prop} {w : jW} {a0 a2 a3 a4 : Option Value} {x : Int32} : Wp d 76 36 [a0, some (.int x), a2, a3, a4] (st) w Q = Wp d 76 37 [a0, some (.int x), a2, a3, a4] (.int x :: st) w Q := Wp.loc e76_36 rfl rfl rfl
theorem e76_37 : decode (j_co 76) 37 = .ok (.aaload, 1) := by decide +kernel
set_option maxRecDepth 20000 in
theorem w76_37 {d : Nat} {st : List Value} {Q : Option Value × jW → Prop} {ls : jL} {xs : List Value} {I : fI} {L : fL} {o : Nat} {i : Int32} (ht : 103 ≤ f_tg o ∧ f_tg o ≤ 106) (hi : ¬ (i < 0 ∨ f_ln o ≤ i.toNatClampNeg)) : Wp d 76 37 ls (.int i :: .ref o :: st) (f_W xs I L) Q = Wp d 76 38 ls (.ref (f_rf o i.toNatClampNeg) :: st) (f_W xs I L) Q := Wp.aald e76_37 rfl ht hi
theorem e76_38 : decode (j_co 76) 38 = .ok (.iload_n 2, 1) := by decide +kernel
set_option maxRecDepth 20000 in
theorem w76_38 {d : Nat} {st : List Value} {Q : Option Value × jW → Prop} {w : jW} {a0 a1 a3 a4 : Option Value} {x : Int32} : Wp d 76 38 [a0, a1, some (.int x), a3, a4] (st) w Q = Wp d 76 39 [a0, a1, some (.int x), a3, a4] (.int x :: st) w Q := Wp.loc e76_38 rfl rfl rfl
theorem e76_39 : decode (j_co 76) 39 = .ok (.iload_n 3, 1) := by decide +kernel
set_option maxRecDepth 20000 in
theorem w76_39 {d : Nat} {st : List Value} {Q : Option Value × jW → Prop} {w : jW} {a0 a1 a2 a4 : Option Value} {x : Int32} : Wp d 76 39 [a0, a1, a2, some (.int x), a4] (st) w Q = Wp d 76 40 [a0, a1, a2, some (.int x), a4] (.int x :: st) w Q := Wp.loc e76_39 rfl rfl rfl
theorem e76_40 : decode (j_co 76) 40 = .ok (.iload 4, 2) := by decide +kernel
set_option maxRecDepth 20000 in
theorem w76_40 {d : Nat} {st : List Value} {Q : Option Value × jW → Prop} {w : jW} {a0 a1 a2 a3 : Option Value} {x : Int32} : Wp d 76 40 [a0, a1, a2, a3, some (.int x)] (st) w Q = Wp d 76 42 [a0, a1, a2, a3, some (.int x)] (.int x :: st) w Q := Wp.loc e76_40 rfl rfl rfl
theorem e76_42 : decode (j_co 76) 42 = .ok (.invokevirtual 209, 3) := by decide +kernel
set_option maxRecDepth 20000 in
theorem w76_42 {d : Nat} {st : List Value} {Q : Option Value × jW → Prop} {ls : jL} {xs : List Value} {I : fI} {L : fL} {r : Nat} {x0 : Nat} {x1 : Int32} {x2 : Int32} {x3 : Int32} (hs : j_sumc st ≤ 8) (ht : f_tg r = 1) : Wp (d + 1) 76 42 ls (.int x3 :: .int x2 :: .int x1 :: .ref x0 :: .ref r :: st) (f_W xs I L) Q = Wp d 77 0 [some (.ref r), some (.ref x0), some (.int x1), some (.int x2), some (.int x3)] [] (f_W xs I L) (fun r1 => Wp (d + 1) 76 45 ls (r1.1.toList ++ st) r1.2 Q) := Wp.cv (y' := 77) (as := [.ref x0, .int x1, .int x2, .int x3]) e76_42 rfl (by decide) rfl (show 5 ≤ 5 by decide) (by decide) hs ht
theorem e76_45 : decode (j_co 76) 45 = .ok (.iconst 1, 1) := by decide +kernel
set_option maxRecDepth 20000 in
theorem w76_45 {d : Nat} {st : List Value} {Q : Option Value × jW → Prop} {ls : jL} {w : jW} : Wp d 76 45 ls (st) w Q = Wp d 76 46 ls (.int (nI 1) :: st) w Q := Wp.alu e76_45 rfl rfl
theorem e76_46 : decode (j_co 76) 46 = .ok (.ireturn, 1) := by decide +kernel
set_option maxRecDepth 20000 in
theorem w76_46 {d : Nat} {Q : Option Value × jW → Prop} {ls : jL} {w : jW} {x : Int32} : Wp d 76 46 ls [.int x] w Q = Q (some (.int x), w) := Wp.ret e76_46 rfl
/-! X.open -/
theorem e78_0 : decode (j_co 78) 0 = .ok (.aload_n 0, 1) := by decide +kernel
set_option maxRecDepth 20000 in
theorem w78_0 {d : Nat} {st : List Value} {Q : Option Value × jW → Prop} {w : jW} {x : Nat} : Wp d 78 0 [some (.ref x)] (st) w Q = Wp d 78 1 [some (.ref x)] (.ref x :: st) w Q := Wp.loc e78_0 rfl rfl rfl
theorem e78_1 : decode (j_co 78) 1 = .ok (.getfield 37, 3) := by decide +kernel
set_option maxRecDepth 20000 in
theorem w78_1 {d : Nat} {st : List Value} {Q : Option Value × jW → Prop} {ls : jL} {xs : List Value} {I : fI} {L : fL} {o : Nat} (ht : f_tg o = 10) : Wp d 78 1 ls (.ref o :: st) (f_W xs I L) Q = Wp d 78 4 ls (.ref (f_rf o 3) :: st) (f_W xs I L) Q := Wp.getR (ci := 10) (k := 3) e78_1 rfl (by decide) (by decide) rfl ht
theorem e78_4 : decode (j_co 78) 4 = .ok (.invokevirtual 213, 3) := by decide +kernel
set_option maxRecDepth 20000 in
theorem w78_4 {d : Nat} {st : List Value} {Q : Option Value × jW → Prop} {ls : jL} {xs : List Value} {I : fI} {L : fL} {r : Nat} (hs : j_sumc st ≤ 8) (ht : f_tg r = 1) : Wp (d + 1) 78 4 ls (.ref r :: st) (f_W xs I L) Q = Wp d 79 0 [some (.ref r), none, none] [] (f_W xs I L) (fun r1 => Wp (d + 1) 78 7 ls (r1.1.toList ++ st) r1.2 Q) := Wp.cv (y' := 79) (as := []) e78_4 rfl (by decide) rfl (show 1 ≤ 3 by decide) (by decide) hs ht
theorem e78_7 : decode (j_co 78) 7 = .ok (.ireturn, 1) := by decide +kernel
set_option maxRecDepth 20000 in
theorem w78_7 {d : Nat} {Q : Option Value × jW → Prop} {ls : jL} {w : jW} {x : Int32} : Wp d 78 7 ls [.int x] w Q = Q (some (.int x), w) := Wp.ret e78_7 rfl
/-! X.holds -/
theorem e80_0 : decode (j_co 80) 0 = .ok (.aload_n 0, 1) := by decide +kernel
set_option maxRecDepth 20000 in
theorem w80_0 {d : Nat} {st : List Value} {Q : Option Value × jW → Prop} {w : jW} {x : Nat} : Wp d 80 0 [some (.ref x)] (st) w Q = Wp d 80 1 [some (.ref x)] (.ref x :: st) w Q := Wp.loc e80_0 rfl rfl rfl
theorem e80_1 : decode (j_co 80) 1 = .ok (.getfield 37, 3) := by decide +kernel
set_option maxRecDepth 20000 in
theorem w80_1 {d : Nat} {st : List Value} {Q : Option Value × jW → Prop} {ls : jL} {xs : List Value} {I : fI} {L : fL} {o : Nat} (ht : f_tg o = 10) : Wp d 80 1 ls (.ref o :: st) (f_W xs I L) Q = Wp d 80 4 ls (.ref (f_rf o 3) :: st) (f_W xs I L) Q := Wp.getR (ci := 10) (k := 3) e80_1 rfl (by decide) (by decide) rfl ht
theorem e80_4 : decode (j_co 80) 4 = .ok (.invokevirtual 216, 3) := by decide +kernel
set_option maxRecDepth 20000 in
theorem w80_4 {d : Nat} {st : List Value} {Q : Option Value × jW → Prop} {ls : jL} {xs : List Value} {I : fI} {L : fL} {r : Nat} (hs : j_sumc st ≤ 8) (ht : f_tg r = 1) : Wp (d + 1) 80 4 ls (.ref r :: st) (f_W xs I L) Q = Wp d 81 0 [some (.ref r), none, none, none] [] (f_W xs I L) (fun r1 => Wp (d + 1) 80 7 ls (r1.1.toList ++ st) r1.2 Q) := Wp.cv (y' := 81) (as := []) e80_4 rfl (by decide) rfl (show 1 ≤ 4 by decide) (by decide) hs ht
theorem e80_7 : decode (j_co 80) 7 = .ok (.ireturn, 1) := by decide +kernel
set_option maxRecDepth 20000 in
theorem w80_7 {d : Nat} {Q : Option Value × jW → Prop} {ls : jL} {w : jW} {x : Int32} : Wp d 80 7 ls [.int x] w Q = Q (some (.int x), w) := Wp.ret e80_7 rfl
/-! X.run -/
theorem e86_0 : decode (j_co 86) 0 = .ok (.iload_n 1, 1) := by decide +kernel
set_option maxRecDepth 20000 in
theorem w86_0 {d : Nat} {st : List Value} {Q : Option Value × jW → Prop} {w : jW} {a0 a2 a3 : Option Value} {x : Int32} : Wp d 86 0 [a0, some (.int x), a2, a3] (st) w Q = Wp d 86 1 [a0, some (.int x), a2, a3] (.int x :: st) w Q := Wp.loc e86_0 rfl rfl rfl
theorem e86_1 : decode (j_co 86) 1 = .ok (.iload_n 2, 1) := by decide +kernel
set_option maxRecDepth 20000 in
theorem w86_1 {d : Nat} {st : List Value} {Q : Option Value × jW → Prop} {w : jW} {a0 a1 a3 : Option Value} {x : Int32} : Wp d 86 1 [a0, a1, some (.int x), a3] (st) w Q = Wp d 86 2 [a0, a1, some (.int x), a3] (.int x :: st) w Q := Wp.loc e86_1 rfl rfl rfl
theorem e86_2 : decode (j_co 86) 2 = .ok (.iload_n 3, 1) := by decide +kernel
set_option maxRecDepth 20000 in
theorem w86_2 {d : Nat} {st : List Value} {Q : Option Value × jW → Prop} {w : jW} {a0 a1 a2 : Option Value} {x : Int32} : Wp d 86 2 [a0, a1, a2, some (.int x)] (st) w Q = Wp d 86 3 [a0, a1, a2, some (.int x)] (.int x :: st) w Q := Wp.loc e86_2 rfl rfl rfl
theorem e86_3 : decode (j_co 86) 3 = .ok (.bipush 20, 2) := by decide +kernel
set_option maxRecDepth 20000 in
theorem w86_3 {d : Nat} {st : List Value} {Q : Option Value × jW → Prop} {ls : jL} {w : jW} : Wp d 86 3 ls (st) w Q = Wp d 86 5 ls (.int (nI 20) :: st) w Q := Wp.alu e86_3 rfl rfl
theorem e86_5 : decode (j_co 86) 5 = .ok (.invokestatic 189, 3) := by decide +kernel
set_option maxRecDepth 20000 in
theorem w86_5 {d : Nat} {st : List Value} {Q : Option Value × jW → Prop} {ls : jL} {w : jW} {x0 : Int32} {x1 : Int32} {x2 : Int32} {x3 : Int32} (hs : j_sumc st ≤ 8) : Wp (d + 1) 86 5 ls (.int x3 :: .int x2 :: .int x1 :: .int x0 :: st) w Q = Wp d 58 0 [some (.int x0), some (.int x1), some (.int x2), some (.int x3)] [] w (fun r1 => Wp (d + 1) 86 8 ls (r1.1.toList ++ st) r1.2 Q) := Wp.cs (kd := 1) (y' := 58) (as := [.int x0, .int x1, .int x2, .int x3]) e86_5 rfl (by decide) (by decide) rfl (show 4 ≤ 4 by decide) hs
theorem e86_8 : decode (j_co 86) 8 = .ok (.ifCond .ne 5, 3) := by decide +kernel
set_option maxRecDepth 20000 in
theorem w86_8 {d : Nat} {st : List Value} {Q : Option Value × jW → Prop} {ls : jL} {w : jW} {a : Int32} : Wp d 86 8 ls (.int a :: st) w Q = ((a = nI 0 → Wp d 86 11 ls st w Q) ∧ (¬ a = nI 0 → Wp d 86 13 ls st w Q)) := Wp.if2n (c := a = nI 0) (off := 5) e86_8 rfl rfl rfl rfl rfl
theorem e86_11 : decode (j_co 86) 11 = .ok (.iconst (-1), 1) := by decide +kernel
set_option maxRecDepth 20000 in
theorem w86_11 {d : Nat} {st : List Value} {Q : Option Value × jW → Prop} {ls : jL} {w : jW} : Wp d 86 11 ls (st) w Q = Wp d 86 12 ls (.int (-1) :: st) w Q := Wp.alu e86_11 rfl rfl
theorem e86_12 : decode (j_co 86) 12 = .ok (.ireturn, 1) := by decide +kernel
set_option maxRecDepth 20000 in
theorem w86_12 {d : Nat} {Q : Option Value × jW → Prop} {ls : jL} {w : jW} {x : Int32} : Wp d 86 12 ls [.int x] w Q = Q (some (.int x), w) := Wp.ret e86_12 rfl
theorem e86_13 : decode (j_co 86) 13 = .ok (.aload_n 0, 1) := by decide +kernel
set_option maxRecDepth 20000 in
theorem w86_13 {d : Nat} {st : List Value} {Q : Option Value × jW → Prop} {w : jW} {a1 a2 a3 : Option Value} {x : Nat} : Wp d 86 13 [some (.ref x), a1, a2, a3] (st) w Q = Wp d 86 14 [some (.ref x), a1, a2, a3] (.ref x :: st) w Q := Wp.loc e86_13 rfl rfl rfl
theorem e86_14 : decode (j_co 86) 14 = .ok (.getfield 44, 3) := by decide +kernel
set_option maxRecDepth 20000 in
theorem w86_14 {d : Nat} {st : List Value} {Q : Option Value × jW → Prop} {ls : jL} {xs : List Value} {I : fI} {L : fL} {o : Nat} (ht : f_tg o = 10) : Wp d 86 14 ls (.ref o :: st) (f_W xs I L) Q = Wp d 86 17 ls (.ref (f_rf o 4) :: st) (f_W xs I L) Q := Wp.getR (ci := 10) (k := 4) e86_14 rfl (by decide) (by decide) rfl ht
theorem e86_17 : decode (j_co 86) 17 = .ok (.iload_n 1, 1) := by decide +kernel
set_option maxRecDepth 20000 in
theorem w86_17 {d : Nat} {st : List Value} {Q : Option Value × jW → Prop} {w : jW} {a0 a2 a3 : Option Value} {x : Int32} : Wp d 86 17 [a0, some (.int x), a2, a3] (st) w Q = Wp d 86 18 [a0, some (.int x), a2, a3] (.int x :: st) w Q := Wp.loc e86_17 rfl rfl rfl
theorem e86_18 : decode (j_co 86) 18 = .ok (.iload_n 2, 1) := by decide +kernel
set_option maxRecDepth 20000 in
theorem w86_18 {d : Nat} {st : List Value} {Q : Option Value × jW → Prop} {w : jW} {a0 a1 a3 : Option Value} {x : Int32} : Wp d 86 18 [a0, a1, some (.int x), a3] (st) w Q = Wp d 86 19 [a0, a1, some (.int x), a3] (.int x :: st) w Q := Wp.loc e86_18 rfl rfl rfl
theorem e86_19 : decode (j_co 86) 19 = .ok (.iload_n 3, 1) := by decide +kernel
set_option maxRecDepth 20000 in
theorem w86_19 {d : Nat} {st : List Value} {Q : Option Value × jW → Prop} {w : jW} {a0 a1 a2 : Option Value} {x : Int32} : Wp d 86 19 [a0, a1, a2, some (.int x)] (st) w Q = Wp d 86 20 [a0, a1, a2, some (.int x)] (.int x :: st) w Q := Wp.loc e86_19 rfl rfl rfl
theorem e86_20 : decode (j_co 86) 20 = .ok (.invokevirtual 219, 3) := by decide +kernel
set_option maxRecDepth 20000 in
theorem w86_20 {d : Nat} {st : List Value} {Q : Option Value × jW → Prop} {ls : jL} {xs : List Value} {I : fI} {L : fL} {r : Nat} {x0 : Int32} {x1 : Int32} {x2 : Int32} (hs : j_sumc st ≤ 8) (ht : f_tg r = 2) : Wp (d + 1) 86 20 ls (.int x2 :: .int x1 :: .int x0 :: .ref r :: st) (f_W xs I L) Q = Wp d 87 0 [some (.ref r), some (.int x0), some (.int x1), some (.int x2)] [] (f_W xs I L) (fun r1 => Wp (d + 1) 86 23 ls (r1.1.toList ++ st) r1.2 Q) := Wp.cv (y' := 87) (as := [.int x0, .int x1, .int x2]) e86_20 rfl (by decide) rfl (show 4 ≤ 4 by decide) (by decide) hs ht
theorem e86_23 : decode (j_co 86) 23 = .ok (.ifCond .eq 7, 3) := by decide +kernel
set_option maxRecDepth 20000 in
theorem w86_23 {d : Nat} {st : List Value} {Q : Option Value × jW → Prop} {ls : jL} {w : jW} {a : Int32} : Wp d 86 23 ls (.int a :: st) w Q = ((a = nI 0 → Wp d 86 30 ls st w Q) ∧ (¬ a = nI 0 → Wp d 86 26 ls st w Q)) := Wp.if2 (c := a = nI 0) (off := 7) e86_23 rfl rfl rfl rfl rfl
theorem e86_26 : decode (j_co 86) 26 = .ok (.iconst 1, 1) := by decide +kernel
set_option maxRecDepth 20000 in
theorem w86_26 {d : Nat} {st : List Value} {Q : Option Value × jW → Prop} {ls : jL} {w : jW} : Wp d 86 26 ls (st) w Q = Wp d 86 27 ls (.int (nI 1) :: st) w Q := Wp.alu e86_26 rfl rfl
theorem e86_27 : decode (j_co 86) 27 = .ok (.goto 5, 3) := by decide +kernel
set_option maxRecDepth 20000 in
theorem w86_27 {d : Nat} {st : List Value} {Q : Option Value × jW → Prop} {ls : jL} {w : jW} : Wp d 86 27 ls (st) w Q = Wp d 86 32 ls (st) w Q := Wp.br e86_27 (Or.inl rfl) rfl rfl rfl rfl
theorem e86_30 : decode (j_co 86) 30 = .ok (.bipush (-2), 2) := by decide +kernel
set_option maxRecDepth 20000 in
theorem w86_30 {d : Nat} {st : List Value} {Q : Option Value × jW → Prop} {ls : jL} {w : jW} : Wp d 86 30 ls (st) w Q = Wp d 86 32 ls (.int (-2) :: st) w Q := Wp.alu e86_30 rfl rfl
theorem e86_32 : decode (j_co 86) 32 = .ok (.ireturn, 1) := by decide +kernel
set_option maxRecDepth 20000 in
theorem w86_32 {d : Nat} {Q : Option Value × jW → Prop} {ls : jL} {w : jW} {x : Int32} : Wp d 86 32 ls [.int x] w Q = Q (some (.int x), w) := Wp.ret e86_32 rfl
/-! X.tick -/
theorem e89_0 : decode (j_co 89) 0 = .ok (.iload_n 1, 1) := by decide +kernel
set_option maxRecDepth 20000 in
theorem w89_0 {d : Nat} {st : List Value} {Q : Option Value × jW → Prop} {w : jW} {a0 a2 a3 : Option Value} {x : Int32} : Wp d 89 0 [a0, some (.int x), a2, a3] (st) w Q = Wp d 89 1 [a0, some (.int x), a2, a3] (.int x :: st) w Q := Wp.loc e89_0 rfl rfl rfl
theorem e89_1 : decode (j_co 89) 1 = .ok (.iload_n 2, 1) := by decide +kernel
set_option maxRecDepth 20000 in
theorem w89_1 {d : Nat} {st : List Value} {Q : Option Value × jW → Prop} {w : jW} {a0 a1 a3 : Option Value} {x : Int32} : Wp d 89 1 [a0, a1, some (.int x), a3] (st) w Q = Wp d 89 2 [a0, a1, some (.int x), a3] (.int x :: st) w Q := Wp.loc e89_1 rfl rfl rfl
theorem e89_2 : decode (j_co 89) 2 = .ok (.iload_n 3, 1) := by decide +kernel
set_option maxRecDepth 20000 in
theorem w89_2 {d : Nat} {st : List Value} {Q : Option Value × jW → Prop} {w : jW} {a0 a1 a2 : Option Value} {x : Int32} : Wp d 89 2 [a0, a1, a2, some (.int x)] (st) w Q = Wp d 89 3 [a0, a1, a2, some (.int x)] (.int x :: st) w Q := Wp.loc e89_2 rfl rfl rfl
theorem e89_3 : decode (j_co 89) 3 = .ok (.iconst 5, 1) := by decide +kernel
set_option maxRecDepth 20000 in
theorem w89_3 {d : Nat} {st : List Value} {Q : Option Value × jW → Prop} {ls : jL} {w : jW} : Wp d 89 3 ls (st) w Q = Wp d 89 4 ls (.int (nI 5) :: st) w Q := Wp.alu e89_3 rfl rfl
theorem e89_4 : decode (j_co 89) 4 = .ok (.invokestatic 189, 3) := by decide +kernel
set_option maxRecDepth 20000 in
theorem w89_4 {d : Nat} {st : List Value} {Q : Option Value × jW → Prop} {ls : jL} {w : jW} {x0 : Int32} {x1 : Int32} {x2 : Int32} {x3 : Int32} (hs : j_sumc st ≤ 8) : Wp (d + 1) 89 4 ls (.int x3 :: .int x2 :: .int x1 :: .int x0 :: st) w Q = Wp d 58 0 [some (.int x0), some (.int x1), some (.int x2), some (.int x3)] [] w (fun r1 => Wp (d + 1) 89 7 ls (r1.1.toList ++ st) r1.2 Q) := Wp.cs (kd := 1) (y' := 58) (as := [.int x0, .int x1, .int x2, .int x3]) e89_4 rfl (by decide) (by decide) rfl (show 4 ≤ 4 by decide) hs
theorem e89_7 : decode (j_co 89) 7 = .ok (.ifCond .ne 5, 3) := by decide +kernel
set_option maxRecDepth 20000 in
theorem w89_7 {d : Nat} {st : List Value} {Q : Option Value × jW → Prop} {ls : jL} {w : jW} {a : Int32} : Wp d 89 7 ls (.int a :: st) w Q = ((a = nI 0 → Wp d 89 10 ls st w Q) ∧ (¬ a = nI 0 → Wp d 89 12 ls st w Q)) := Wp.if2n (c := a = nI 0) (off := 5) e89_7 rfl rfl rfl rfl rfl
theorem e89_10 : decode (j_co 89) 10 = .ok (.iconst (-1), 1) := by decide +kernel
set_option maxRecDepth 20000 in
theorem w89_10 {d : Nat} {st : List Value} {Q : Option Value × jW → Prop} {ls : jL} {w : jW} : Wp d 89 10 ls (st) w Q = Wp d 89 11 ls (.int (-1) :: st) w Q := Wp.alu e89_10 rfl rfl
theorem e89_11 : decode (j_co 89) 11 = .ok (.ireturn, 1) := by decide +kernel
set_option maxRecDepth 20000 in
theorem w89_11 {d : Nat} {Q : Option Value × jW → Prop} {ls : jL} {w : jW} {x : Int32} : Wp d 89 11 ls [.int x] w Q = Q (some (.int x), w) := Wp.ret e89_11 rfl
theorem e89_12 : decode (j_co 89) 12 = .ok (.aload_n 0, 1) := by decide +kernel
set_option maxRecDepth 20000 in
theorem w89_12 {d : Nat} {st : List Value} {Q : Option Value × jW → Prop} {w : jW} {a1 a2 a3 : Option Value} {x : Nat} : Wp d 89 12 [some (.ref x), a1, a2, a3] (st) w Q = Wp d 89 13 [some (.ref x), a1, a2, a3] (.ref x :: st) w Q := Wp.loc e89_12 rfl rfl rfl
theorem e89_13 : decode (j_co 89) 13 = .ok (.getfield 44, 3) := by decide +kernel
set_option maxRecDepth 20000 in
theorem w89_13 {d : Nat} {st : List Value} {Q : Option Value × jW → Prop} {ls : jL} {xs : List Value} {I : fI} {L : fL} {o : Nat} (ht : f_tg o = 10) : Wp d 89 13 ls (.ref o :: st) (f_W xs I L) Q = Wp d 89 16 ls (.ref (f_rf o 4) :: st) (f_W xs I L) Q := Wp.getR (ci := 10) (k := 4) e89_13 rfl (by decide) (by decide) rfl ht
theorem e89_16 : decode (j_co 89) 16 = .ok (.iload_n 1, 1) := by decide +kernel
set_option maxRecDepth 20000 in
theorem w89_16 {d : Nat} {st : List Value} {Q : Option Value × jW → Prop} {w : jW} {a0 a2 a3 : Option Value} {x : Int32} : Wp d 89 16 [a0, some (.int x), a2, a3] (st) w Q = Wp d 89 17 [a0, some (.int x), a2, a3] (.int x :: st) w Q := Wp.loc e89_16 rfl rfl rfl
theorem e89_17 : decode (j_co 89) 17 = .ok (.iload_n 2, 1) := by decide +kernel
set_option maxRecDepth 20000 in
theorem w89_17 {d : Nat} {st : List Value} {Q : Option Value × jW → Prop} {w : jW} {a0 a1 a3 : Option Value} {x : Int32} : Wp d 89 17 [a0, a1, some (.int x), a3] (st) w Q = Wp d 89 18 [a0, a1, some (.int x), a3] (.int x :: st) w Q := Wp.loc e89_17 rfl rfl rfl
theorem e89_18 : decode (j_co 89) 18 = .ok (.iload_n 3, 1) := by decide +kernel
set_option maxRecDepth 20000 in
theorem w89_18 {d : Nat} {st : List Value} {Q : Option Value × jW → Prop} {w : jW} {a0 a1 a2 : Option Value} {x : Int32} : Wp d 89 18 [a0, a1, a2, some (.int x)] (st) w Q = Wp d 89 19 [a0, a1, a2, some (.int x)] (.int x :: st) w Q := Wp.loc e89_18 rfl rfl rfl
theorem e89_19 : decode (j_co 89) 19 = .ok (.invokevirtual 223, 3) := by decide +kernel
set_option maxRecDepth 20000 in
theorem w89_19 {d : Nat} {st : List Value} {Q : Option Value × jW → Prop} {ls : jL} {xs : List Value} {I : fI} {L : fL} {r : Nat} {x0 : Int32} {x1 : Int32} {x2 : Int32} (hs : j_sumc st ≤ 8) (ht : f_tg r = 2) : Wp (d + 1) 89 19 ls (.int x2 :: .int x1 :: .int x0 :: .ref r :: st) (f_W xs I L) Q = Wp d 90 0 [some (.ref r), some (.int x0), some (.int x1), some (.int x2)] [] (f_W xs I L) (fun r1 => Wp (d + 1) 89 22 ls (r1.1.toList ++ st) r1.2 Q) := Wp.cv (y' := 90) (as := [.int x0, .int x1, .int x2]) e89_19 rfl (by decide) rfl (show 4 ≤ 4 by decide) (by decide) hs ht
theorem e89_22 : decode (j_co 89) 22 = .ok (.ifCond .eq 13, 3) := by decide +kernel
set_option maxRecDepth 20000 in
theorem w89_22 {d : Nat} {st : List Value} {Q : Option Value × jW → Prop} {ls : jL} {w : jW} {a : Int32} : Wp d 89 22 ls (.int a :: st) w Q = ((a = nI 0 → Wp d 89 35 ls st w Q) ∧ (¬ a = nI 0 → Wp d 89 25 ls st w Q)) := Wp.if2 (c := a = nI 0) (off := 13) e89_22 rfl rfl rfl rfl rfl
theorem e89_25 : decode (j_co 89) 25 = .ok (.aload_n 0, 1) := by decide +kernel
set_option maxRecDepth 20000 in
theorem w89_25 {d : Nat} {st : List Value} {Q : Option Value × jW → Prop} {w : jW} {a1 a2 a3 : Option Value} {x : Nat} : Wp d 89 25 [some (.ref x), a1, a2, a3] (st) w Q = Wp d 89 26 [some (.ref x), a1, a2, a3] (.ref x :: st) w Q := Wp.loc e89_25 rfl rfl rfl
theorem e89_26 : decode (j_co 89) 26 = .ok (.getfield 44, 3) := by decide +kernel
set_option maxRecDepth 20000 in
theorem w89_26 {d : Nat} {st : List Value} {Q : Option Value × jW → Prop} {ls : jL} {xs : List Value} {I : fI} {L : fL} {o : Nat} (ht : f_tg o = 10) : Wp d 89 26 ls (.ref o :: st) (f_W xs I L) Q = Wp d 89 29 ls (.ref (f_rf o 4) :: st) (f_W xs I L) Q := Wp.getR (ci := 10) (k := 4) e89_26 rfl (by decide) (by decide) rfl ht
theorem e89_29 : decode (j_co 89) 29 = .ok (.getfield 226, 3) := by decide +kernel
set_option maxRecDepth 20000 in
theorem w89_29 {d : Nat} {st : List Value} {Q : Option Value × jW → Prop} {ls : jL} {xs : List Value} {I : fI} {L : fL} {o : Nat} (ht : f_tg o = 2) : Wp d 89 29 ls (.ref o :: st) (f_W xs I L) Q = Wp d 89 32 ls (.int (I o 4) :: st) (f_W xs I L) Q := Wp.getI (ci := 2) (k := 4) e89_29 rfl (by decide) (by decide) (by decide) ht
theorem e89_32 : decode (j_co 89) 32 = .ok (.goto 5, 3) := by decide +kernel
set_option maxRecDepth 20000 in
theorem w89_32 {d : Nat} {st : List Value} {Q : Option Value × jW → Prop} {ls : jL} {w : jW} : Wp d 89 32 ls (st) w Q = Wp d 89 37 ls (st) w Q := Wp.br e89_32 (Or.inl rfl) rfl rfl rfl rfl
theorem e89_35 : decode (j_co 89) 35 = .ok (.bipush (-2), 2) := by decide +kernel
set_option maxRecDepth 20000 in
theorem w89_35 {d : Nat} {st : List Value} {Q : Option Value × jW → Prop} {ls : jL} {w : jW} : Wp d 89 35 ls (st) w Q = Wp d 89 37 ls (.int (-2) :: st) w Q := Wp.alu e89_35 rfl rfl
theorem e89_37 : decode (j_co 89) 37 = .ok (.ireturn, 1) := by decide +kernel
set_option maxRecDepth 20000 in
theorem w89_37 {d : Nat} {Q : Option Value × jW → Prop} {ls : jL} {w : jW} {x : Int32} : Wp d 89 37 ls [.int x] w Q = Q (some (.int x), w) := Wp.ret e89_37 rfl
/-! X.leap -/
theorem e92_0 : decode (j_co 92) 0 = .ok (.aload_n 0, 1) := by decide +kernel
set_option maxRecDepth 20000 in
theorem w92_0 {d : Nat} {st : List Value} {Q : Option Value × jW → Prop} {w : jW} {a1 a2 a3 a4 : Option Value} {x : Nat} : Wp d 92 0 [some (.ref x), a1, a2, a3, a4] (st) w Q = Wp d 92 1 [some (.ref x), a1, a2, a3, a4] (.ref x :: st) w Q := Wp.loc e92_0 rfl rfl rfl
theorem e92_1 : decode (j_co 92) 1 = .ok (.getfield 10, 3) := by decide +kernel
set_option maxRecDepth 20000 in
theorem w92_1 {d : Nat} {st : List Value} {Q : Option Value × jW → Prop} {ls : jL} {xs : List Value} {I : fI} {L : fL} {o : Nat} (ht : f_tg o = 10) : Wp d 92 1 ls (.ref o :: st) (f_W xs I L) Q = Wp d 92 4 ls (.ref (f_rf o 0) :: st) (f_W xs I L) Q := Wp.getR (ci := 10) (k := 0) e92_1 rfl (by decide) (by decide) rfl ht
theorem e92_4 : decode (j_co 92) 4 = .ok (.iload_n 1, 1) := by decide +kernel
set_option maxRecDepth 20000 in
theorem w92_4 {d : Nat} {st : List Value} {Q : Option Value × jW → Prop} {w : jW} {a0 a2 a3 a4 : Option Value} {x : Int32} : Wp d 92 4 [a0, some (.int x), a2, a3, a4] (st) w Q = Wp d 92 5 [a0, some (.int x), a2, a3, a4] (.int x :: st) w Q := Wp.loc e92_4 rfl rfl rfl
theorem e92_5 : decode (j_co 92) 5 = .ok (.invokevirtual 108, 3) := by decide +kernel
set_option maxRecDepth 20000 in
theorem w92_5 {d : Nat} {st : List Value} {Q : Option Value × jW → Prop} {ls : jL} {xs : List Value} {I : fI} {L : fL} {r : Nat} {x0 : Int32} (hs : j_sumc st ≤ 8) (ht : f_tg r = 5) : Wp (d + 1) 92 5 ls (.int x0 :: .ref r :: st) (f_W xs I L) Q = Wp d 22 0 [some (.ref r), some (.int x0)] [] (f_W xs I L) (fun r1 => Wp (d + 1) 92 8 ls (r1.1.toList ++ st) r1.2 Q) := Wp.cv (y' := 22) (as := [.int x0]) e92_5 rfl (by decide) rfl (show 2 ≤ 2 by decide) (by decide) hs ht
theorem e92_8 : decode (j_co 92) 8 = .ok (.ifCond .ne 5, 3) := by decide +kernel
set_option maxRecDepth 20000 in
theorem w92_8 {d : Nat} {st : List Value} {Q : Option Value × jW → Prop} {ls : jL} {w : jW} {a : Int32} : Wp d 92 8 ls (.int a :: st) w Q = ((a = nI 0 → Wp d 92 11 ls st w Q) ∧ (¬ a = nI 0 → Wp d 92 13 ls st w Q)) := Wp.if2n (c := a = nI 0) (off := 5) e92_8 rfl rfl rfl rfl rfl
theorem e92_11 : decode (j_co 92) 11 = .ok (.iconst (-1), 1) := by decide +kernel
set_option maxRecDepth 20000 in
theorem w92_11 {d : Nat} {st : List Value} {Q : Option Value × jW → Prop} {ls : jL} {w : jW} : Wp d 92 11 ls (st) w Q = Wp d 92 12 ls (.int (-1) :: st) w Q := Wp.alu e92_11 rfl rfl
theorem e92_12 : decode (j_co 92) 12 = .ok (.ireturn, 1) := by decide +kernel
set_option maxRecDepth 20000 in
theorem w92_12 {d : Nat} {Q : Option Value × jW → Prop} {ls : jL} {w : jW} {x : Int32} : Wp d 92 12 ls [.int x] w Q = Q (some (.int x), w) := Wp.ret e92_12 rfl
theorem e92_13 : decode (j_co 92) 13 = .ok (.aload_n 0, 1) := by decide +kernel
set_option maxRecDepth 20000 in
theorem w92_13 {d : Nat} {st : List Value} {Q : Option Value × jW → Prop} {w : jW} {a1 a2 a3 a4 : Option Value} {x : Nat} : Wp d 92 13 [some (.ref x), a1, a2, a3, a4] (st) w Q = Wp d 92 14 [some (.ref x), a1, a2, a3, a4] (.ref x :: st) w Q := Wp.loc e92_13 rfl rfl rfl
theorem e92_14 : decode (j_co 92) 14 = .ok (.getfield 44, 3) := by decide +kernel
set_option maxRecDepth 20000 in
theorem w92_14 {d : Nat} {st : List Value} {Q : Option Value × jW → Prop} {ls : jL} {xs : List Value} {I : fI} {L : fL} {o : Nat} (ht : f_tg o = 10) : Wp d 92 14 ls (.ref o :: st) (f_W xs I L) Q = Wp d 92 17 ls (.ref (f_rf o 4) :: st) (f_W xs I L) Q := Wp.getR (ci := 10) (k := 4) e92_14 rfl (by decide) (by decide) rfl ht
theorem e92_17 : decode (j_co 92) 17 = .ok (.aload_n 0, 1) := by decide +kernel
set_option maxRecDepth 20000 in
theorem w92_17 {d : Nat} {st : List Value} {Q : Option Value × jW → Prop} {w : jW} {a1 a2 a3 a4 : Option Value} {x : Nat} : Wp d 92 17 [some (.ref x), a1, a2, a3, a4] (st) w Q = Wp d 92 18 [some (.ref x), a1, a2, a3, a4] (.ref x :: st) w Q := Wp.loc e92_17 rfl rfl rfl
theorem e92_18 : decode (j_co 92) 18 = .ok (.getfield 10, 3) := by decide +kernel
set_option maxRecDepth 20000 in
theorem w92_18 {d : Nat} {st : List Value} {Q : Option Value × jW → Prop} {ls : jL} {xs : List Value} {I : fI} {L : fL} {o : Nat} (ht : f_tg o = 10) : Wp d 92 18 ls (.ref o :: st) (f_W xs I L) Q = Wp d 92 21 ls (.ref (f_rf o 0) :: st) (f_W xs I L) Q := Wp.getR (ci := 10) (k := 0) e92_18 rfl (by decide) (by decide) rfl ht
theorem e92_21 : decode (j_co 92) 21 = .ok (.getfield 96, 3) := by decide +kernel
set_option maxRecDepth 20000 in
theorem w92_21 {d : Nat} {st : List Value} {Q : Option Value × jW → Prop} {ls : jL} {xs : List Value} {I : fI} {L : fL} {o : Nat} (ht : f_tg o = 5) : Wp d 92 21 ls (.ref o :: st) (f_W xs I L) Q = Wp d 92 24 ls (.ref (f_rf o 1) :: st) (f_W xs I L) Q := Wp.getR (ci := 5) (k := 1) e92_21 rfl (by decide) (by decide) rfl ht
theorem e92_24 : decode (j_co 92) 24 = .ok (.iload_n 1, 1) := by decide +kernel
set_option maxRecDepth 20000 in
theorem w92_24 {d : Nat} {st : List Value} {Q : Option Value × jW → Prop} {w : jW} {a0 a2 a3 a4 : Option Value} {x : Int32} : Wp d 92 24 [a0, some (.int x), a2, a3, a4] (st) w Q = Wp d 92 25 [a0, some (.int x), a2, a3, a4] (.int x :: st) w Q := Wp.loc e92_24 rfl rfl rfl
theorem e92_25 : decode (j_co 92) 25 = .ok (.aaload, 1) := by decide +kernel
set_option maxRecDepth 20000 in
theorem w92_25 {d : Nat} {st : List Value} {Q : Option Value × jW → Prop} {ls : jL} {xs : List Value} {I : fI} {L : fL} {o : Nat} {i : Int32} (ht : 103 ≤ f_tg o ∧ f_tg o ≤ 106) (hi : ¬ (i < 0 ∨ f_ln o ≤ i.toNatClampNeg)) : Wp d 92 25 ls (.int i :: .ref o :: st) (f_W xs I L) Q = Wp d 92 26 ls (.ref (f_rf o i.toNatClampNeg) :: st) (f_W xs I L) Q := Wp.aald e92_25 rfl ht hi
theorem e92_26 : decode (j_co 92) 26 = .ok (.iload_n 2, 1) := by decide +kernel
set_option maxRecDepth 20000 in
theorem w92_26 {d : Nat} {st : List Value} {Q : Option Value × jW → Prop} {w : jW} {a0 a1 a3 a4 : Option Value} {x : Int32} : Wp d 92 26 [a0, a1, some (.int x), a3, a4] (st) w Q = Wp d 92 27 [a0, a1, some (.int x), a3, a4] (.int x :: st) w Q := Wp.loc e92_26 rfl rfl rfl
theorem e92_27 : decode (j_co 92) 27 = .ok (.iload_n 3, 1) := by decide +kernel
set_option maxRecDepth 20000 in
theorem w92_27 {d : Nat} {st : List Value} {Q : Option Value × jW → Prop} {w : jW} {a0 a1 a2 a4 : Option Value} {x : Int32} : Wp d 92 27 [a0, a1, a2, some (.int x), a4] (st) w Q = Wp d 92 28 [a0, a1, a2, some (.int x), a4] (.int x :: st) w Q := Wp.loc e92_27 rfl rfl rfl
theorem e92_28 : decode (j_co 92) 28 = .ok (.iload 4, 2) := by decide +kernel
set_option maxRecDepth 20000 in
theorem w92_28 {d : Nat} {st : List Value} {Q : Option Value × jW → Prop} {w : jW} {a0 a1 a2 a3 : Option Value} {x : Int32} : Wp d 92 28 [a0, a1, a2, a3, some (.int x)] (st) w Q = Wp d 92 30 [a0, a1, a2, a3, some (.int x)] (.int x :: st) w Q := Wp.loc e92_28 rfl rfl rfl
theorem e92_30 : decode (j_co 92) 30 = .ok (.invokevirtual 229, 3) := by decide +kernel
set_option maxRecDepth 20000 in
theorem w92_30 {d : Nat} {st : List Value} {Q : Option Value × jW → Prop} {ls : jL} {xs : List Value} {I : fI} {L : fL} {r : Nat} {x0 : Nat} {x1 : Int32} {x2 : Int32} {x3 : Int32} (hs : j_sumc st ≤ 8) (ht : f_tg r = 2) : Wp (d + 1) 92 30 ls (.int x3 :: .int x2 :: .int x1 :: .ref x0 :: .ref r :: st) (f_W xs I L) Q = Wp d 93 0 [some (.ref r), some (.ref x0), some (.int x1), some (.int x2), some (.int x3), none] [] (f_W xs I L) (fun r1 => Wp (d + 1) 92 33 ls (r1.1.toList ++ st) r1.2 Q) := Wp.cv (y' := 93) (as := [.ref x0, .int x1, .int x2, .int x3]) e92_30 rfl (by decide) rfl (show 5 ≤ 6 by decide) (by decide) hs ht
theorem e92_33 : decode (j_co 92) 33 = .ok (.ifCond .eq 13, 3) := by decide +kernel
set_option maxRecDepth 20000 in
theorem w92_33 {d : Nat} {st : List Value} {Q : Option Value × jW → Prop} {ls : jL} {w : jW} {a : Int32} : Wp d 92 33 ls (.int a :: st) w Q = ((a = nI 0 → Wp d 92 46 ls st w Q) ∧ (¬ a = nI 0 → Wp d 92 36 ls st w Q)) := Wp.if2 (c := a = nI 0) (off := 13) e92_33 rfl rfl rfl rfl rfl
theorem e92_36 : decode (j_co 92) 36 = .ok (.aload_n 0, 1) := by decide +kernel
set_option maxRecDepth 20000 in
theorem w92_36 {d : Nat} {st : List Value} {Q : Option Value × jW → Prop} {w : jW} {a1 a2 a3 a4 : Option Value} {x : Nat} : Wp d 92 36 [some (.ref x), a1, a2, a3, a4] (st) w Q = Wp d 92 37 [some (.ref x), a1, a2, a3, a4] (.ref x :: st) w Q := Wp.loc e92_36 rfl rfl rfl
theorem e92_37 : decode (j_co 92) 37 = .ok (.getfield 44, 3) := by decide +kernel
set_option maxRecDepth 20000 in
theorem w92_37 {d : Nat} {st : List Value} {Q : Option Value × jW → Prop} {ls : jL} {xs : List Value} {I : fI} {L : fL} {o : Nat} (ht : f_tg o = 10) : Wp d 92 37 ls (.ref o :: st) (f_W xs I L) Q = Wp d 92 40 ls (.ref (f_rf o 4) :: st) (f_W xs I L) Q := Wp.getR (ci := 10) (k := 4) e92_37 rfl (by decide) (by decide) rfl ht
theorem e92_40 : decode (j_co 92) 40 = .ok (.getfield 226, 3) := by decide +kernel
set_option maxRecDepth 20000 in
theorem w92_40 {d : Nat} {st : List Value} {Q : Option Value × jW → Prop} {ls : jL} {xs : List Value} {I : fI} {L : fL} {o : Nat} (ht : f_tg o = 2) : Wp d 92 40 ls (.ref o :: st) (f_W xs I L) Q = Wp d 92 43 ls (.int (I o 4) :: st) (f_W xs I L) Q := Wp.getI (ci := 2) (k := 4) e92_40 rfl (by decide) (by decide) (by decide) ht
theorem e92_43 : decode (j_co 92) 43 = .ok (.goto 5, 3) := by decide +kernel
set_option maxRecDepth 20000 in
theorem w92_43 {d : Nat} {st : List Value} {Q : Option Value × jW → Prop} {ls : jL} {w : jW} : Wp d 92 43 ls (st) w Q = Wp d 92 48 ls (st) w Q := Wp.br e92_43 (Or.inl rfl) rfl rfl rfl rfl
theorem e92_46 : decode (j_co 92) 46 = .ok (.bipush (-2), 2) := by decide +kernel
set_option maxRecDepth 20000 in
theorem w92_46 {d : Nat} {st : List Value} {Q : Option Value × jW → Prop} {ls : jL} {w : jW} : Wp d 92 46 ls (st) w Q = Wp d 92 48 ls (.int (-2) :: st) w Q := Wp.alu e92_46 rfl rfl
theorem e92_48 : decode (j_co 92) 48 = .ok (.ireturn, 1) := by decide +kernel
set_option maxRecDepth 20000 in
theorem w92_48 {d : Nat} {Q : Option Value × jW → Prop} {ls : jL} {w : jW} {x : Int32} : Wp d 92 48 ls [.int x] w Q = Q (some (.int x), w) := Wp.ret e92_48 rfl
/-! X.now -/
theorem e94_0 : decode (j_co 94) 0 = .ok (.iload_n 1, 1) := by decide +kernel
set_option maxRecDepth 20000 in
theorem w94_0 {d : Nat} {st : List Value} {Q : Option Value × jW → Prop} {w : jW} {a0 : Option Value} {x : Int32} : Wp d 94 0 [a0, some (.int x)] (st) w Q = Wp d 94 1 [a0, some (.int x)] (.int x :: st) w Q := Wp.loc e94_0 rfl rfl rfl
theorem e94_1 : decode (j_co 94) 1 = .ok (.ifCond .lt 9, 3) := by decide +kernel
set_option maxRecDepth 20000 in
theorem w94_1 {d : Nat} {st : List Value} {Q : Option Value × jW → Prop} {ls : jL} {w : jW} {a : Int32} : Wp d 94 1 ls (.int a :: st) w Q = ((a < nI 0 → Wp d 94 10 ls st w Q) ∧ (¬ a < nI 0 → Wp d 94 4 ls st w Q)) := Wp.if2 (c := a < nI 0) (off := 9) e94_1 rfl rfl rfl rfl rfl
theorem e94_4 : decode (j_co 94) 4 = .ok (.iload_n 1, 1) := by decide +kernel
set_option maxRecDepth 20000 in
theorem w94_4 {d : Nat} {st : List Value} {Q : Option Value × jW → Prop} {w : jW} {a0 : Option Value} {x : Int32} : Wp d 94 4 [a0, some (.int x)] (st) w Q = Wp d 94 5 [a0, some (.int x)] (.int x :: st) w Q := Wp.loc e94_4 rfl rfl rfl
theorem e94_5 : decode (j_co 94) 5 = .ok (.bipush 7, 2) := by decide +kernel
set_option maxRecDepth 20000 in
theorem w94_5 {d : Nat} {st : List Value} {Q : Option Value × jW → Prop} {ls : jL} {w : jW} : Wp d 94 5 ls (st) w Q = Wp d 94 7 ls (.int (nI 7) :: st) w Q := Wp.alu e94_5 rfl rfl
theorem e94_7 : decode (j_co 94) 7 = .ok (.if_icmp .le 6, 3) := by decide +kernel
set_option maxRecDepth 20000 in
theorem w94_7 {d : Nat} {st : List Value} {Q : Option Value × jW → Prop} {ls : jL} {w : jW} {a b : Int32} : Wp d 94 7 ls (.int b :: .int a :: st) w Q = ((a ≤ b → Wp d 94 13 ls st w Q) ∧ (¬ a ≤ b → Wp d 94 10 ls st w Q)) := Wp.if2 (c := a ≤ b) (off := 6) e94_7 rfl rfl rfl rfl rfl
theorem e94_10 : decode (j_co 94) 10 = .ok (.bipush (-100), 2) := by decide +kernel
set_option maxRecDepth 20000 in
theorem w94_10 {d : Nat} {st : List Value} {Q : Option Value × jW → Prop} {ls : jL} {w : jW} : Wp d 94 10 ls (st) w Q = Wp d 94 12 ls (.int (-100) :: st) w Q := Wp.alu e94_10 rfl rfl
theorem e94_12 : decode (j_co 94) 12 = .ok (.ireturn, 1) := by decide +kernel
set_option maxRecDepth 20000 in
theorem w94_12 {d : Nat} {Q : Option Value × jW → Prop} {ls : jL} {w : jW} {x : Int32} : Wp d 94 12 ls [.int x] w Q = Q (some (.int x), w) := Wp.ret e94_12 rfl
theorem e94_13 : decode (j_co 94) 13 = .ok (.aload_n 0, 1) := by decide +kernel
set_option maxRecDepth 20000 in
theorem w94_13 {d : Nat} {st : List Value} {Q : Option Value × jW → Prop} {w : jW} {a1 : Option Value} {x : Nat} : Wp d 94 13 [some (.ref x), a1] (st) w Q = Wp d 94 14 [some (.ref x), a1] (.ref x :: st) w Q := Wp.loc e94_13 rfl rfl rfl
theorem e94_14 : decode (j_co 94) 14 = .ok (.getfield 44, 3) := by decide +kernel
set_option maxRecDepth 20000 in
theorem w94_14 {d : Nat} {st : List Value} {Q : Option Value × jW → Prop} {ls : jL} {xs : List Value} {I : fI} {L : fL} {o : Nat} (ht : f_tg o = 10) : Wp d 94 14 ls (.ref o :: st) (f_W xs I L) Q = Wp d 94 17 ls (.ref (f_rf o 4) :: st) (f_W xs I L) Q := Wp.getR (ci := 10) (k := 4) e94_14 rfl (by decide) (by decide) rfl ht
theorem e94_17 : decode (j_co 94) 17 = .ok (.getfield 233, 3) := by decide +kernel
set_option maxRecDepth 20000 in
theorem w94_17 {d : Nat} {st : List Value} {Q : Option Value × jW → Prop} {ls : jL} {xs : List Value} {I : fI} {L : fL} {o : Nat} (ht : f_tg o = 2) : Wp d 94 17 ls (.ref o :: st) (f_W xs I L) Q = Wp d 94 20 ls (.int (I o 5) :: st) (f_W xs I L) Q := Wp.getI (ci := 2) (k := 5) e94_17 rfl (by decide) (by decide) (by decide) ht
theorem e94_20 : decode (j_co 94) 20 = .ok (.ifCond .eq 14, 3) := by decide +kernel
set_option maxRecDepth 20000 in
theorem w94_20 {d : Nat} {st : List Value} {Q : Option Value × jW → Prop} {ls : jL} {w : jW} {a : Int32} : Wp d 94 20 ls (.int a :: st) w Q = ((a = nI 0 → Wp d 94 34 ls st w Q) ∧ (¬ a = nI 0 → Wp d 94 23 ls st w Q)) := Wp.if2 (c := a = nI 0) (off := 14) e94_20 rfl rfl rfl rfl rfl
theorem e94_23 : decode (j_co 94) 23 = .ok (.aload_n 0, 1) := by decide +kernel
set_option maxRecDepth 20000 in
theorem w94_23 {d : Nat} {st : List Value} {Q : Option Value × jW → Prop} {w : jW} {a1 : Option Value} {x : Nat} : Wp d 94 23 [some (.ref x), a1] (st) w Q = Wp d 94 24 [some (.ref x), a1] (.ref x :: st) w Q := Wp.loc e94_23 rfl rfl rfl
theorem e94_24 : decode (j_co 94) 24 = .ok (.getfield 44, 3) := by decide +kernel
set_option maxRecDepth 20000 in
theorem w94_24 {d : Nat} {st : List Value} {Q : Option Value × jW → Prop} {ls : jL} {xs : List Value} {I : fI} {L : fL} {o : Nat} (ht : f_tg o = 10) : Wp d 94 24 ls (.ref o :: st) (f_W xs I L) Q = Wp d 94 27 ls (.ref (f_rf o 4) :: st) (f_W xs I L) Q := Wp.getR (ci := 10) (k := 4) e94_24 rfl (by decide) (by decide) rfl ht
theorem e94_27 : decode (j_co 94) 27 = .ok (.iload_n 1, 1) := by decide +kernel
set_option maxRecDepth 20000 in
theorem w94_27 {d : Nat} {st : List Value} {Q : Option Value × jW → Prop} {w : jW} {a0 : Option Value} {x : Int32} : Wp d 94 27 [a0, some (.int x)] (st) w Q = Wp d 94 28 [a0, some (.int x)] (.int x :: st) w Q := Wp.loc e94_27 rfl rfl rfl
theorem e94_28 : decode (j_co 94) 28 = .ok (.invokevirtual 236, 3) := by decide +kernel
set_option maxRecDepth 20000 in
theorem w94_28 {d : Nat} {st : List Value} {Q : Option Value × jW → Prop} {ls : jL} {xs : List Value} {I : fI} {L : fL} {r : Nat} {x0 : Int32} (hs : j_sumc st ≤ 8) (ht : f_tg r = 2) : Wp (d + 1) 94 28 ls (.int x0 :: .ref r :: st) (f_W xs I L) Q = Wp d 95 0 [some (.ref r), some (.int x0)] [] (f_W xs I L) (fun r1 => Wp (d + 1) 94 31 ls (r1.1.toList ++ st) r1.2 Q) := Wp.cv (y' := 95) (as := [.int x0]) e94_28 rfl (by decide) rfl (show 2 ≤ 2 by decide) (by decide) hs ht
theorem e94_31 : decode (j_co 94) 31 = .ok (.goto 5, 3) := by decide +kernel
set_option maxRecDepth 20000 in
theorem w94_31 {d : Nat} {st : List Value} {Q : Option Value × jW → Prop} {ls : jL} {w : jW} : Wp d 94 31 ls (st) w Q = Wp d 94 36 ls (st) w Q := Wp.br e94_31 (Or.inl rfl) rfl rfl rfl rfl
theorem e94_34 : decode (j_co 94) 34 = .ok (.bipush (-102), 2) := by decide +kernel
set_option maxRecDepth 20000 in
theorem w94_34 {d : Nat} {st : List Value} {Q : Option Value × jW → Prop} {ls : jL} {w : jW} : Wp d 94 34 ls (st) w Q = Wp d 94 36 ls (.int (-102) :: st) w Q := Wp.alu e94_34 rfl rfl
theorem e94_36 : decode (j_co 94) 36 = .ok (.ireturn, 1) := by decide +kernel
set_option maxRecDepth 20000 in
theorem w94_36 {d : Nat} {Q : Option Value × jW → Prop} {ls : jL} {w : jW} {x : Int32} : Wp d 94 36 ls [.int x] w Q = Q (some (.int x), w) := Wp.ret e94_36 rfl
/-! X.sheet -/
theorem e97_0 : decode (j_co 97) 0 = .ok (.iload_n 1, 1) := by decide +kernel
set_option maxRecDepth 20000 in
theorem w97_0 {d : Nat} {st : List Value} {Q : Option Value × jW → Prop} {w : jW} {a0 a2 a3 : Option Value} {x : Int32} : Wp d 97 0 [a0, some (.int x), a2, a3] (st) w Q = Wp d 97 1 [a0, some (.int x), a2, a3] (.int x :: st) w Q := Wp.loc e97_0 rfl rfl rfl
theorem e97_1 : decode (j_co 97) 1 = .ok (.invokestatic 238, 3) := by decide +kernel
set_option maxRecDepth 20000 in
theorem w97_1 {d : Nat} {st : List Value} {Q : Option Value × jW → Prop} {ls : jL} {w : jW} {x0 : Int32} (hs : j_sumc st ≤ 8) : Wp (d + 1) 97 1 ls (.int x0 :: st) w Q = Wp d 98 0 [some (.int x0)] [] w (fun r1 => Wp (d + 1) 97 4 ls (r1.1.toList ++ st) r1.2 Q) := Wp.cs (kd := 1) (y' := 98) (as := [.int x0]) e97_1 rfl (by decide) (by decide) rfl (show 1 ≤ 1 by decide) hs
theorem e97_4 : decode (j_co 97) 4 = .ok (.ifCond .eq 16, 3) := by decide +kernel
set_option maxRecDepth 20000 in
theorem w97_4 {d : Nat} {st : List Value} {Q : Option Value × jW → Prop} {ls : jL} {w : jW} {a : Int32} : Wp d 97 4 ls (.int a :: st) w Q = ((a = nI 0 → Wp d 97 20 ls st w Q) ∧ (¬ a = nI 0 → Wp d 97 7 ls st w Q)) := Wp.if2 (c := a = nI 0) (off := 16) e97_4 rfl rfl rfl rfl rfl
theorem e97_7 : decode (j_co 97) 7 = .ok (.iload_n 2, 1) := by decide +kernel
set_option maxRecDepth 20000 in
theorem w97_7 {d : Nat} {st : List Value} {Q : Option Value × jW → Prop} {w : jW} {a0 a1 a3 : Option Value} {x : Int32} : Wp d 97 7 [a0, a1, some (.int x), a3] (st) w Q = Wp d 97 8 [a0, a1, some (.int x), a3] (.int x :: st) w Q := Wp.loc e97_7 rfl rfl rfl
theorem e97_8 : decode (j_co 97) 8 = .ok (.invokestatic 241, 3) := by decide +kernel
set_option maxRecDepth 20000 in
theorem w97_8 {d : Nat} {st : List Value} {Q : Option Value × jW → Prop} {ls : jL} {w : jW} {x0 : Int32} (hs : j_sumc st ≤ 8) : Wp (d + 1) 97 8 ls (.int x0 :: st) w Q = Wp d 99 0 [some (.int x0)] [] w (fun r1 => Wp (d + 1) 97 11 ls (r1.1.toList ++ st) r1.2 Q) := Wp.cs (kd := 1) (y' := 99) (as := [.int x0]) e97_8 rfl (by decide) (by decide) rfl (show 1 ≤ 1 by decide) hs
theorem e97_11 : decode (j_co 97) 11 = .ok (.ifCond .eq 9, 3) := by decide +kernel
set_option maxRecDepth 20000 in
theorem w97_11 {d : Nat} {st : List Value} {Q : Option Value × jW → Prop} {ls : jL} {w : jW} {a : Int32} : Wp d 97 11 ls (.int a :: st) w Q = ((a = nI 0 → Wp d 97 20 ls st w Q) ∧ (¬ a = nI 0 → Wp d 97 14 ls st w Q)) := Wp.if2 (c := a = nI 0) (off := 9) e97_11 rfl rfl rfl rfl rfl
theorem e97_14 : decode (j_co 97) 14 = .ok (.iload_n 3, 1) := by decide +kernel
set_option maxRecDepth 20000 in
theorem w97_14 {d : Nat} {st : List Value} {Q : Option Value × jW → Prop} {w : jW} {a0 a1 a2 : Option Value} {x : Int32} : Wp d 97 14 [a0, a1, a2, some (.int x)] (st) w Q = Wp d 97 15 [a0, a1, a2, some (.int x)] (.int x :: st) w Q := Wp.loc e97_14 rfl rfl rfl
theorem e97_15 : decode (j_co 97) 15 = .ok (.bipush 60, 2) := by decide +kernel
set_option maxRecDepth 20000 in
theorem w97_15 {d : Nat} {st : List Value} {Q : Option Value × jW → Prop} {ls : jL} {w : jW} : Wp d 97 15 ls (st) w Q = Wp d 97 17 ls (.int (nI 60) :: st) w Q := Wp.alu e97_15 rfl rfl
theorem e97_17 : decode (j_co 97) 17 = .ok (.if_icmp .le 5, 3) := by decide +kernel
set_option maxRecDepth 20000 in
theorem w97_17 {d : Nat} {st : List Value} {Q : Option Value × jW → Prop} {ls : jL} {w : jW} {a b : Int32} : Wp d 97 17 ls (.int b :: .int a :: st) w Q = ((a ≤ b → Wp d 97 22 ls st w Q) ∧ (¬ a ≤ b → Wp d 97 20 ls st w Q)) := Wp.if2 (c := a ≤ b) (off := 5) e97_17 rfl rfl rfl rfl rfl
theorem e97_20 : decode (j_co 97) 20 = .ok (.iconst (-1), 1) := by decide +kernel
set_option maxRecDepth 20000 in
theorem w97_20 {d : Nat} {st : List Value} {Q : Option Value × jW → Prop} {ls : jL} {w : jW} : Wp d 97 20 ls (st) w Q = Wp d 97 21 ls (.int (-1) :: st) w Q := Wp.alu e97_20 rfl rfl
theorem e97_21 : decode (j_co 97) 21 = .ok (.ireturn, 1) := by decide +kernel
set_option maxRecDepth 20000 in
theorem w97_21 {d : Nat} {Q : Option Value × jW → Prop} {ls : jL} {w : jW} {x : Int32} : Wp d 97 21 ls [.int x] w Q = Q (some (.int x), w) := Wp.ret e97_21 rfl
theorem e97_22 : decode (j_co 97) 22 = .ok (.iload_n 3, 1) := by decide +kernel
set_option maxRecDepth 20000 in
theorem w97_22 {d : Nat} {st : List Value} {Q : Option Value × jW → Prop} {w : jW} {a0 a1 a2 : Option Value} {x : Int32} : Wp d 97 22 [a0, a1, a2, some (.int x)] (st) w Q = Wp d 97 23 [a0, a1, a2, some (.int x)] (.int x :: st) w Q := Wp.loc e97_22 rfl rfl rfl
theorem e97_23 : decode (j_co 97) 23 = .ok (.ifCond .ge 6, 3) := by decide +kernel
set_option maxRecDepth 20000 in
theorem w97_23 {d : Nat} {st : List Value} {Q : Option Value × jW → Prop} {ls : jL} {w : jW} {a : Int32} : Wp d 97 23 ls (.int a :: st) w Q = ((nI 0 ≤ a → Wp d 97 29 ls st w Q) ∧ (¬ nI 0 ≤ a → Wp d 97 26 ls st w Q)) := Wp.if2 (c := nI 0 ≤ a) (off := 6) e97_23 rfl rfl rfl rfl rfl
theorem e97_26 : decode (j_co 97) 26 = .ok (.bipush (-14), 2) := by decide +kernel
set_option maxRecDepth 20000 in
theorem w97_26 {d : Nat} {st : List Value} {Q : Option Value × jW → Prop} {ls : jL} {w : jW} : Wp d 97 26 ls (st) w Q = Wp d 97 28 ls (.int (-14) :: st) w Q := Wp.alu e97_26 rfl rfl
theorem e97_28 : decode (j_co 97) 28 = .ok (.ireturn, 1) := by decide +kernel
set_option maxRecDepth 20000 in
theorem w97_28 {d : Nat} {Q : Option Value × jW → Prop} {ls : jL} {w : jW} {x : Int32} : Wp d 97 28 ls [.int x] w Q = Q (some (.int x), w) := Wp.ret e97_28 rfl
theorem e97_29 : decode (j_co 97) 29 = .ok (.aload_n 0, 1) := by decide +kernel
set_option maxRecDepth 20000 in
theorem w97_29 {d : Nat} {st : List Value} {Q : Option Value × jW → Prop} {w : jW} {a1 a2 a3 : Option Value} {x : Nat} : Wp d 97 29 [some (.ref x), a1, a2, a3] (st) w Q = Wp d 97 30 [some (.ref x), a1, a2, a3] (.ref x :: st) w Q := Wp.loc e97_29 rfl rfl rfl
theorem e97_30 : decode (j_co 97) 30 = .ok (.getfield 50, 3) := by decide +kernel
set_option maxRecDepth 20000 in
theorem w97_30 {d : Nat} {st : List Value} {Q : Option Value × jW → Prop} {ls : jL} {xs : List Value} {I : fI} {L : fL} {o : Nat} (ht : f_tg o = 10) : Wp d 97 30 ls (.ref o :: st) (f_W xs I L) Q = Wp d 97 33 ls (.ref (f_rf o 5) :: st) (f_W xs I L) Q := Wp.getR (ci := 10) (k := 5) e97_30 rfl (by decide) (by decide) rfl ht
theorem e97_33 : decode (j_co 97) 33 = .ok (.iload_n 1, 1) := by decide +kernel
set_option maxRecDepth 20000 in
theorem w97_33 {d : Nat} {st : List Value} {Q : Option Value × jW → Prop} {w : jW} {a0 a2 a3 : Option Value} {x : Int32} : Wp d 97 33 [a0, some (.int x), a2, a3] (st) w Q = Wp d 97 34 [a0, some (.int x), a2, a3] (.int x :: st) w Q := Wp.loc e97_33 rfl rfl rfl
theorem e97_34 : decode (j_co 97) 34 = .ok (.aaload, 1) := by decide +kernel
set_option maxRecDepth 20000 in
theorem w97_34 {d : Nat} {st : List Value} {Q : Option Value × jW → Prop} {ls : jL} {xs : List Value} {I : fI} {L : fL} {o : Nat} {i : Int32} (ht : 103 ≤ f_tg o ∧ f_tg o ≤ 106) (hi : ¬ (i < 0 ∨ f_ln o ≤ i.toNatClampNeg)) : Wp d 97 34 ls (.int i :: .ref o :: st) (f_W xs I L) Q = Wp d 97 35 ls (.ref (f_rf o i.toNatClampNeg) :: st) (f_W xs I L) Q := Wp.aald e97_34 rfl ht hi
theorem e97_35 : decode (j_co 97) 35 = .ok (.iload_n 2, 1) := by decide +kernel
set_option maxRecDepth 20000 in
theorem w97_35 {d : Nat} {st : List Value} {Q : Option Value × jW → Prop} {w : jW} {a0 a1 a3 : Option Value} {x : Int32} : Wp d 97 35 [a0, a1, some (.int x), a3] (st) w Q = Wp d 97 36 [a0, a1, some (.int x), a3] (.int x :: st) w Q := Wp.loc e97_35 rfl rfl rfl
theorem e97_36 : decode (j_co 97) 36 = .ok (.iload_n 3, 1) := by decide +kernel
set_option maxRecDepth 20000 in
theorem w97_36 {d : Nat} {st : List Value} {Q : Option Value × jW → Prop} {w : jW} {a0 a1 a2 : Option Value} {x : Int32} : Wp d 97 36 [a0, a1, a2, some (.int x)] (st) w Q = Wp d 97 37 [a0, a1, a2, some (.int x)] (.int x :: st) w Q := Wp.loc e97_36 rfl rfl rfl
theorem e97_37 : decode (j_co 97) 37 = .ok (.invokevirtual 244, 3) := by decide +kernel
set_option maxRecDepth 20000 in
theorem w97_37 {d : Nat} {st : List Value} {Q : Option Value × jW → Prop} {ls : jL} {xs : List Value} {I : fI} {L : fL} {r : Nat} {x0 : Int32} {x1 : Int32} (hs : j_sumc st ≤ 8) (ht : f_tg r = 8) : Wp (d + 1) 97 37 ls (.int x1 :: .int x0 :: .ref r :: st) (f_W xs I L) Q = Wp d 100 0 [some (.ref r), some (.int x0), some (.int x1), none] [] (f_W xs I L) (fun r1 => Wp (d + 1) 97 40 ls (r1.1.toList ++ st) r1.2 Q) := Wp.cv (y' := 100) (as := [.int x0, .int x1]) e97_37 rfl (by decide) rfl (show 3 ≤ 4 by decide) (by decide) hs ht
theorem e97_40 : decode (j_co 97) 40 = .ok (.iconst 1, 1) := by decide +kernel
set_option maxRecDepth 20000 in
theorem w97_40 {d : Nat} {st : List Value} {Q : Option Value × jW → Prop} {ls : jL} {w : jW} : Wp d 97 40 ls (st) w Q = Wp d 97 41 ls (.int (nI 1) :: st) w Q := Wp.alu e97_40 rfl rfl
theorem e97_41 : decode (j_co 97) 41 = .ok (.ireturn, 1) := by decide +kernel
set_option maxRecDepth 20000 in
theorem w97_41 {d : Nat} {Q : Option Value × jW → Prop} {ls : jL} {w : jW} {x : Int32} : Wp d 97 41 ls [.int x] w Q = Q (some (.int x), w) := Wp.ret e97_41 rfl
/-! X.isSheet -/
theorem e98_0 : decode (j_co 98) 0 = .ok (.iload_n 0, 1) := by decide +kernel
set_option maxRecDepth 20000 in
theorem w98_0 {d : Nat} {st : List Value} {Q : Option Value × jW → Prop} {w : jW} {x : Int32} : Wp d 98 0 [some (.int x)] (st) w Q = Wp d 98 1 [some (.int x)] (.int x :: st) w Q := Wp.loc e98_0 rfl rfl rfl
theorem e98_1 : decode (j_co 98) 1 = .ok (.ifCond .lt 12, 3) := by decide +kernel
set_option maxRecDepth 20000 in
theorem w98_1 {d : Nat} {st : List Value} {Q : Option Value × jW → Prop} {ls : jL} {w : jW} {a : Int32} : Wp d 98 1 ls (.int a :: st) w Q = ((a < nI 0 → Wp d 98 13 ls st w Q) ∧ (¬ a < nI 0 → Wp d 98 4 ls st w Q)) := Wp.if2 (c := a < nI 0) (off := 12) e98_1 rfl rfl rfl rfl rfl
theorem e98_4 : decode (j_co 98) 4 = .ok (.iload_n 0, 1) := by decide +kernel
set_option maxRecDepth 20000 in
theorem w98_4 {d : Nat} {st : List Value} {Q : Option Value × jW → Prop} {w : jW} {x : Int32} : Wp d 98 4 [some (.int x)] (st) w Q = Wp d 98 5 [some (.int x)] (.int x :: st) w Q := Wp.loc e98_4 rfl rfl rfl
theorem e98_5 : decode (j_co 98) 5 = .ok (.iconst 4, 1) := by decide +kernel
set_option maxRecDepth 20000 in
theorem w98_5 {d : Nat} {st : List Value} {Q : Option Value × jW → Prop} {ls : jL} {w : jW} : Wp d 98 5 ls (st) w Q = Wp d 98 6 ls (.int (nI 4) :: st) w Q := Wp.alu e98_5 rfl rfl
theorem e98_6 : decode (j_co 98) 6 = .ok (.if_icmp .ge 7, 3) := by decide +kernel
set_option maxRecDepth 20000 in
theorem w98_6 {d : Nat} {st : List Value} {Q : Option Value × jW → Prop} {ls : jL} {w : jW} {a b : Int32} : Wp d 98 6 ls (.int b :: .int a :: st) w Q = ((b ≤ a → Wp d 98 13 ls st w Q) ∧ (¬ b ≤ a → Wp d 98 9 ls st w Q)) := Wp.if2 (c := b ≤ a) (off := 7) e98_6 rfl rfl rfl rfl rfl
theorem e98_9 : decode (j_co 98) 9 = .ok (.iconst 1, 1) := by decide +kernel
set_option maxRecDepth 20000 in
theorem w98_9 {d : Nat} {st : List Value} {Q : Option Value × jW → Prop} {ls : jL} {w : jW} : Wp d 98 9 ls (st) w Q = Wp d 98 10 ls (.int (nI 1) :: st) w Q := Wp.alu e98_9 rfl rfl
theorem e98_10 : decode (j_co 98) 10 = .ok (.goto 4, 3) := by decide +kernel
set_option maxRecDepth 20000 in
theorem w98_10 {d : Nat} {st : List Value} {Q : Option Value × jW → Prop} {ls : jL} {w : jW} : Wp d 98 10 ls (st) w Q = Wp d 98 14 ls (st) w Q := Wp.br e98_10 (Or.inl rfl) rfl rfl rfl rfl
theorem e98_13 : decode (j_co 98) 13 = .ok (.iconst 0, 1) := by decide +kernel
set_option maxRecDepth 20000 in
theorem w98_13 {d : Nat} {st : List Value} {Q : Option Value × jW → Prop} {ls : jL} {w : jW} : Wp d 98 13 ls (st) w Q = Wp d 98 14 ls (.int (nI 0) :: st) w Q := Wp.alu e98_13 rfl rfl
theorem e98_14 : decode (j_co 98) 14 = .ok (.ireturn, 1) := by decide +kernel
set_option maxRecDepth 20000 in
theorem w98_14 {d : Nat} {Q : Option Value × jW → Prop} {ls : jL} {w : jW} {x : Int32} (hx : x = 0 ∨ x = 1) : Wp d 98 14 ls [.int x] w Q = Q (some (.int x), w) := Wp.ret e98_14 (by rcases hx with rfl | rfl <;> rfl)
/-! X.isLane -/
theorem e99_0 : decode (j_co 99) 0 = .ok (.iload_n 0, 1) := by decide +kernel
set_option maxRecDepth 20000 in
theorem w99_0 {d : Nat} {st : List Value} {Q : Option Value × jW → Prop} {w : jW} {x : Int32} : Wp d 99 0 [some (.int x)] (st) w Q = Wp d 99 1 [some (.int x)] (.int x :: st) w Q := Wp.loc e99_0 rfl rfl rfl
theorem e99_1 : decode (j_co 99) 1 = .ok (.ifCond .lt 12, 3) := by decide +kernel
set_option maxRecDepth 20000 in
theorem w99_1 {d : Nat} {st : List Value} {Q : Option Value × jW → Prop} {ls : jL} {w : jW} {a : Int32} : Wp d 99 1 ls (.int a :: st) w Q = ((a < nI 0 → Wp d 99 13 ls st w Q) ∧ (¬ a < nI 0 → Wp d 99 4 ls st w Q)) := Wp.if2 (c := a < nI 0) (off := 12) e99_1 rfl rfl rfl rfl rfl
theorem e99_4 : decode (j_co 99) 4 = .ok (.iload_n 0, 1) := by decide +kernel
set_option maxRecDepth 20000 in
theorem w99_4 {d : Nat} {st : List Value} {Q : Option Value × jW → Prop} {w : jW} {x : Int32} : Wp d 99 4 [some (.int x)] (st) w Q = Wp d 99 5 [some (.int x)] (.int x :: st) w Q := Wp.loc e99_4 rfl rfl rfl
theorem e99_5 : decode (j_co 99) 5 = .ok (.iconst 3, 1) := by decide +kernel
set_option maxRecDepth 20000 in
theorem w99_5 {d : Nat} {st : List Value} {Q : Option Value × jW → Prop} {ls : jL} {w : jW} : Wp d 99 5 ls (st) w Q = Wp d 99 6 ls (.int (nI 3) :: st) w Q := Wp.alu e99_5 rfl rfl
theorem e99_6 : decode (j_co 99) 6 = .ok (.if_icmp .ge 7, 3) := by decide +kernel
set_option maxRecDepth 20000 in
theorem w99_6 {d : Nat} {st : List Value} {Q : Option Value × jW → Prop} {ls : jL} {w : jW} {a b : Int32} : Wp d 99 6 ls (.int b :: .int a :: st) w Q = ((b ≤ a → Wp d 99 13 ls st w Q) ∧ (¬ b ≤ a → Wp d 99 9 ls st w Q)) := Wp.if2 (c := b ≤ a) (off := 7) e99_6 rfl rfl rfl rfl rfl
theorem e99_9 : decode (j_co 99) 9 = .ok (.iconst 1, 1) := by decide +kernel
set_option maxRecDepth 20000 in
theorem w99_9 {d : Nat} {st : List Value} {Q : Option Value × jW → Prop} {ls : jL} {w : jW} : Wp d 99 9 ls (st) w Q = Wp d 99 10 ls (.int (nI 1) :: st) w Q := Wp.alu e99_9 rfl rfl
theorem e99_10 : decode (j_co 99) 10 = .ok (.goto 4, 3) := by decide +kernel
set_option maxRecDepth 20000 in
theorem w99_10 {d : Nat} {st : List Value} {Q : Option Value × jW → Prop} {ls : jL} {w : jW} : Wp d 99 10 ls (st) w Q = Wp d 99 14 ls (st) w Q := Wp.br e99_10 (Or.inl rfl) rfl rfl rfl rfl
theorem e99_13 : decode (j_co 99) 13 = .ok (.iconst 0, 1) := by decide +kernel
set_option maxRecDepth 20000 in
theorem w99_13 {d : Nat} {st : List Value} {Q : Option Value × jW → Prop} {ls : jL} {w : jW} : Wp d 99 13 ls (st) w Q = Wp d 99 14 ls (.int (nI 0) :: st) w Q := Wp.alu e99_13 rfl rfl
theorem e99_14 : decode (j_co 99) 14 = .ok (.ireturn, 1) := by decide +kernel
set_option maxRecDepth 20000 in
theorem w99_14 {d : Nat} {Q : Option Value × jW → Prop} {ls : jL} {w : jW} {x : Int32} (hx : x = 0 ∨ x = 1) : Wp d 99 14 ls [.int x] w Q = Q (some (.int x), w) := Wp.ret e99_14 (by rcases hx with rfl | rfl <;> rfl)
/-! X.lay -/
theorem e101_0 : decode (j_co 101) 0 = .ok (.iload_n 1, 1) := by decide +kernel
set_option maxRecDepth 20000 in
theorem w101_0 {d : Nat} {st : List Value} {Q : Option Value × jW → Prop} {w : jW} {a0 a2 a3 : Option Value} {x : Int32} : Wp d 101 0 [a0, some (.int x), a2, a3] (st) w Q = Wp d 101 1 [a0, some (.int x), a2, a3] (.int x :: st) w Q := Wp.loc e101_0 rfl rfl rfl
theorem e101_1 : decode (j_co 101) 1 = .ok (.invokestatic 238, 3) := by decide +kernel
set_option maxRecDepth 20000 in
theorem w101_1 {d : Nat} {st : List Value} {Q : Option Value × jW → Prop} {ls : jL} {w : jW} {x0 : Int32} (hs : j_sumc st ≤ 8) : Wp (d + 1) 101 1 ls (.int x0 :: st) w Q = Wp d 98 0 [some (.int x0)] [] w (fun r1 => Wp (d + 1) 101 4 ls (r1.1.toList ++ st) r1.2 Q) := Wp.cs (kd := 1) (y' := 98) (as := [.int x0]) e101_1 rfl (by decide) (by decide) rfl (show 1 ≤ 1 by decide) hs
theorem e101_4 : decode (j_co 101) 4 = .ok (.ifCond .ne 5, 3) := by decide +kernel
set_option maxRecDepth 20000 in
theorem w101_4 {d : Nat} {st : List Value} {Q : Option Value × jW → Prop} {ls : jL} {w : jW} {a : Int32} : Wp d 101 4 ls (.int a :: st) w Q = ((a = nI 0 → Wp d 101 7 ls st w Q) ∧ (¬ a = nI 0 → Wp d 101 9 ls st w Q)) := Wp.if2n (c := a = nI 0) (off := 5) e101_4 rfl rfl rfl rfl rfl
theorem e101_7 : decode (j_co 101) 7 = .ok (.iconst (-1), 1) := by decide +kernel
set_option maxRecDepth 20000 in
theorem w101_7 {d : Nat} {st : List Value} {Q : Option Value × jW → Prop} {ls : jL} {w : jW} : Wp d 101 7 ls (st) w Q = Wp d 101 8 ls (.int (-1) :: st) w Q := Wp.alu e101_7 rfl rfl
theorem e101_8 : decode (j_co 101) 8 = .ok (.ireturn, 1) := by decide +kernel
set_option maxRecDepth 20000 in
theorem w101_8 {d : Nat} {Q : Option Value × jW → Prop} {ls : jL} {w : jW} {x : Int32} : Wp d 101 8 ls [.int x] w Q = Q (some (.int x), w) := Wp.ret e101_8 rfl
theorem e101_9 : decode (j_co 101) 9 = .ok (.aload_n 0, 1) := by decide +kernel
set_option maxRecDepth 20000 in
theorem w101_9 {d : Nat} {st : List Value} {Q : Option Value × jW → Prop} {w : jW} {a1 a2 a3 : Option Value} {x : Nat} : Wp d 101 9 [some (.ref x), a1, a2, a3] (st) w Q = Wp d 101 10 [some (.ref x), a1, a2, a3] (.ref x :: st) w Q := Wp.loc e101_9 rfl rfl rfl
theorem e101_10 : decode (j_co 101) 10 = .ok (.getfield 50, 3) := by decide +kernel
set_option maxRecDepth 20000 in
theorem w101_10 {d : Nat} {st : List Value} {Q : Option Value × jW → Prop} {ls : jL} {xs : List Value} {I : fI} {L : fL} {o : Nat} (ht : f_tg o = 10) : Wp d 101 10 ls (.ref o :: st) (f_W xs I L) Q = Wp d 101 13 ls (.ref (f_rf o 5) :: st) (f_W xs I L) Q := Wp.getR (ci := 10) (k := 5) e101_10 rfl (by decide) (by decide) rfl ht
theorem e101_13 : decode (j_co 101) 13 = .ok (.iload_n 1, 1) := by decide +kernel
set_option maxRecDepth 20000 in
theorem w101_13 {d : Nat} {st : List Value} {Q : Option Value × jW → Prop} {w : jW} {a0 a2 a3 : Option Value} {x : Int32} : Wp d 101 13 [a0, some (.int x), a2, a3] (st) w Q = Wp d 101 14 [a0, some (.int x), a2, a3] (.int x :: st) w Q := Wp.loc e101_13 rfl rfl rfl
theorem e101_14 : decode (j_co 101) 14 = .ok (.aaload, 1) := by decide +kernel
set_option maxRecDepth 20000 in
theorem w101_14 {d : Nat} {st : List Value} {Q : Option Value × jW → Prop} {ls : jL} {xs : List Value} {I : fI} {L : fL} {o : Nat} {i : Int32} (ht : 103 ≤ f_tg o ∧ f_tg o ≤ 106) (hi : ¬ (i < 0 ∨ f_ln o ≤ i.toNatClampNeg)) : Wp d 101 14 ls (.int i :: .ref o :: st) (f_W xs I L) Q = Wp d 101 15 ls (.ref (f_rf o i.toNatClampNeg) :: st) (f_W xs I L) Q := Wp.aald e101_14 rfl ht hi
theorem e101_15 : decode (j_co 101) 15 = .ok (.iload_n 2, 1) := by decide +kernel
set_option maxRecDepth 20000 in
theorem w101_15 {d : Nat} {st : List Value} {Q : Option Value × jW → Prop} {w : jW} {a0 a1 a3 : Option Value} {x : Int32} : Wp d 101 15 [a0, a1, some (.int x), a3] (st) w Q = Wp d 101 16 [a0, a1, some (.int x), a3] (.int x :: st) w Q := Wp.loc e101_15 rfl rfl rfl
theorem e101_16 : decode (j_co 101) 16 = .ok (.iload_n 3, 1) := by decide +kernel
set_option maxRecDepth 20000 in
theorem w101_16 {d : Nat} {st : List Value} {Q : Option Value × jW → Prop} {w : jW} {a0 a1 a2 : Option Value} {x : Int32} : Wp d 101 16 [a0, a1, a2, some (.int x)] (st) w Q = Wp d 101 17 [a0, a1, a2, some (.int x)] (.int x :: st) w Q := Wp.loc e101_16 rfl rfl rfl
theorem e101_17 : decode (j_co 101) 17 = .ok (.invokevirtual 248, 3) := by decide +kernel
set_option maxRecDepth 20000 in
theorem w101_17 {d : Nat} {st : List Value} {Q : Option Value × jW → Prop} {ls : jL} {xs : List Value} {I : fI} {L : fL} {r : Nat} {x0 : Int32} {x1 : Int32} (hs : j_sumc st ≤ 8) (ht : f_tg r = 8) : Wp (d + 1) 101 17 ls (.int x1 :: .int x0 :: .ref r :: st) (f_W xs I L) Q = Wp d 102 0 [some (.ref r), some (.int x0), some (.int x1)] [] (f_W xs I L) (fun r1 => Wp (d + 1) 101 20 ls (r1.1.toList ++ st) r1.2 Q) := Wp.cv (y' := 102) (as := [.int x0, .int x1]) e101_17 rfl (by decide) rfl (show 3 ≤ 3 by decide) (by decide) hs ht
theorem e101_20 : decode (j_co 101) 20 = .ok (.ireturn, 1) := by decide +kernel
set_option maxRecDepth 20000 in
theorem w101_20 {d : Nat} {Q : Option Value × jW → Prop} {ls : jL} {w : jW} {x : Int32} : Wp d 101 20 ls [.int x] w Q = Q (some (.int x), w) := Wp.ret e101_20 rfl
/-! X.draw -/
theorem e105_0 : decode (j_co 105) 0 = .ok (.aload_n 0, 1) := by decide +kernel
set_option maxRecDepth 20000 in
theorem w105_0 {d : Nat} {st : List Value} {Q : Option Value × jW → Prop} {w : jW} {a1 a2 a3 a4 a5 a6 a7 : Option Value} {x : Nat} : Wp d 105 0 [some (.ref x), a1, a2, a3, a4, a5, a6, a7] (st) w Q = Wp d 105 1 [some (.ref x), a1, a2, a3, a4, a5, a6, a7] (.ref x :: st) w Q := Wp.loc e105_0 rfl rfl rfl
theorem e105_1 : decode (j_co 105) 1 = .ok (.iload_n 1, 1) := by decide +kernel
set_option maxRecDepth 20000 in
theorem w105_1 {d : Nat} {st : List Value} {Q : Option Value × jW → Prop} {w : jW} {a0 a2 a3 a4 a5 a6 a7 : Option Value} {x : Int32} : Wp d 105 1 [a0, some (.int x), a2, a3, a4, a5, a6, a7] (st) w Q = Wp d 105 2 [a0, some (.int x), a2, a3, a4, a5, a6, a7] (.int x :: st) w Q := Wp.loc e105_1 rfl rfl rfl
theorem e105_2 : decode (j_co 105) 2 = .ok (.iload_n 2, 1) := by decide +kernel
set_option maxRecDepth 20000 in
theorem w105_2 {d : Nat} {st : List Value} {Q : Option Value × jW → Prop} {w : jW} {a0 a1 a3 a4 a5 a6 a7 : Option Value} {x : Int32} : Wp d 105 2 [a0, a1, some (.int x), a3, a4, a5, a6, a7] (st) w Q = Wp d 105 3 [a0, a1, some (.int x), a3, a4, a5, a6, a7] (.int x :: st) w Q := Wp.loc e105_2 rfl rfl rfl
theorem e105_3 : decode (j_co 105) 3 = .ok (.invokevirtual 251, 3) := by decide +kernel
set_option maxRecDepth 20000 in
theorem w105_3 {d : Nat} {st : List Value} {Q : Option Value × jW → Prop} {ls : jL} {xs : List Value} {I : fI} {L : fL} {r : Nat} {x0 : Int32} {x1 : Int32} (hs : j_sumc st ≤ 8) (ht : f_tg r = 10) : Wp (d + 1) 105 3 ls (.int x1 :: .int x0 :: .ref r :: st) (f_W xs I L) Q = Wp d 106 0 [some (.ref r), some (.int x0), some (.int x1)] [] (f_W xs I L) (fun r1 => Wp (d + 1) 105 6 ls (r1.1.toList ++ st) r1.2 Q) := Wp.cv (y' := 106) (as := [.int x0, .int x1]) e105_3 rfl (by decide) rfl (show 3 ≤ 3 by decide) (by decide) hs ht
theorem e105_6 : decode (j_co 105) 6 = .ok (.astore 6, 2) := by decide +kernel
set_option maxRecDepth 20000 in
theorem w105_6 {d : Nat} {st : List Value} {Q : Option Value × jW → Prop} {w : jW} {a0 a1 a2 a3 a4 a5 a6 a7 : Option Value} {x : Nat} (h : j_cp a5) : Wp d 105 6 [a0, a1, a2, a3, a4, a5, a6, a7] (.ref x :: st) w Q = Wp d 105 8 [a0, a1, a2, a3, a4, a5, some (.ref x), a7] (st) w Q := Wp.loc e105_6 rfl rfl (v_stA (ls := [a0, a1, a2, a3, a4, a5, a6, a7]) (k := 6) (show 6 < 8 by decide) h)
theorem e105_8 : decode (j_co 105) 8 = .ok (.aload 6, 2) := by decide +kernel
set_option maxRecDepth 20000 in
theorem w105_8 {d : Nat} {st : List Value} {Q : Option Value × jW → Prop} {w : jW} {a0 a1 a2 a3 a4 a5 a7 : Option Value} {x : Nat} : Wp d 105 8 [a0, a1, a2, a3, a4, a5, some (.ref x), a7] (st) w Q = Wp d 105 10 [a0, a1, a2, a3, a4, a5, some (.ref x), a7] (.ref x :: st) w Q := Wp.loc e105_8 rfl rfl rfl
theorem e105_10 : decode (j_co 105) 10 = .ok (.ifnull 18, 3) := by decide +kernel
set_option maxRecDepth 20000 in
theorem w105_10 {d : Nat} {st : List Value} {Q : Option Value × jW → Prop} {ls : jL} {w : jW} {a : Nat} : Wp d 105 10 ls (.ref a :: st) w Q = Wp d 105 13 ls (st) w Q := Wp.br e105_10 (Or.inl rfl) rfl rfl rfl rfl
set_option maxRecDepth 20000 in
theorem w105_10n {d : Nat} {st : List Value} {Q : Option Value × jW → Prop} {ls : jL} {w : jW} : Wp d 105 10 ls (.null :: st) w Q = Wp d 105 28 ls (st) w Q := Wp.br e105_10 (Or.inl rfl) rfl rfl rfl rfl
theorem e105_13 : decode (j_co 105) 13 = .ok (.iload_n 3, 1) := by decide +kernel
set_option maxRecDepth 20000 in
theorem w105_13 {d : Nat} {st : List Value} {Q : Option Value × jW → Prop} {w : jW} {a0 a1 a2 a4 a5 a6 a7 : Option Value} {x : Int32} : Wp d 105 13 [a0, a1, a2, some (.int x), a4, a5, a6, a7] (st) w Q = Wp d 105 14 [a0, a1, a2, some (.int x), a4, a5, a6, a7] (.int x :: st) w Q := Wp.loc e105_13 rfl rfl rfl
theorem e105_14 : decode (j_co 105) 14 = .ok (.invokestatic 238, 3) := by decide +kernel
set_option maxRecDepth 20000 in
theorem w105_14 {d : Nat} {st : List Value} {Q : Option Value × jW → Prop} {ls : jL} {w : jW} {x0 : Int32} (hs : j_sumc st ≤ 8) : Wp (d + 1) 105 14 ls (.int x0 :: st) w Q = Wp d 98 0 [some (.int x0)] [] w (fun r1 => Wp (d + 1) 105 17 ls (r1.1.toList ++ st) r1.2 Q) := Wp.cs (kd := 1) (y' := 98) (as := [.int x0]) e105_14 rfl (by decide) (by decide) rfl (show 1 ≤ 1 by decide) hs
theorem e105_17 : decode (j_co 105) 17 = .ok (.ifCond .eq 11, 3) := by decide +kernel
set_option maxRecDepth 20000 in
theorem w105_17 {d : Nat} {st : List Value} {Q : Option Value × jW → Prop} {ls : jL} {w : jW} {a : Int32} : Wp d 105 17 ls (.int a :: st) w Q = ((a = nI 0 → Wp d 105 28 ls st w Q) ∧ (¬ a = nI 0 → Wp d 105 20 ls st w Q)) := Wp.if2 (c := a = nI 0) (off := 11) e105_17 rfl rfl rfl rfl rfl
theorem e105_20 : decode (j_co 105) 20 = .ok (.iload 4, 2) := by decide +kernel
set_option maxRecDepth 20000 in
theorem w105_20 {d : Nat} {st : List Value} {Q : Option Value × jW → Prop} {w : jW} {a0 a1 a2 a3 a5 a6 a7 : Option Value} {x : Int32} : Wp d 105 20 [a0, a1, a2, a3, some (.int x), a5, a6, a7] (st) w Q = Wp d 105 22 [a0, a1, a2, a3, some (.int x), a5, a6, a7] (.int x :: st) w Q := Wp.loc e105_20 rfl rfl rfl
theorem e105_22 : decode (j_co 105) 22 = .ok (.invokestatic 241, 3) := by decide +kernel
set_option maxRecDepth 20000 in
theorem w105_22 {d : Nat} {st : List Value} {Q : Option Value × jW → Prop} {ls : jL} {w : jW} {x0 : Int32} (hs : j_sumc st ≤ 8) : Wp (d + 1) 105 22 ls (.int x0 :: st) w Q = Wp d 99 0 [some (.int x0)] [] w (fun r1 => Wp (d + 1) 105 25 ls (r1.1.toList ++ st) r1.2 Q) := Wp.cs (kd := 1) (y' := 99) (as := [.int x0]) e105_22 rfl (by decide) (by decide) rfl (show 1 ≤ 1 by decide) hs
theorem e105_25 : decode (j_co 105) 25 = .ok (.ifCond .ne 5, 3) := by decide +kernel
set_option maxRecDepth 20000 in
theorem w105_25 {d : Nat} {st : List Value} {Q : Option Value × jW → Prop} {ls : jL} {w : jW} {a : Int32} : Wp d 105 25 ls (.int a :: st) w Q = ((a = nI 0 → Wp d 105 28 ls st w Q) ∧ (¬ a = nI 0 → Wp d 105 30 ls st w Q)) := Wp.if2n (c := a = nI 0) (off := 5) e105_25 rfl rfl rfl rfl rfl
theorem e105_28 : decode (j_co 105) 28 = .ok (.iconst (-1), 1) := by decide +kernel
set_option maxRecDepth 20000 in
theorem w105_28 {d : Nat} {st : List Value} {Q : Option Value × jW → Prop} {ls : jL} {w : jW} : Wp d 105 28 ls (st) w Q = Wp d 105 29 ls (.int (-1) :: st) w Q := Wp.alu e105_28 rfl rfl
theorem e105_29 : decode (j_co 105) 29 = .ok (.ireturn, 1) := by decide +kernel
set_option maxRecDepth 20000 in
theorem w105_29 {d : Nat} {Q : Option Value × jW → Prop} {ls : jL} {w : jW} {x : Int32} : Wp d 105 29 ls [.int x] w Q = Q (some (.int x), w) := Wp.ret e105_29 rfl
theorem e105_30 : decode (j_co 105) 30 = .ok (.aload_n 0, 1) := by decide +kernel
set_option maxRecDepth 20000 in
theorem w105_30 {d : Nat} {st : List Value} {Q : Option Value × jW → Prop} {w : jW} {a1 a2 a3 a4 a5 a6 a7 : Option Value} {x : Nat} : Wp d 105 30 [some (.ref x), a1, a2, a3, a4, a5, a6, a7] (st) w Q = Wp d 105 31 [some (.ref x), a1, a2, a3, a4, a5, a6, a7] (.ref x :: st) w Q := Wp.loc e105_30 rfl rfl rfl
theorem e105_31 : decode (j_co 105) 31 = .ok (.getfield 50, 3) := by decide +kernel
set_option maxRecDepth 20000 in
theorem w105_31 {d : Nat} {st : List Value} {Q : Option Value × jW → Prop} {ls : jL} {xs : List Value} {I : fI} {L : fL} {o : Nat} (ht : f_tg o = 10) : Wp d 105 31 ls (.ref o :: st) (f_W xs I L) Q = Wp d 105 34 ls (.ref (f_rf o 5) :: st) (f_W xs I L) Q := Wp.getR (ci := 10) (k := 5) e105_31 rfl (by decide) (by decide) rfl ht
theorem e105_34 : decode (j_co 105) 34 = .ok (.iload_n 3, 1) := by decide +kernel
set_option maxRecDepth 20000 in
theorem w105_34 {d : Nat} {st : List Value} {Q : Option Value × jW → Prop} {w : jW} {a0 a1 a2 a4 a5 a6 a7 : Option Value} {x : Int32} : Wp d 105 34 [a0, a1, a2, some (.int x), a4, a5, a6, a7] (st) w Q = Wp d 105 35 [a0, a1, a2, some (.int x), a4, a5, a6, a7] (.int x :: st) w Q := Wp.loc e105_34 rfl rfl rfl
theorem e105_35 : decode (j_co 105) 35 = .ok (.aaload, 1) := by decide +kernel
set_option maxRecDepth 20000 in
theorem w105_35 {d : Nat} {st : List Value} {Q : Option Value × jW → Prop} {ls : jL} {xs : List Value} {I : fI} {L : fL} {o : Nat} {i : Int32} (ht : 103 ≤ f_tg o ∧ f_tg o ≤ 106) (hi : ¬ (i < 0 ∨ f_ln o ≤ i.toNatClampNeg)) : Wp d 105 35 ls (.int i :: .ref o :: st) (f_W xs I L) Q = Wp d 105 36 ls (.ref (f_rf o i.toNatClampNeg) :: st) (f_W xs I L) Q := Wp.aald e105_35 rfl ht hi
theorem e105_36 : decode (j_co 105) 36 = .ok (.iload 4, 2) := by decide +kernel
set_option maxRecDepth 20000 in
theorem w105_36 {d : Nat} {st : List Value} {Q : Option Value × jW → Prop} {w : jW} {a0 a1 a2 a3 a5 a6 a7 : Option Value} {x : Int32} : Wp d 105 36 [a0, a1, a2, a3, some (.int x), a5, a6, a7] (st) w Q = Wp d 105 38 [a0, a1, a2, a3, some (.int x), a5, a6, a7] (.int x :: st) w Q := Wp.loc e105_36 rfl rfl rfl
theorem e105_38 : decode (j_co 105) 38 = .ok (.iload 5, 2) := by decide +kernel
set_option maxRecDepth 20000 in
theorem w105_38 {d : Nat} {st : List Value} {Q : Option Value × jW → Prop} {w : jW} {a0 a1 a2 a3 a4 a6 a7 : Option Value} {x : Int32} : Wp d 105 38 [a0, a1, a2, a3, a4, some (.int x), a6, a7] (st) w Q = Wp d 105 40 [a0, a1, a2, a3, a4, some (.int x), a6, a7] (.int x :: st) w Q := Wp.loc e105_38 rfl rfl rfl
theorem e105_40 : decode (j_co 105) 40 = .ok (.iload_n 1, 1) := by decide +kernel
set_option maxRecDepth 20000 in
theorem w105_40 {d : Nat} {st : List Value} {Q : Option Value × jW → Prop} {w : jW} {a0 a2 a3 a4 a5 a6 a7 : Option Value} {x : Int32} : Wp d 105 40 [a0, some (.int x), a2, a3, a4, a5, a6, a7] (st) w Q = Wp d 105 41 [a0, some (.int x), a2, a3, a4, a5, a6, a7] (.int x :: st) w Q := Wp.loc e105_40 rfl rfl rfl
theorem e105_41 : decode (j_co 105) 41 = .ok (.iconst 1, 1) := by decide +kernel
set_option maxRecDepth 20000 in
theorem w105_41 {d : Nat} {st : List Value} {Q : Option Value × jW → Prop} {ls : jL} {w : jW} : Wp d 105 41 ls (st) w Q = Wp d 105 42 ls (.int (nI 1) :: st) w Q := Wp.alu e105_41 rfl rfl
theorem e105_42 : decode (j_co 105) 42 = .ok (.if_icmp .ne 7, 3) := by decide +kernel
set_option maxRecDepth 20000 in
theorem w105_42 {d : Nat} {st : List Value} {Q : Option Value × jW → Prop} {ls : jL} {w : jW} {a b : Int32} : Wp d 105 42 ls (.int b :: .int a :: st) w Q = ((a = b → Wp d 105 45 ls st w Q) ∧ (¬ a = b → Wp d 105 49 ls st w Q)) := Wp.if2n (c := a = b) (off := 7) e105_42 rfl rfl rfl rfl rfl
theorem e105_45 : decode (j_co 105) 45 = .ok (.iconst 5, 1) := by decide +kernel
set_option maxRecDepth 20000 in
theorem w105_45 {d : Nat} {st : List Value} {Q : Option Value × jW → Prop} {ls : jL} {w : jW} : Wp d 105 45 ls (st) w Q = Wp d 105 46 ls (.int (nI 5) :: st) w Q := Wp.alu e105_45 rfl rfl
theorem e105_46 : decode (j_co 105) 46 = .ok (.goto 5, 3) := by decide +kernel
set_option maxRecDepth 20000 in
theorem w105_46 {d : Nat} {st : List Value} {Q : Option Value × jW → Prop} {ls : jL} {w : jW} : Wp d 105 46 ls (st) w Q = Wp d 105 51 ls (st) w Q := Wp.br e105_46 (Or.inl rfl) rfl rfl rfl rfl
theorem e105_49 : decode (j_co 105) 49 = .ok (.bipush 20, 2) := by decide +kernel
set_option maxRecDepth 20000 in
theorem w105_49 {d : Nat} {st : List Value} {Q : Option Value × jW → Prop} {ls : jL} {w : jW} : Wp d 105 49 ls (st) w Q = Wp d 105 51 ls (.int (nI 20) :: st) w Q := Wp.alu e105_49 rfl rfl
theorem e105_51 : decode (j_co 105) 51 = .ok (.aload_n 0, 1) := by decide +kernel
set_option maxRecDepth 20000 in
theorem w105_51 {d : Nat} {st : List Value} {Q : Option Value × jW → Prop} {w : jW} {a1 a2 a3 a4 a5 a6 a7 : Option Value} {x : Nat} : Wp d 105 51 [some (.ref x), a1, a2, a3, a4, a5, a6, a7] (st) w Q = Wp d 105 52 [some (.ref x), a1, a2, a3, a4, a5, a6, a7] (.ref x :: st) w Q := Wp.loc e105_51 rfl rfl rfl
theorem e105_52 : decode (j_co 105) 52 = .ok (.getfield 57, 3) := by decide +kernel
set_option maxRecDepth 20000 in
theorem w105_52 {d : Nat} {st : List Value} {Q : Option Value × jW → Prop} {ls : jL} {xs : List Value} {I : fI} {L : fL} {o : Nat} (ht : f_tg o = 10) : Wp d 105 52 ls (.ref o :: st) (f_W xs I L) Q = Wp d 105 55 ls (.ref (f_rf o 6) :: st) (f_W xs I L) Q := Wp.getR (ci := 10) (k := 6) e105_52 rfl (by decide) (by decide) rfl ht
theorem e105_55 : decode (j_co 105) 55 = .ok (.invokevirtual 255, 3) := by decide +kernel
set_option maxRecDepth 20000 in
theorem w105_55 {d : Nat} {st : List Value} {Q : Option Value × jW → Prop} {ls : jL} {xs : List Value} {I : fI} {L : fL} {r : Nat} {x0 : Int32} {x1 : Int32} {x2 : Int32} {x3 : Nat} (hs : j_sumc st ≤ 8) (ht : f_tg r = 8) : Wp (d + 1) 105 55 ls (.ref x3 :: .int x2 :: .int x1 :: .int x0 :: .ref r :: st) (f_W xs I L) Q = Wp d 107 0 [some (.ref r), some (.int x0), some (.int x1), some (.int x2), some (.ref x3), none, none, none, none] [] (f_W xs I L) (fun r1 => Wp (d + 1) 105 58 ls (r1.1.toList ++ st) r1.2 Q) := Wp.cv (y' := 107) (as := [.int x0, .int x1, .int x2, .ref x3]) e105_55 rfl (by decide) rfl (show 5 ≤ 9 by decide) (by decide) hs ht
theorem e105_58 : decode (j_co 105) 58 = .ok (.istore 7, 2) := by decide +kernel
set_option maxRecDepth 20000 in
theorem w105_58 {d : Nat} {st : List Value} {Q : Option Value × jW → Prop} {w : jW} {a0 a1 a2 a3 a4 a5 a6 a7 : Option Value} {x : Int32} (h : j_cp a6) : Wp d 105 58 [a0, a1, a2, a3, a4, a5, a6, a7] (.int x :: st) w Q = Wp d 105 60 [a0, a1, a2, a3, a4, a5, a6, some (.int x)] (st) w Q := Wp.loc e105_58 rfl rfl (v_stI (ls := [a0, a1, a2, a3, a4, a5, a6, a7]) (k := 7) (show 7 < 8 by decide) h)
theorem e105_60 : decode (j_co 105) 60 = .ok (.iload 7, 2) := by decide +kernel
set_option maxRecDepth 20000 in
theorem w105_60 {d : Nat} {st : List Value} {Q : Option Value × jW → Prop} {w : jW} {a0 a1 a2 a3 a4 a5 a6 : Option Value} {x : Int32} : Wp d 105 60 [a0, a1, a2, a3, a4, a5, a6, some (.int x)] (st) w Q = Wp d 105 62 [a0, a1, a2, a3, a4, a5, a6, some (.int x)] (.int x :: st) w Q := Wp.loc e105_60 rfl rfl rfl
theorem e105_62 : decode (j_co 105) 62 = .ok (.iconst 1, 1) := by decide +kernel
set_option maxRecDepth 20000 in
theorem w105_62 {d : Nat} {st : List Value} {Q : Option Value × jW → Prop} {ls : jL} {w : jW} : Wp d 105 62 ls (st) w Q = Wp d 105 63 ls (.int (nI 1) :: st) w Q := Wp.alu e105_62 rfl rfl
theorem e105_63 : decode (j_co 105) 63 = .ok (.if_icmp .ne 19, 3) := by decide +kernel
set_option maxRecDepth 20000 in
theorem w105_63 {d : Nat} {st : List Value} {Q : Option Value × jW → Prop} {ls : jL} {w : jW} {a b : Int32} : Wp d 105 63 ls (.int b :: .int a :: st) w Q = ((a = b → Wp d 105 66 ls st w Q) ∧ (¬ a = b → Wp d 105 82 ls st w Q)) := Wp.if2n (c := a = b) (off := 19) e105_63 rfl rfl rfl rfl rfl
theorem e105_66 : decode (j_co 105) 66 = .ok (.aload_n 0, 1) := by decide +kernel
set_option maxRecDepth 20000 in
theorem w105_66 {d : Nat} {st : List Value} {Q : Option Value × jW → Prop} {w : jW} {a1 a2 a3 a4 a5 a6 a7 : Option Value} {x : Nat} : Wp d 105 66 [some (.ref x), a1, a2, a3, a4, a5, a6, a7] (st) w Q = Wp d 105 67 [some (.ref x), a1, a2, a3, a4, a5, a6, a7] (.ref x :: st) w Q := Wp.loc e105_66 rfl rfl rfl
theorem e105_67 : decode (j_co 105) 67 = .ok (.getfield 21, 3) := by decide +kernel
set_option maxRecDepth 20000 in
theorem w105_67 {d : Nat} {st : List Value} {Q : Option Value × jW → Prop} {ls : jL} {xs : List Value} {I : fI} {L : fL} {o : Nat} (ht : f_tg o = 10) : Wp d 105 67 ls (.ref o :: st) (f_W xs I L) Q = Wp d 105 70 ls (.ref (f_rf o 1) :: st) (f_W xs I L) Q := Wp.getR (ci := 10) (k := 1) e105_67 rfl (by decide) (by decide) rfl ht
theorem e105_70 : decode (j_co 105) 70 = .ok (.invokevirtual 66, 3) := by decide +kernel
set_option maxRecDepth 20000 in
theorem w105_70 {d : Nat} {st : List Value} {Q : Option Value × jW → Prop} {ls : jL} {xs : List Value} {I : fI} {L : fL} {r : Nat} (hs : j_sumc st ≤ 8) (ht : f_tg r = 7) : Wp (d + 1) 105 70 ls (.ref r :: st) (f_W xs I L) Q = Wp d 14 0 [some (.ref r)] [] (f_W xs I L) (fun r1 => Wp (d + 1) 105 73 ls (r1.1.toList ++ st) r1.2 Q) := Wp.cv (y' := 14) (as := []) e105_70 rfl (by decide) rfl (show 1 ≤ 1 by decide) (by decide) hs ht
theorem e105_73 : decode (j_co 105) 73 = .ok (.aload 6, 2) := by decide +kernel
set_option maxRecDepth 20000 in
theorem w105_73 {d : Nat} {st : List Value} {Q : Option Value × jW → Prop} {w : jW} {a0 a1 a2 a3 a4 a5 a7 : Option Value} {x : Nat} : Wp d 105 73 [a0, a1, a2, a3, a4, a5, some (.ref x), a7] (st) w Q = Wp d 105 75 [a0, a1, a2, a3, a4, a5, some (.ref x), a7] (.ref x :: st) w Q := Wp.loc e105_73 rfl rfl rfl
theorem e105_75 : decode (j_co 105) 75 = .ok (.aload_n 0, 1) := by decide +kernel
set_option maxRecDepth 20000 in
theorem w105_75 {d : Nat} {st : List Value} {Q : Option Value × jW → Prop} {w : jW} {a1 a2 a3 a4 a5 a6 a7 : Option Value} {x : Nat} : Wp d 105 75 [some (.ref x), a1, a2, a3, a4, a5, a6, a7] (st) w Q = Wp d 105 76 [some (.ref x), a1, a2, a3, a4, a5, a6, a7] (.ref x :: st) w Q := Wp.loc e105_75 rfl rfl rfl
theorem e105_76 : decode (j_co 105) 76 = .ok (.getfield 57, 3) := by decide +kernel
set_option maxRecDepth 20000 in
theorem w105_76 {d : Nat} {st : List Value} {Q : Option Value × jW → Prop} {ls : jL} {xs : List Value} {I : fI} {L : fL} {o : Nat} (ht : f_tg o = 10) : Wp d 105 76 ls (.ref o :: st) (f_W xs I L) Q = Wp d 105 79 ls (.ref (f_rf o 6) :: st) (f_W xs I L) Q := Wp.getR (ci := 10) (k := 6) e105_76 rfl (by decide) (by decide) rfl ht
theorem e105_79 : decode (j_co 105) 79 = .ok (.invokevirtual 259, 3) := by decide +kernel
set_option maxRecDepth 20000 in
theorem w105_79 {d : Nat} {st : List Value} {Q : Option Value × jW → Prop} {ls : jL} {xs : List Value} {I : fI} {L : fL} {r : Nat} {x0 : Nat} (hs : j_sumc st ≤ 8) (ht : f_tg r = 0) : Wp (d + 1) 105 79 ls (.ref x0 :: .ref r :: st) (f_W xs I L) Q = Wp d 31 0 [some (.ref r), some (.ref x0), none] [] (f_W xs I L) (fun r1 => Wp (d + 1) 105 82 ls (r1.1.toList ++ st) r1.2 Q) := Wp.cv (y' := 31) (as := [.ref x0]) e105_79 rfl (by decide) rfl (show 2 ≤ 3 by decide) (by decide) hs ht
theorem e105_82 : decode (j_co 105) 82 = .ok (.iload 7, 2) := by decide +kernel
set_option maxRecDepth 20000 in
theorem w105_82 {d : Nat} {st : List Value} {Q : Option Value × jW → Prop} {w : jW} {a0 a1 a2 a3 a4 a5 a6 : Option Value} {x : Int32} : Wp d 105 82 [a0, a1, a2, a3, a4, a5, a6, some (.int x)] (st) w Q = Wp d 105 84 [a0, a1, a2, a3, a4, a5, a6, some (.int x)] (.int x :: st) w Q := Wp.loc e105_82 rfl rfl rfl
theorem e105_84 : decode (j_co 105) 84 = .ok (.ireturn, 1) := by decide +kernel
set_option maxRecDepth 20000 in
theorem w105_84 {d : Nat} {Q : Option Value × jW → Prop} {ls : jL} {w : jW} {x : Int32} : Wp d 105 84 ls [.int x] w Q = Q (some (.int x), w) := Wp.ret e105_84 rfl
/-! X.drawTarget -/
theorem e106_0 : decode (j_co 106) 0 = .ok (.iload_n 1, 1) := by decide +kernel
set_option maxRecDepth 20000 in
theorem w106_0 {d : Nat} {st : List Value} {Q : Option Value × jW → Prop} {w : jW} {a0 a2 : Option Value} {x : Int32} : Wp d 106 0 [a0, some (.int x), a2] (st) w Q = Wp d 106 1 [a0, some (.int x), a2] (.int x :: st) w Q := Wp.loc e106_0 rfl rfl rfl
theorem e106_1 : decode (j_co 106) 1 = .ok (.ifCond .ne 27, 3) := by decide +kernel
set_option maxRecDepth 20000 in
theorem w106_1 {d : Nat} {st : List Value} {Q : Option Value × jW → Prop} {ls : jL} {w : jW} {a : Int32} : Wp d 106 1 ls (.int a :: st) w Q = ((a = nI 0 → Wp d 106 4 ls st w Q) ∧ (¬ a = nI 0 → Wp d 106 28 ls st w Q)) := Wp.if2n (c := a = nI 0) (off := 27) e106_1 rfl rfl rfl rfl rfl
theorem e106_4 : decode (j_co 106) 4 = .ok (.aload_n 0, 1) := by decide +kernel
set_option maxRecDepth 20000 in
theorem w106_4 {d : Nat} {st : List Value} {Q : Option Value × jW → Prop} {w : jW} {a1 a2 : Option Value} {x : Nat} : Wp d 106 4 [some (.ref x), a1, a2] (st) w Q = Wp d 106 5 [some (.ref x), a1, a2] (.ref x :: st) w Q := Wp.loc e106_4 rfl rfl rfl
theorem e106_5 : decode (j_co 106) 5 = .ok (.getfield 10, 3) := by decide +kernel
set_option maxRecDepth 20000 in
theorem w106_5 {d : Nat} {st : List Value} {Q : Option Value × jW → Prop} {ls : jL} {xs : List Value} {I : fI} {L : fL} {o : Nat} (ht : f_tg o = 10) : Wp d 106 5 ls (.ref o :: st) (f_W xs I L) Q = Wp d 106 8 ls (.ref (f_rf o 0) :: st) (f_W xs I L) Q := Wp.getR (ci := 10) (k := 0) e106_5 rfl (by decide) (by decide) rfl ht
theorem e106_8 : decode (j_co 106) 8 = .ok (.iload_n 2, 1) := by decide +kernel
set_option maxRecDepth 20000 in
theorem w106_8 {d : Nat} {st : List Value} {Q : Option Value × jW → Prop} {w : jW} {a0 a1 : Option Value} {x : Int32} : Wp d 106 8 [a0, a1, some (.int x)] (st) w Q = Wp d 106 9 [a0, a1, some (.int x)] (.int x :: st) w Q := Wp.loc e106_8 rfl rfl rfl
theorem e106_9 : decode (j_co 106) 9 = .ok (.invokevirtual 69, 3) := by decide +kernel
set_option maxRecDepth 20000 in
theorem w106_9 {d : Nat} {st : List Value} {Q : Option Value × jW → Prop} {ls : jL} {xs : List Value} {I : fI} {L : fL} {r : Nat} {x0 : Int32} (hs : j_sumc st ≤ 8) (ht : f_tg r = 5) : Wp (d + 1) 106 9 ls (.int x0 :: .ref r :: st) (f_W xs I L) Q = Wp d 16 0 [some (.ref r), some (.int x0)] [] (f_W xs I L) (fun r1 => Wp (d + 1) 106 12 ls (r1.1.toList ++ st) r1.2 Q) := Wp.cv (y' := 16) (as := [.int x0]) e106_9 rfl (by decide) rfl (show 2 ≤ 2 by decide) (by decide) hs ht
theorem e106_12 : decode (j_co 106) 12 = .ok (.ifCond .eq 16, 3) := by decide +kernel
set_option maxRecDepth 20000 in
theorem w106_12 {d : Nat} {st : List Value} {Q : Option Value × jW → Prop} {ls : jL} {w : jW} {a : Int32} : Wp d 106 12 ls (.int a :: st) w Q = ((a = nI 0 → Wp d 106 28 ls st w Q) ∧ (¬ a = nI 0 → Wp d 106 15 ls st w Q)) := Wp.if2 (c := a = nI 0) (off := 16) e106_12 rfl rfl rfl rfl rfl
theorem e106_15 : decode (j_co 106) 15 = .ok (.aload_n 0, 1) := by decide +kernel
set_option maxRecDepth 20000 in
theorem w106_15 {d : Nat} {st : List Value} {Q : Option Value × jW → Prop} {w : jW} {a1 a2 : Option Value} {x : Nat} : Wp d 106 15 [some (.ref x), a1, a2] (st) w Q = Wp d 106 16 [some (.ref x), a1, a2] (.ref x :: st) w Q := Wp.loc e106_15 rfl rfl rfl
theorem e106_16 : decode (j_co 106) 16 = .ok (.getfield 10, 3) := by decide +kernel
set_option maxRecDepth 20000 in
theorem w106_16 {d : Nat} {st : List Value} {Q : Option Value × jW → Prop} {ls : jL} {xs : List Value} {I : fI} {L : fL} {o : Nat} (ht : f_tg o = 10) : Wp d 106 16 ls (.ref o :: st) (f_W xs I L) Q = Wp d 106 19 ls (.ref (f_rf o 0) :: st) (f_W xs I L) Q := Wp.getR (ci := 10) (k := 0) e106_16 rfl (by decide) (by decide) rfl ht
theorem e106_19 : decode (j_co 106) 19 = .ok (.getfield 77, 3) := by decide +kernel
set_option maxRecDepth 20000 in
theorem w106_19 {d : Nat} {st : List Value} {Q : Option Value × jW → Prop} {ls : jL} {xs : List Value} {I : fI} {L : fL} {o : Nat} (ht : f_tg o = 5) : Wp d 106 19 ls (.ref o :: st) (f_W xs I L) Q = Wp d 106 22 ls (.ref (f_rf o 0) :: st) (f_W xs I L) Q := Wp.getR (ci := 5) (k := 0) e106_19 rfl (by decide) (by decide) rfl ht
theorem e106_22 : decode (j_co 106) 22 = .ok (.iload_n 2, 1) := by decide +kernel
set_option maxRecDepth 20000 in
theorem w106_22 {d : Nat} {st : List Value} {Q : Option Value × jW → Prop} {w : jW} {a0 a1 : Option Value} {x : Int32} : Wp d 106 22 [a0, a1, some (.int x)] (st) w Q = Wp d 106 23 [a0, a1, some (.int x)] (.int x :: st) w Q := Wp.loc e106_22 rfl rfl rfl
theorem e106_23 : decode (j_co 106) 23 = .ok (.aaload, 1) := by decide +kernel
set_option maxRecDepth 20000 in
theorem w106_23 {d : Nat} {st : List Value} {Q : Option Value × jW → Prop} {ls : jL} {xs : List Value} {I : fI} {L : fL} {o : Nat} {i : Int32} (ht : 103 ≤ f_tg o ∧ f_tg o ≤ 106) (hi : ¬ (i < 0 ∨ f_ln o ≤ i.toNatClampNeg)) : Wp d 106 23 ls (.int i :: .ref o :: st) (f_W xs I L) Q = Wp d 106 24 ls (.ref (f_rf o i.toNatClampNeg) :: st) (f_W xs I L) Q := Wp.aald e106_23 rfl ht hi
theorem e106_24 : decode (j_co 106) 24 = .ok (.getfield 81, 3) := by decide +kernel
set_option maxRecDepth 20000 in
theorem w106_24 {d : Nat} {st : List Value} {Q : Option Value × jW → Prop} {ls : jL} {xs : List Value} {I : fI} {L : fL} {o : Nat} (ht : f_tg o = 6) : Wp d 106 24 ls (.ref o :: st) (f_W xs I L) Q = Wp d 106 27 ls (.ref (f_rf o 0) :: st) (f_W xs I L) Q := Wp.getR (ci := 6) (k := 0) e106_24 rfl (by decide) (by decide) rfl ht
theorem e106_27 : decode (j_co 106) 27 = .ok (.areturn, 1) := by decide +kernel
set_option maxRecDepth 20000 in
theorem w106_27 {d : Nat} {Q : Option Value × jW → Prop} {ls : jL} {w : jW} {x : Nat} : Wp d 106 27 ls [.ref x] w Q = Q (some (.ref x), w) := Wp.ret e106_27 rfl
set_option maxRecDepth 20000 in
theorem w106_27n {d : Nat} {Q : Option Value × jW → Prop} {ls : jL} {w : jW} : Wp d 106 27 ls [.null] w Q = Q (some .null, w) := Wp.ret e106_27 rfl
theorem e106_28 : decode (j_co 106) 28 = .ok (.iload_n 1, 1) := by decide +kernel
set_option maxRecDepth 20000 in
theorem w106_28 {d : Nat} {st : List Value} {Q : Option Value × jW → Prop} {w : jW} {a0 a2 : Option Value} {x : Int32} : Wp d 106 28 [a0, some (.int x), a2] (st) w Q = Wp d 106 29 [a0, some (.int x), a2] (.int x :: st) w Q := Wp.loc e106_28 rfl rfl rfl
theorem e106_29 : decode (j_co 106) 29 = .ok (.iconst 1, 1) := by decide +kernel
set_option maxRecDepth 20000 in
theorem w106_29 {d : Nat} {st : List Value} {Q : Option Value × jW → Prop} {ls : jL} {w : jW} : Wp d 106 29 ls (st) w Q = Wp d 106 30 ls (.int (nI 1) :: st) w Q := Wp.alu e106_29 rfl rfl
theorem e106_30 : decode (j_co 106) 30 = .ok (.if_icmp .ne 27, 3) := by decide +kernel
set_option maxRecDepth 20000 in
theorem w106_30 {d : Nat} {st : List Value} {Q : Option Value × jW → Prop} {ls : jL} {w : jW} {a b : Int32} : Wp d 106 30 ls (.int b :: .int a :: st) w Q = ((a = b → Wp d 106 33 ls st w Q) ∧ (¬ a = b → Wp d 106 57 ls st w Q)) := Wp.if2n (c := a = b) (off := 27) e106_30 rfl rfl rfl rfl rfl
theorem e106_33 : decode (j_co 106) 33 = .ok (.aload_n 0, 1) := by decide +kernel
set_option maxRecDepth 20000 in
theorem w106_33 {d : Nat} {st : List Value} {Q : Option Value × jW → Prop} {w : jW} {a1 a2 : Option Value} {x : Nat} : Wp d 106 33 [some (.ref x), a1, a2] (st) w Q = Wp d 106 34 [some (.ref x), a1, a2] (.ref x :: st) w Q := Wp.loc e106_33 rfl rfl rfl
theorem e106_34 : decode (j_co 106) 34 = .ok (.getfield 10, 3) := by decide +kernel
set_option maxRecDepth 20000 in
theorem w106_34 {d : Nat} {st : List Value} {Q : Option Value × jW → Prop} {ls : jL} {xs : List Value} {I : fI} {L : fL} {o : Nat} (ht : f_tg o = 10) : Wp d 106 34 ls (.ref o :: st) (f_W xs I L) Q = Wp d 106 37 ls (.ref (f_rf o 0) :: st) (f_W xs I L) Q := Wp.getR (ci := 10) (k := 0) e106_34 rfl (by decide) (by decide) rfl ht
theorem e106_37 : decode (j_co 106) 37 = .ok (.iload_n 2, 1) := by decide +kernel
set_option maxRecDepth 20000 in
theorem w106_37 {d : Nat} {st : List Value} {Q : Option Value × jW → Prop} {w : jW} {a0 a1 : Option Value} {x : Int32} : Wp d 106 37 [a0, a1, some (.int x)] (st) w Q = Wp d 106 38 [a0, a1, some (.int x)] (.int x :: st) w Q := Wp.loc e106_37 rfl rfl rfl
theorem e106_38 : decode (j_co 106) 38 = .ok (.invokevirtual 69, 3) := by decide +kernel
set_option maxRecDepth 20000 in
theorem w106_38 {d : Nat} {st : List Value} {Q : Option Value × jW → Prop} {ls : jL} {xs : List Value} {I : fI} {L : fL} {r : Nat} {x0 : Int32} (hs : j_sumc st ≤ 8) (ht : f_tg r = 5) : Wp (d + 1) 106 38 ls (.int x0 :: .ref r :: st) (f_W xs I L) Q = Wp d 16 0 [some (.ref r), some (.int x0)] [] (f_W xs I L) (fun r1 => Wp (d + 1) 106 41 ls (r1.1.toList ++ st) r1.2 Q) := Wp.cv (y' := 16) (as := [.int x0]) e106_38 rfl (by decide) rfl (show 2 ≤ 2 by decide) (by decide) hs ht
theorem e106_41 : decode (j_co 106) 41 = .ok (.ifCond .eq 16, 3) := by decide +kernel
set_option maxRecDepth 20000 in
theorem w106_41 {d : Nat} {st : List Value} {Q : Option Value × jW → Prop} {ls : jL} {w : jW} {a : Int32} : Wp d 106 41 ls (.int a :: st) w Q = ((a = nI 0 → Wp d 106 57 ls st w Q) ∧ (¬ a = nI 0 → Wp d 106 44 ls st w Q)) := Wp.if2 (c := a = nI 0) (off := 16) e106_41 rfl rfl rfl rfl rfl
theorem e106_44 : decode (j_co 106) 44 = .ok (.aload_n 0, 1) := by decide +kernel
set_option maxRecDepth 20000 in
theorem w106_44 {d : Nat} {st : List Value} {Q : Option Value × jW → Prop} {w : jW} {a1 a2 : Option Value} {x : Nat} : Wp d 106 44 [some (.ref x), a1, a2] (st) w Q = Wp d 106 45 [some (.ref x), a1, a2] (.ref x :: st) w Q := Wp.loc e106_44 rfl rfl rfl
theorem e106_45 : decode (j_co 106) 45 = .ok (.getfield 10, 3) := by decide +kernel
set_option maxRecDepth 20000 in
theorem w106_45 {d : Nat} {st : List Value} {Q : Option Value × jW → Prop} {ls : jL} {xs : List Value} {I : fI} {L : fL} {o : Nat} (ht : f_tg o = 10) : Wp d 106 45 ls (.ref o :: st) (f_W xs I L) Q = Wp d 106 48 ls (.ref (f_rf o 0) :: st) (f_W xs I L) Q := Wp.getR (ci := 10) (k := 0) e106_45 rfl (by decide) (by decide) rfl ht
theorem e106_48 : decode (j_co 106) 48 = .ok (.getfield 77, 3) := by decide +kernel
set_option maxRecDepth 20000 in
theorem w106_48 {d : Nat} {st : List Value} {Q : Option Value × jW → Prop} {ls : jL} {xs : List Value} {I : fI} {L : fL} {o : Nat} (ht : f_tg o = 5) : Wp d 106 48 ls (.ref o :: st) (f_W xs I L) Q = Wp d 106 51 ls (.ref (f_rf o 0) :: st) (f_W xs I L) Q := Wp.getR (ci := 5) (k := 0) e106_48 rfl (by decide) (by decide) rfl ht
theorem e106_51 : decode (j_co 106) 51 = .ok (.iload_n 2, 1) := by decide +kernel
set_option maxRecDepth 20000 in
theorem w106_51 {d : Nat} {st : List Value} {Q : Option Value × jW → Prop} {w : jW} {a0 a1 : Option Value} {x : Int32} : Wp d 106 51 [a0, a1, some (.int x)] (st) w Q = Wp d 106 52 [a0, a1, some (.int x)] (.int x :: st) w Q := Wp.loc e106_51 rfl rfl rfl
theorem e106_52 : decode (j_co 106) 52 = .ok (.aaload, 1) := by decide +kernel
set_option maxRecDepth 20000 in
theorem w106_52 {d : Nat} {st : List Value} {Q : Option Value × jW → Prop} {ls : jL} {xs : List Value} {I : fI} {L : fL} {o : Nat} {i : Int32} (ht : 103 ≤ f_tg o ∧ f_tg o ≤ 106) (hi : ¬ (i < 0 ∨ f_ln o ≤ i.toNatClampNeg)) : Wp d 106 52 ls (.int i :: .ref o :: st) (f_W xs I L) Q = Wp d 106 53 ls (.ref (f_rf o i.toNatClampNeg) :: st) (f_W xs I L) Q := Wp.aald e106_52 rfl ht hi
theorem e106_53 : decode (j_co 106) 53 = .ok (.getfield 90, 3) := by decide +kernel
set_option maxRecDepth 20000 in
theorem w106_53 {d : Nat} {st : List Value} {Q : Option Value × jW → Prop} {ls : jL} {xs : List Value} {I : fI} {L : fL} {o : Nat} (ht : f_tg o = 6) : Wp d 106 53 ls (.ref o :: st) (f_W xs I L) Q = Wp d 106 56 ls (.ref (f_rf o 1) :: st) (f_W xs I L) Q := Wp.getR (ci := 6) (k := 1) e106_53 rfl (by decide) (by decide) rfl ht
theorem e106_56 : decode (j_co 106) 56 = .ok (.areturn, 1) := by decide +kernel
set_option maxRecDepth 20000 in
theorem w106_56 {d : Nat} {Q : Option Value × jW → Prop} {ls : jL} {w : jW} {x : Nat} : Wp d 106 56 ls [.ref x] w Q = Q (some (.ref x), w) := Wp.ret e106_56 rfl
set_option maxRecDepth 20000 in
theorem w106_56n {d : Nat} {Q : Option Value × jW → Prop} {ls : jL} {w : jW} : Wp d 106 56 ls [.null] w Q = Q (some .null, w) := Wp.ret e106_56 rfl
theorem e106_57 : decode (j_co 106) 57 = .ok (.iload_n 1, 1) := by decide +kernel
set_option maxRecDepth 20000 in
theorem w106_57 {d : Nat} {st : List Value} {Q : Option Value × jW → Prop} {w : jW} {a0 a2 : Option Value} {x : Int32} : Wp d 106 57 [a0, some (.int x), a2] (st) w Q = Wp d 106 58 [a0, some (.int x), a2] (.int x :: st) w Q := Wp.loc e106_57 rfl rfl rfl
theorem e106_58 : decode (j_co 106) 58 = .ok (.iconst 2, 1) := by decide +kernel
set_option maxRecDepth 20000 in
theorem w106_58 {d : Nat} {st : List Value} {Q : Option Value × jW → Prop} {ls : jL} {w : jW} : Wp d 106 58 ls (st) w Q = Wp d 106 59 ls (.int (nI 2) :: st) w Q := Wp.alu e106_58 rfl rfl
theorem e106_59 : decode (j_co 106) 59 = .ok (.if_icmp .ne 27, 3) := by decide +kernel
set_option maxRecDepth 20000 in
theorem w106_59 {d : Nat} {st : List Value} {Q : Option Value × jW → Prop} {ls : jL} {w : jW} {a b : Int32} : Wp d 106 59 ls (.int b :: .int a :: st) w Q = ((a = b → Wp d 106 62 ls st w Q) ∧ (¬ a = b → Wp d 106 86 ls st w Q)) := Wp.if2n (c := a = b) (off := 27) e106_59 rfl rfl rfl rfl rfl
theorem e106_62 : decode (j_co 106) 62 = .ok (.aload_n 0, 1) := by decide +kernel
set_option maxRecDepth 20000 in
theorem w106_62 {d : Nat} {st : List Value} {Q : Option Value × jW → Prop} {w : jW} {a1 a2 : Option Value} {x : Nat} : Wp d 106 62 [some (.ref x), a1, a2] (st) w Q = Wp d 106 63 [some (.ref x), a1, a2] (.ref x :: st) w Q := Wp.loc e106_62 rfl rfl rfl
theorem e106_63 : decode (j_co 106) 63 = .ok (.getfield 10, 3) := by decide +kernel
set_option maxRecDepth 20000 in
theorem w106_63 {d : Nat} {st : List Value} {Q : Option Value × jW → Prop} {ls : jL} {xs : List Value} {I : fI} {L : fL} {o : Nat} (ht : f_tg o = 10) : Wp d 106 63 ls (.ref o :: st) (f_W xs I L) Q = Wp d 106 66 ls (.ref (f_rf o 0) :: st) (f_W xs I L) Q := Wp.getR (ci := 10) (k := 0) e106_63 rfl (by decide) (by decide) rfl ht
theorem e106_66 : decode (j_co 106) 66 = .ok (.iload_n 2, 1) := by decide +kernel
set_option maxRecDepth 20000 in
theorem w106_66 {d : Nat} {st : List Value} {Q : Option Value × jW → Prop} {w : jW} {a0 a1 : Option Value} {x : Int32} : Wp d 106 66 [a0, a1, some (.int x)] (st) w Q = Wp d 106 67 [a0, a1, some (.int x)] (.int x :: st) w Q := Wp.loc e106_66 rfl rfl rfl
theorem e106_67 : decode (j_co 106) 67 = .ok (.invokevirtual 108, 3) := by decide +kernel
set_option maxRecDepth 20000 in
theorem w106_67 {d : Nat} {st : List Value} {Q : Option Value × jW → Prop} {ls : jL} {xs : List Value} {I : fI} {L : fL} {r : Nat} {x0 : Int32} (hs : j_sumc st ≤ 8) (ht : f_tg r = 5) : Wp (d + 1) 106 67 ls (.int x0 :: .ref r :: st) (f_W xs I L) Q = Wp d 22 0 [some (.ref r), some (.int x0)] [] (f_W xs I L) (fun r1 => Wp (d + 1) 106 70 ls (r1.1.toList ++ st) r1.2 Q) := Wp.cv (y' := 22) (as := [.int x0]) e106_67 rfl (by decide) rfl (show 2 ≤ 2 by decide) (by decide) hs ht
theorem e106_70 : decode (j_co 106) 70 = .ok (.ifCond .eq 16, 3) := by decide +kernel
set_option maxRecDepth 20000 in
theorem w106_70 {d : Nat} {st : List Value} {Q : Option Value × jW → Prop} {ls : jL} {w : jW} {a : Int32} : Wp d 106 70 ls (.int a :: st) w Q = ((a = nI 0 → Wp d 106 86 ls st w Q) ∧ (¬ a = nI 0 → Wp d 106 73 ls st w Q)) := Wp.if2 (c := a = nI 0) (off := 16) e106_70 rfl rfl rfl rfl rfl
theorem e106_73 : decode (j_co 106) 73 = .ok (.aload_n 0, 1) := by decide +kernel
set_option maxRecDepth 20000 in
theorem w106_73 {d : Nat} {st : List Value} {Q : Option Value × jW → Prop} {w : jW} {a1 a2 : Option Value} {x : Nat} : Wp d 106 73 [some (.ref x), a1, a2] (st) w Q = Wp d 106 74 [some (.ref x), a1, a2] (.ref x :: st) w Q := Wp.loc e106_73 rfl rfl rfl
theorem e106_74 : decode (j_co 106) 74 = .ok (.getfield 10, 3) := by decide +kernel
set_option maxRecDepth 20000 in
theorem w106_74 {d : Nat} {st : List Value} {Q : Option Value × jW → Prop} {ls : jL} {xs : List Value} {I : fI} {L : fL} {o : Nat} (ht : f_tg o = 10) : Wp d 106 74 ls (.ref o :: st) (f_W xs I L) Q = Wp d 106 77 ls (.ref (f_rf o 0) :: st) (f_W xs I L) Q := Wp.getR (ci := 10) (k := 0) e106_74 rfl (by decide) (by decide) rfl ht
theorem e106_77 : decode (j_co 106) 77 = .ok (.getfield 96, 3) := by decide +kernel
set_option maxRecDepth 20000 in
theorem w106_77 {d : Nat} {st : List Value} {Q : Option Value × jW → Prop} {ls : jL} {xs : List Value} {I : fI} {L : fL} {o : Nat} (ht : f_tg o = 5) : Wp d 106 77 ls (.ref o :: st) (f_W xs I L) Q = Wp d 106 80 ls (.ref (f_rf o 1) :: st) (f_W xs I L) Q := Wp.getR (ci := 5) (k := 1) e106_77 rfl (by decide) (by decide) rfl ht
theorem e106_80 : decode (j_co 106) 80 = .ok (.iload_n 2, 1) := by decide +kernel
set_option maxRecDepth 20000 in
theorem w106_80 {d : Nat} {st : List Value} {Q : Option Value × jW → Prop} {w : jW} {a0 a1 : Option Value} {x : Int32} : Wp d 106 80 [a0, a1, some (.int x)] (st) w Q = Wp d 106 81 [a0, a1, some (.int x)] (.int x :: st) w Q := Wp.loc e106_80 rfl rfl rfl
theorem e106_81 : decode (j_co 106) 81 = .ok (.aaload, 1) := by decide +kernel
set_option maxRecDepth 20000 in
theorem w106_81 {d : Nat} {st : List Value} {Q : Option Value × jW → Prop} {ls : jL} {xs : List Value} {I : fI} {L : fL} {o : Nat} {i : Int32} (ht : 103 ≤ f_tg o ∧ f_tg o ≤ 106) (hi : ¬ (i < 0 ∨ f_ln o ≤ i.toNatClampNeg)) : Wp d 106 81 ls (.int i :: .ref o :: st) (f_W xs I L) Q = Wp d 106 82 ls (.ref (f_rf o i.toNatClampNeg) :: st) (f_W xs I L) Q := Wp.aald e106_81 rfl ht hi
theorem e106_82 : decode (j_co 106) 82 = .ok (.getfield 111, 3) := by decide +kernel
set_option maxRecDepth 20000 in
theorem w106_82 {d : Nat} {st : List Value} {Q : Option Value × jW → Prop} {ls : jL} {xs : List Value} {I : fI} {L : fL} {o : Nat} (ht : f_tg o = 4) : Wp d 106 82 ls (.ref o :: st) (f_W xs I L) Q = Wp d 106 85 ls (.ref (f_rf o 0) :: st) (f_W xs I L) Q := Wp.getR (ci := 4) (k := 0) e106_82 rfl (by decide) (by decide) rfl ht
theorem e106_85 : decode (j_co 106) 85 = .ok (.areturn, 1) := by decide +kernel
set_option maxRecDepth 20000 in
theorem w106_85 {d : Nat} {Q : Option Value × jW → Prop} {ls : jL} {w : jW} {x : Nat} : Wp d 106 85 ls [.ref x] w Q = Q (some (.ref x), w) := Wp.ret e106_85 rfl
set_option maxRecDepth 20000 in
theorem w106_85n {d : Nat} {Q : Option Value × jW → Prop} {ls : jL} {w : jW} : Wp d 106 85 ls [.null] w Q = Q (some .null, w) := Wp.ret e106_85 rfl
theorem e106_86 : decode (j_co 106) 86 = .ok (.aconst_null, 1) := by decide +kernel
set_option maxRecDepth 20000 in
theorem w106_86 {d : Nat} {st : List Value} {Q : Option Value × jW → Prop} {ls : jL} {w : jW} : Wp d 106 86 ls (st) w Q = Wp d 106 87 ls (.null :: st) w Q := Wp.alu e106_86 rfl rfl
theorem e106_87 : decode (j_co 106) 87 = .ok (.areturn, 1) := by decide +kernel
set_option maxRecDepth 20000 in
theorem w106_87 {d : Nat} {Q : Option Value × jW → Prop} {ls : jL} {w : jW} {x : Nat} : Wp d 106 87 ls [.ref x] w Q = Q (some (.ref x), w) := Wp.ret e106_87 rfl
set_option maxRecDepth 20000 in
theorem w106_87n {d : Nat} {Q : Option Value × jW → Prop} {ls : jL} {w : jW} : Wp d 106 87 ls [.null] w Q = Q (some .null, w) := Wp.ret e106_87 rfl
/-! X.count -/
theorem e109_0 : decode (j_co 109) 0 = .ok (.iload_n 1, 1) := by decide +kernel
set_option maxRecDepth 20000 in
theorem w109_0 {d : Nat} {st : List Value} {Q : Option Value × jW → Prop} {w : jW} {a0 : Option Value} {x : Int32} : Wp d 109 0 [a0, some (.int x)] (st) w Q = Wp d 109 1 [a0, some (.int x)] (.int x :: st) w Q := Wp.loc e109_0 rfl rfl rfl
theorem e109_1 : decode (j_co 109) 1 = .ok (.tableswitch 110 0 4 #[35, 43, 51, 66, 81], 35) := by decide +kernel
theorem e109_36 : decode (j_co 109) 36 = .ok (.aload_n 0, 1) := by decide +kernel
set_option maxRecDepth 20000 in
theorem w109_36 {d : Nat} {st : List Value} {Q : Option Value × jW → Prop} {w : jW} {a1 : Option Value} {x : Nat} : Wp d 109 36 [some (.ref x), a1] (st) w Q = Wp d 109 37 [some (.ref x), a1] (.ref x :: st) w Q := Wp.loc e109_36 rfl rfl rfl
theorem e109_37 : decode (j_co 109) 37 = .ok (.getfield 10, 3) := by decide +kernel
set_option maxRecDepth 20000 in
theorem w109_37 {d : Nat} {st : List Value} {Q : Option Value × jW → Prop} {ls : jL} {xs : List Value} {I : fI} {L : fL} {o : Nat} (ht : f_tg o = 10) : Wp d 109 37 ls (.ref o :: st) (f_W xs I L) Q = Wp d 109 40 ls (.ref (f_rf o 0) :: st) (f_W xs I L) Q := Wp.getR (ci := 10) (k := 0) e109_37 rfl (by decide) (by decide) rfl ht
theorem e109_40 : decode (j_co 109) 40 = .ok (.getfield 62, 3) := by decide +kernel
set_option maxRecDepth 20000 in
theorem w109_40 {d : Nat} {st : List Value} {Q : Option Value × jW → Prop} {ls : jL} {xs : List Value} {I : fI} {L : fL} {o : Nat} (ht : f_tg o = 5) : Wp d 109 40 ls (.ref o :: st) (f_W xs I L) Q = Wp d 109 43 ls (.int (I o 4) :: st) (f_W xs I L) Q := Wp.getI (ci := 5) (k := 4) e109_40 rfl (by decide) (by decide) (by decide) ht
theorem e109_43 : decode (j_co 109) 43 = .ok (.ireturn, 1) := by decide +kernel
set_option maxRecDepth 20000 in
theorem w109_43 {d : Nat} {Q : Option Value × jW → Prop} {ls : jL} {w : jW} {x : Int32} : Wp d 109 43 ls [.int x] w Q = Q (some (.int x), w) := Wp.ret e109_43 rfl
theorem e109_44 : decode (j_co 109) 44 = .ok (.aload_n 0, 1) := by decide +kernel
set_option maxRecDepth 20000 in
theorem w109_44 {d : Nat} {st : List Value} {Q : Option Value × jW → Prop} {w : jW} {a1 : Option Value} {x : Nat} : Wp d 109 44 [some (.ref x), a1] (st) w Q = Wp d 109 45 [some (.ref x), a1] (.ref x :: st) w Q := Wp.loc e109_44 rfl rfl rfl
theorem e109_45 : decode (j_co 109) 45 = .ok (.getfield 10, 3) := by decide +kernel
set_option maxRecDepth 20000 in
theorem w109_45 {d : Nat} {st : List Value} {Q : Option Value × jW → Prop} {ls : jL} {xs : List Value} {I : fI} {L : fL} {o : Nat} (ht : f_tg o = 10) : Wp d 109 45 ls (.ref o :: st) (f_W xs I L) Q = Wp d 109 48 ls (.ref (f_rf o 0) :: st) (f_W xs I L) Q := Wp.getR (ci := 10) (k := 0) e109_45 rfl (by decide) (by decide) rfl ht
theorem e109_48 : decode (j_co 109) 48 = .ok (.getfield 93, 3) := by decide +kernel
set_option maxRecDepth 20000 in
theorem w109_48 {d : Nat} {st : List Value} {Q : Option Value × jW → Prop} {ls : jL} {xs : List Value} {I : fI} {L : fL} {o : Nat} (ht : f_tg o = 5) : Wp d 109 48 ls (.ref o :: st) (f_W xs I L) Q = Wp d 109 51 ls (.int (I o 5) :: st) (f_W xs I L) Q := Wp.getI (ci := 5) (k := 5) e109_48 rfl (by decide) (by decide) (by decide) ht
theorem e109_51 : decode (j_co 109) 51 = .ok (.ireturn, 1) := by decide +kernel
set_option maxRecDepth 20000 in
theorem w109_51 {d : Nat} {Q : Option Value × jW → Prop} {ls : jL} {w : jW} {x : Int32} : Wp d 109 51 ls [.int x] w Q = Q (some (.int x), w) := Wp.ret e109_51 rfl
theorem e109_52 : decode (j_co 109) 52 = .ok (.aload_n 0, 1) := by decide +kernel
set_option maxRecDepth 20000 in
theorem w109_52 {d : Nat} {st : List Value} {Q : Option Value × jW → Prop} {w : jW} {a1 : Option Value} {x : Nat} : Wp d 109 52 [some (.ref x), a1] (st) w Q = Wp d 109 53 [some (.ref x), a1] (.ref x :: st) w Q := Wp.loc e109_52 rfl rfl rfl
theorem e109_53 : decode (j_co 109) 53 = .ok (.getfield 21, 3) := by decide +kernel
set_option maxRecDepth 20000 in
theorem w109_53 {d : Nat} {st : List Value} {Q : Option Value × jW → Prop} {ls : jL} {xs : List Value} {I : fI} {L : fL} {o : Nat} (ht : f_tg o = 10) : Wp d 109 53 ls (.ref o :: st) (f_W xs I L) Q = Wp d 109 56 ls (.ref (f_rf o 1) :: st) (f_W xs I L) Q := Wp.getR (ci := 10) (k := 1) e109_53 rfl (by decide) (by decide) rfl ht
theorem e109_56 : decode (j_co 109) 56 = .ok (.invokevirtual 139, 3) := by decide +kernel
set_option maxRecDepth 20000 in
theorem w109_56 {d : Nat} {st : List Value} {Q : Option Value × jW → Prop} {ls : jL} {xs : List Value} {I : fI} {L : fL} {r : Nat} (hs : j_sumc st ≤ 8) (ht : f_tg r = 7) : Wp (d + 1) 109 56 ls (.ref r :: st) (f_W xs I L) Q = Wp d 29 0 [some (.ref r)] [] (f_W xs I L) (fun r1 => Wp (d + 1) 109 59 ls (r1.1.toList ++ st) r1.2 Q) := Wp.cv (y' := 29) (as := []) e109_56 rfl (by decide) rfl (show 1 ≤ 1 by decide) (by decide) hs ht
theorem e109_59 : decode (j_co 109) 59 = .ok (.aload_n 0, 1) := by decide +kernel
set_option maxRecDepth 20000 in
theorem w109_59 {d : Nat} {st : List Value} {Q : Option Value × jW → Prop} {w : jW} {a1 : Option Value} {x : Nat} : Wp d 109 59 [some (.ref x), a1] (st) w Q = Wp d 109 60 [some (.ref x), a1] (.ref x :: st) w Q := Wp.loc e109_59 rfl rfl rfl
theorem e109_60 : decode (j_co 109) 60 = .ok (.getfield 21, 3) := by decide +kernel
set_option maxRecDepth 20000 in
theorem w109_60 {d : Nat} {st : List Value} {Q : Option Value × jW → Prop} {ls : jL} {xs : List Value} {I : fI} {L : fL} {o : Nat} (ht : f_tg o = 10) : Wp d 109 60 ls (.ref o :: st) (f_W xs I L) Q = Wp d 109 63 ls (.ref (f_rf o 1) :: st) (f_W xs I L) Q := Wp.getR (ci := 10) (k := 1) e109_60 rfl (by decide) (by decide) rfl ht
theorem e109_63 : decode (j_co 109) 63 = .ok (.getfield 263, 3) := by decide +kernel
set_option maxRecDepth 20000 in
theorem w109_63 {d : Nat} {st : List Value} {Q : Option Value × jW → Prop} {ls : jL} {xs : List Value} {I : fI} {L : fL} {o : Nat} (ht : f_tg o = 7) : Wp d 109 63 ls (.ref o :: st) (f_W xs I L) Q = Wp d 109 66 ls (.int (I o 6) :: st) (f_W xs I L) Q := Wp.getI (ci := 7) (k := 6) e109_63 rfl (by decide) (by decide) (by decide) ht
theorem e109_66 : decode (j_co 109) 66 = .ok (.ireturn, 1) := by decide +kernel
set_option maxRecDepth 20000 in
theorem w109_66 {d : Nat} {Q : Option Value × jW → Prop} {ls : jL} {w : jW} {x : Int32} : Wp d 109 66 ls [.int x] w Q = Q (some (.int x), w) := Wp.ret e109_66 rfl
theorem e109_67 : decode (j_co 109) 67 = .ok (.aload_n 0, 1) := by decide +kernel
set_option maxRecDepth 20000 in
theorem w109_67 {d : Nat} {st : List Value} {Q : Option Value × jW → Prop} {w : jW} {a1 : Option Value} {x : Nat} : Wp d 109 67 [some (.ref x), a1] (st) w Q = Wp d 109 68 [some (.ref x), a1] (.ref x :: st) w Q := Wp.loc e109_67 rfl rfl rfl
theorem e109_68 : decode (j_co 109) 68 = .ok (.getfield 21, 3) := by decide +kernel
set_option maxRecDepth 20000 in
theorem w109_68 {d : Nat} {st : List Value} {Q : Option Value × jW → Prop} {ls : jL} {xs : List Value} {I : fI} {L : fL} {o : Nat} (ht : f_tg o = 10) : Wp d 109 68 ls (.ref o :: st) (f_W xs I L) Q = Wp d 109 71 ls (.ref (f_rf o 1) :: st) (f_W xs I L) Q := Wp.getR (ci := 10) (k := 1) e109_68 rfl (by decide) (by decide) rfl ht
theorem e109_71 : decode (j_co 109) 71 = .ok (.invokevirtual 139, 3) := by decide +kernel
set_option maxRecDepth 20000 in
theorem w109_71 {d : Nat} {st : List Value} {Q : Option Value × jW → Prop} {ls : jL} {xs : List Value} {I : fI} {L : fL} {r : Nat} (hs : j_sumc st ≤ 8) (ht : f_tg r = 7) : Wp (d + 1) 109 71 ls (.ref r :: st) (f_W xs I L) Q = Wp d 29 0 [some (.ref r)] [] (f_W xs I L) (fun r1 => Wp (d + 1) 109 74 ls (r1.1.toList ++ st) r1.2 Q) := Wp.cv (y' := 29) (as := []) e109_71 rfl (by decide) rfl (show 1 ≤ 1 by decide) (by decide) hs ht
theorem e109_74 : decode (j_co 109) 74 = .ok (.aload_n 0, 1) := by decide +kernel
set_option maxRecDepth 20000 in
theorem w109_74 {d : Nat} {st : List Value} {Q : Option Value × jW → Prop} {w : jW} {a1 : Option Value} {x : Nat} : Wp d 109 74 [some (.ref x), a1] (st) w Q = Wp d 109 75 [some (.ref x), a1] (.ref x :: st) w Q := Wp.loc e109_74 rfl rfl rfl
theorem e109_75 : decode (j_co 109) 75 = .ok (.getfield 21, 3) := by decide +kernel
set_option maxRecDepth 20000 in
theorem w109_75 {d : Nat} {st : List Value} {Q : Option Value × jW → Prop} {ls : jL} {xs : List Value} {I : fI} {L : fL} {o : Nat} (ht : f_tg o = 10) : Wp d 109 75 ls (.ref o :: st) (f_W xs I L) Q = Wp d 109 78 ls (.ref (f_rf o 1) :: st) (f_W xs I L) Q := Wp.getR (ci := 10) (k := 1) e109_75 rfl (by decide) (by decide) rfl ht
theorem e109_78 : decode (j_co 109) 78 = .ok (.getfield 266, 3) := by decide +kernel
set_option maxRecDepth 20000 in
theorem w109_78 {d : Nat} {st : List Value} {Q : Option Value × jW → Prop} {ls : jL} {xs : List Value} {I : fI} {L : fL} {o : Nat} (ht : f_tg o = 7) : Wp d 109 78 ls (.ref o :: st) (f_W xs I L) Q = Wp d 109 81 ls (.int (I o 7) :: st) (f_W xs I L) Q := Wp.getI (ci := 7) (k := 7) e109_78 rfl (by decide) (by decide) (by decide) ht
theorem e109_81 : decode (j_co 109) 81 = .ok (.ireturn, 1) := by decide +kernel
set_option maxRecDepth 20000 in
theorem w109_81 {d : Nat} {Q : Option Value × jW → Prop} {ls : jL} {w : jW} {x : Int32} : Wp d 109 81 ls [.int x] w Q = Q (some (.int x), w) := Wp.ret e109_81 rfl
theorem e109_82 : decode (j_co 109) 82 = .ok (.aload_n 0, 1) := by decide +kernel
set_option maxRecDepth 20000 in
theorem w109_82 {d : Nat} {st : List Value} {Q : Option Value × jW → Prop} {w : jW} {a1 : Option Value} {x : Nat} : Wp d 109 82 [some (.ref x), a1] (st) w Q = Wp d 109 83 [some (.ref x), a1] (.ref x :: st) w Q := Wp.loc e109_82 rfl rfl rfl
theorem e109_83 : decode (j_co 109) 83 = .ok (.getfield 50, 3) := by decide +kernel
set_option maxRecDepth 20000 in
theorem w109_83 {d : Nat} {st : List Value} {Q : Option Value × jW → Prop} {ls : jL} {xs : List Value} {I : fI} {L : fL} {o : Nat} (ht : f_tg o = 10) : Wp d 109 83 ls (.ref o :: st) (f_W xs I L) Q = Wp d 109 86 ls (.ref (f_rf o 5) :: st) (f_W xs I L) Q := Wp.getR (ci := 10) (k := 5) e109_83 rfl (by decide) (by decide) rfl ht
theorem e109_86 : decode (j_co 109) 86 = .ok (.iconst 0, 1) := by decide +kernel
set_option maxRecDepth 20000 in
theorem w109_86 {d : Nat} {st : List Value} {Q : Option Value × jW → Prop} {ls : jL} {w : jW} : Wp d 109 86 ls (st) w Q = Wp d 109 87 ls (.int (nI 0) :: st) w Q := Wp.alu e109_86 rfl rfl
theorem e109_87 : decode (j_co 109) 87 = .ok (.aaload, 1) := by decide +kernel
set_option maxRecDepth 20000 in
theorem w109_87 {d : Nat} {st : List Value} {Q : Option Value × jW → Prop} {ls : jL} {xs : List Value} {I : fI} {L : fL} {o : Nat} {i : Int32} (ht : 103 ≤ f_tg o ∧ f_tg o ≤ 106) (hi : ¬ (i < 0 ∨ f_ln o ≤ i.toNatClampNeg)) : Wp d 109 87 ls (.int i :: .ref o :: st) (f_W xs I L) Q = Wp d 109 88 ls (.ref (f_rf o i.toNatClampNeg) :: st) (f_W xs I L) Q := Wp.aald e109_87 rfl ht hi
theorem e109_88 : decode (j_co 109) 88 = .ok (.getfield 269, 3) := by decide +kernel
set_option maxRecDepth 20000 in
theorem w109_88 {d : Nat} {st : List Value} {Q : Option Value × jW → Prop} {ls : jL} {xs : List Value} {I : fI} {L : fL} {o : Nat} (ht : f_tg o = 8) : Wp d 109 88 ls (.ref o :: st) (f_W xs I L) Q = Wp d 109 91 ls (.int (I o 1) :: st) (f_W xs I L) Q := Wp.getI (ci := 8) (k := 1) e109_88 rfl (by decide) (by decide) (by decide) ht
theorem e109_91 : decode (j_co 109) 91 = .ok (.bipush (-4), 2) := by decide +kernel
set_option maxRecDepth 20000 in
theorem w109_91 {d : Nat} {st : List Value} {Q : Option Value × jW → Prop} {ls : jL} {w : jW} : Wp d 109 91 ls (st) w Q = Wp d 109 93 ls (.int (-4) :: st) w Q := Wp.alu e109_91 rfl rfl
theorem e109_93 : decode (j_co 109) 93 = .ok (.if_icmp .ne 8, 3) := by decide +kernel
set_option maxRecDepth 20000 in
theorem w109_93 {d : Nat} {st : List Value} {Q : Option Value × jW → Prop} {ls : jL} {w : jW} {a b : Int32} : Wp d 109 93 ls (.int b :: .int a :: st) w Q = ((a = b → Wp d 109 96 ls st w Q) ∧ (¬ a = b → Wp d 109 101 ls st w Q)) := Wp.if2n (c := a = b) (off := 8) e109_93 rfl rfl rfl rfl rfl
theorem e109_96 : decode (j_co 109) 96 = .ok (.bipush (-4), 2) := by decide +kernel
set_option maxRecDepth 20000 in
theorem w109_96 {d : Nat} {st : List Value} {Q : Option Value × jW → Prop} {ls : jL} {w : jW} : Wp d 109 96 ls (st) w Q = Wp d 109 98 ls (.int (-4) :: st) w Q := Wp.alu e109_96 rfl rfl
theorem e109_98 : decode (j_co 109) 98 = .ok (.goto 12, 3) := by decide +kernel
set_option maxRecDepth 20000 in
theorem w109_98 {d : Nat} {st : List Value} {Q : Option Value × jW → Prop} {ls : jL} {w : jW} : Wp d 109 98 ls (st) w Q = Wp d 109 110 ls (st) w Q := Wp.br e109_98 (Or.inl rfl) rfl rfl rfl rfl
theorem e109_101 : decode (j_co 109) 101 = .ok (.aload_n 0, 1) := by decide +kernel
set_option maxRecDepth 20000 in
theorem w109_101 {d : Nat} {st : List Value} {Q : Option Value × jW → Prop} {w : jW} {a1 : Option Value} {x : Nat} : Wp d 109 101 [some (.ref x), a1] (st) w Q = Wp d 109 102 [some (.ref x), a1] (.ref x :: st) w Q := Wp.loc e109_101 rfl rfl rfl
theorem e109_102 : decode (j_co 109) 102 = .ok (.getfield 50, 3) := by decide +kernel
set_option maxRecDepth 20000 in
theorem w109_102 {d : Nat} {st : List Value} {Q : Option Value × jW → Prop} {ls : jL} {xs : List Value} {I : fI} {L : fL} {o : Nat} (ht : f_tg o = 10) : Wp d 109 102 ls (.ref o :: st) (f_W xs I L) Q = Wp d 109 105 ls (.ref (f_rf o 5) :: st) (f_W xs I L) Q := Wp.getR (ci := 10) (k := 5) e109_102 rfl (by decide) (by decide) rfl ht
theorem e109_105 : decode (j_co 109) 105 = .ok (.iconst 0, 1) := by decide +kernel
set_option maxRecDepth 20000 in
theorem w109_105 {d : Nat} {st : List Value} {Q : Option Value × jW → Prop} {ls : jL} {w : jW} : Wp d 109 105 ls (st) w Q = Wp d 109 106 ls (.int (nI 0) :: st) w Q := Wp.alu e109_105 rfl rfl
theorem e109_106 : decode (j_co 109) 106 = .ok (.aaload, 1) := by decide +kernel
set_option maxRecDepth 20000 in
theorem w109_106 {d : Nat} {st : List Value} {Q : Option Value × jW → Prop} {ls : jL} {xs : List Value} {I : fI} {L : fL} {o : Nat} {i : Int32} (ht : 103 ≤ f_tg o ∧ f_tg o ≤ 106) (hi : ¬ (i < 0 ∨ f_ln o ≤ i.toNatClampNeg)) : Wp d 109 106 ls (.int i :: .ref o :: st) (f_W xs I L) Q = Wp d 109 107 ls (.ref (f_rf o i.toNatClampNeg) :: st) (f_W xs I L) Q := Wp.aald e109_106 rfl ht hi
theorem e109_107 : decode (j_co 109) 107 = .ok (.getfield 272, 3) := by decide +kernel
set_option maxRecDepth 20000 in
theorem w109_107 {d : Nat} {st : List Value} {Q : Option Value × jW → Prop} {ls : jL} {xs : List Value} {I : fI} {L : fL} {o : Nat} (ht : f_tg o = 8) : Wp d 109 107 ls (.ref o :: st) (f_W xs I L) Q = Wp d 109 110 ls (.int (I o 2) :: st) (f_W xs I L) Q := Wp.getI (ci := 8) (k := 2) e109_107 rfl (by decide) (by decide) (by decide) ht
theorem e109_110 : decode (j_co 109) 110 = .ok (.ireturn, 1) := by decide +kernel
set_option maxRecDepth 20000 in
theorem w109_110 {d : Nat} {Q : Option Value × jW → Prop} {ls : jL} {w : jW} {x : Int32} : Wp d 109 110 ls [.int x] w Q = Q (some (.int x), w) := Wp.ret e109_110 rfl
theorem e109_111 : decode (j_co 109) 111 = .ok (.iconst (-1), 1) := by decide +kernel
set_option maxRecDepth 20000 in
theorem w109_111 {d : Nat} {st : List Value} {Q : Option Value × jW → Prop} {ls : jL} {w : jW} : Wp d 109 111 ls (st) w Q = Wp d 109 112 ls (.int (-1) :: st) w Q := Wp.alu e109_111 rfl rfl
theorem e109_112 : decode (j_co 109) 112 = .ok (.ireturn, 1) := by decide +kernel
set_option maxRecDepth 20000 in
theorem w109_112 {d : Nat} {Q : Option Value × jW → Prop} {ls : jL} {w : jW} {x : Int32} : Wp d 109 112 ls [.int x] w Q = Q (some (.int x), w) := Wp.ret e109_112 rfl
